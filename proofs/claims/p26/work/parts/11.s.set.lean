/-! PURE: set -/
theorem p_inR {w : Nat} (hw : w < 9) (p2 : Int32) : f_X7_isInRange (nI w) p2 = f_X7_in p2 (cLeast w) (cMost w) ∧ ok_X7_isInRange (nI w) p2 := by
  have hgz : ∀ a b : Int32, gz (f_X7_in p2 a b) := by
    intro a b
    unfold f_X7_in
    by_cases h : p2 < a
    · rw [if_pos h]; exact Or.inl rfl
    · rw [if_neg h]
      by_cases h2 : b < p2
      · rw [if_pos h2]; exact Or.inl rfl
      · rw [if_neg h2]; exact Or.inr rfl
  rcases (show w = 0 ∨ w = 1 ∨ w = 2 ∨ w = 3 ∨ w = 4 ∨ w = 5 ∨ w = 6 ∨ w = 7 ∨ w = 8 by omega) with rfl | rfl | rfl | rfl | rfl | rfl | rfl | rfl | rfl
  · unfold f_X7_isInRange ok_X7_isInRange
    refine ⟨?_, ⟨fun _ => ⟨hgz 100 5000, trivial⟩, fun q => absurd (show nI 0 = 0 from rfl) q⟩⟩
    rw [if_pos (show nI 0 = 0 from rfl), q_gLp]
    rfl
  · unfold f_X7_isInRange ok_X7_isInRange
    refine ⟨?_, ⟨fun q => absurd q (show ¬ nI 1 = 0 by decide), fun _ => ⟨fun _ => ⟨hgz 0 200, trivial⟩, fun q => absurd (show nI 1 = 1 from rfl) q⟩⟩⟩
    rw [if_neg (show ¬ nI 1 = 0 by decide), if_pos (show nI 1 = 1 from rfl), q_gLp]
    rfl
  · unfold f_X7_isInRange ok_X7_isInRange
    refine ⟨?_, ⟨fun q => absurd q (show ¬ nI 2 = 0 by decide), fun _ => ⟨fun q => absurd q (show ¬ nI 2 = 1 by decide), fun _ => ⟨fun _ => ⟨hgz 50 100, trivial⟩, fun q => absurd (show nI 2 = 2 from rfl) q⟩⟩⟩⟩
    rw [if_neg (show ¬ nI 2 = 0 by decide), if_neg (show ¬ nI 2 = 1 by decide), if_pos (show nI 2 = 2 from rfl), q_gLp]
    rfl
  · unfold f_X7_isInRange ok_X7_isInRange
    refine ⟨?_, ⟨fun q => absurd q (show ¬ nI 3 = 0 by decide), fun _ => ⟨fun q => absurd q (show ¬ nI 3 = 1 by decide), fun _ => ⟨fun q => absurd q (show ¬ nI 3 = 2 by decide), fun _ => ⟨fun _ => ⟨hgz (-30) 80, trivial⟩, fun q => absurd (show nI 3 = 3 from rfl) q⟩⟩⟩⟩⟩
    rw [if_neg (show ¬ nI 3 = 0 by decide), if_neg (show ¬ nI 3 = 1 by decide), if_neg (show ¬ nI 3 = 2 by decide), if_pos (show nI 3 = 3 from rfl), q_gLp]
    rfl
  · unfold f_X7_isInRange ok_X7_isInRange
    refine ⟨?_, ⟨fun q => absurd q (show ¬ nI 4 = 0 by decide), fun _ => ⟨fun q => absurd q (show ¬ nI 4 = 1 by decide), fun _ => ⟨fun q => absurd q (show ¬ nI 4 = 2 by decide), fun _ => ⟨fun q => absurd q (show ¬ nI 4 = 3 by decide), fun _ => ⟨fun _ => ⟨hgz 0 10, trivial⟩, fun q => absurd (show nI 4 = 4 from rfl) q⟩⟩⟩⟩⟩⟩
    rw [if_neg (show ¬ nI 4 = 0 by decide), if_neg (show ¬ nI 4 = 1 by decide), if_neg (show ¬ nI 4 = 2 by decide), if_neg (show ¬ nI 4 = 3 by decide), if_pos (show nI 4 = 4 from rfl), q_gLp]
    rfl
  · unfold f_X7_isInRange ok_X7_isInRange
    refine ⟨?_, ⟨fun q => absurd q (show ¬ nI 5 = 0 by decide), fun _ => ⟨fun q => absurd q (show ¬ nI 5 = 1 by decide), fun _ => ⟨fun q => absurd q (show ¬ nI 5 = 2 by decide), fun _ => ⟨fun q => absurd q (show ¬ nI 5 = 3 by decide), fun _ => ⟨fun q => absurd q (show ¬ nI 5 = 4 by decide), fun _ => ⟨fun _ => ⟨hgz (-30) 80, trivial⟩, fun q => absurd (show nI 5 = 5 from rfl) q⟩⟩⟩⟩⟩⟩⟩
    rw [if_neg (show ¬ nI 5 = 0 by decide), if_neg (show ¬ nI 5 = 1 by decide), if_neg (show ¬ nI 5 = 2 by decide), if_neg (show ¬ nI 5 = 3 by decide), if_neg (show ¬ nI 5 = 4 by decide), if_pos (show nI 5 = 5 from rfl), q_gLp]
    rfl
  · unfold f_X7_isInRange ok_X7_isInRange
    refine ⟨?_, ⟨fun q => absurd q (show ¬ nI 6 = 0 by decide), fun _ => ⟨fun q => absurd q (show ¬ nI 6 = 1 by decide), fun _ => ⟨fun q => absurd q (show ¬ nI 6 = 2 by decide), fun _ => ⟨fun q => absurd q (show ¬ nI 6 = 3 by decide), fun _ => ⟨fun q => absurd q (show ¬ nI 6 = 4 by decide), fun _ => ⟨fun q => absurd q (show ¬ nI 6 = 5 by decide), fun _ => ⟨fun _ => ⟨hgz (-30) 80, trivial⟩, fun q => absurd (show nI 6 = 6 from rfl) q⟩⟩⟩⟩⟩⟩⟩⟩
    rw [if_neg (show ¬ nI 6 = 0 by decide), if_neg (show ¬ nI 6 = 1 by decide), if_neg (show ¬ nI 6 = 2 by decide), if_neg (show ¬ nI 6 = 3 by decide), if_neg (show ¬ nI 6 = 4 by decide), if_neg (show ¬ nI 6 = 5 by decide), if_pos (show nI 6 = 6 from rfl), q_gLp]
    rfl
  · unfold f_X7_isInRange ok_X7_isInRange
    refine ⟨?_, ⟨fun q => absurd q (show ¬ nI 7 = 0 by decide), fun _ => ⟨fun q => absurd q (show ¬ nI 7 = 1 by decide), fun _ => ⟨fun q => absurd q (show ¬ nI 7 = 2 by decide), fun _ => ⟨fun q => absurd q (show ¬ nI 7 = 3 by decide), fun _ => ⟨fun q => absurd q (show ¬ nI 7 = 4 by decide), fun _ => ⟨fun q => absurd q (show ¬ nI 7 = 5 by decide), fun _ => ⟨fun q => absurd q (show ¬ nI 7 = 6 by decide), fun _ => ⟨fun _ => ⟨hgz 0 500, trivial⟩, fun q => absurd (show nI 7 = 7 from rfl) q⟩⟩⟩⟩⟩⟩⟩⟩⟩
    rw [if_neg (show ¬ nI 7 = 0 by decide), if_neg (show ¬ nI 7 = 1 by decide), if_neg (show ¬ nI 7 = 2 by decide), if_neg (show ¬ nI 7 = 3 by decide), if_neg (show ¬ nI 7 = 4 by decide), if_neg (show ¬ nI 7 = 5 by decide), if_neg (show ¬ nI 7 = 6 by decide), if_pos (show nI 7 = 7 from rfl), q_gLp]
    rfl
  · unfold f_X7_isInRange ok_X7_isInRange
    refine ⟨?_, ⟨fun q => absurd q (show ¬ nI 8 = 0 by decide), fun _ => ⟨fun q => absurd q (show ¬ nI 8 = 1 by decide), fun _ => ⟨fun q => absurd q (show ¬ nI 8 = 2 by decide), fun _ => ⟨fun q => absurd q (show ¬ nI 8 = 3 by decide), fun _ => ⟨fun q => absurd q (show ¬ nI 8 = 4 by decide), fun _ => ⟨fun q => absurd q (show ¬ nI 8 = 5 by decide), fun _ => ⟨fun q => absurd q (show ¬ nI 8 = 6 by decide), fun _ => ⟨fun q => absurd q (show ¬ nI 8 = 7 by decide), fun _ => ⟨hgz 0 50, trivial⟩⟩⟩⟩⟩⟩⟩⟩⟩⟩
    rw [if_neg (show ¬ nI 8 = 0 by decide), if_neg (show ¬ nI 8 = 1 by decide), if_neg (show ¬ nI 8 = 2 by decide), if_neg (show ¬ nI 8 = 3 by decide), if_neg (show ¬ nI 8 = 4 by decide), if_neg (show ¬ nI 8 = 5 by decide), if_neg (show ¬ nI 8 = 6 by decide), if_neg (show ¬ nI 8 = 7 by decide), q_gLp]
    rfl
theorem gmax_ge1 (x y : Int32) : x ≤ gmax x y := by
  unfold gmax
  by_cases h : x < y
  · rw [if_pos h]; exact Int32.le_of_lt h
  · rw [if_neg h]; exact Int32.le_refl _
theorem gmax_ge2 (x y : Int32) : y ≤ gmax x y := by
  unfold gmax
  by_cases h : x < y
  · rw [if_pos h]; exact Int32.le_refl _
  · rw [if_neg h]; exact Int32.not_lt.mp h
theorem mx_ge (h : Nat → Int32) : ∀ k c, c ≤ k → h c ≤ mx h k
  | 0, c, hc => by
    have : c = 0 := by omega
    subst this
    exact Int32.le_refl _
  | k + 1, c, hc => by
    by_cases e : c = k + 1
    · subst e
      exact gmax_ge2 _ _
    · exact Int32.le_trans (mx_ge h k c (by omega)) (gmax_ge1 _ _)
theorem p_allow {st f : Nat → Int32} {b : Nat → Nat → Int32} (hB : RB st b f) (hT : RT st f) (p1 p2 : Int32) : ok_X4_allows b p1 ∧ ok_X7_cannotBe f p1 ∧ ((f_X4_allows st b p1 p2 = 0 ∧ ¬ f_X7_cannotBe f p1 p2 = 0) ∨ (f_X4_allows st b p1 p2 = 1 ∧ f_X7_cannotBe f p1 p2 = 0 ∧ (p1 = 0 → ∀ N, b 0 0 = nI (N + 1) → N + 1 ≤ 6 → ∀ c, c ≤ N → b 1 c ≤ p2))) := by
  obtain ⟨N, d, h6, d1, d2, s0, h42, b0, h71, hR, hN, hG⟩ := RB_G hB hT
  obtain ⟨-, w2, w3⟩ := p_charged (f := f) 1 h71 h6
  have w2 := w2 n10
  obtain ⟨l1, l2⟩ := p_great b0 h6
  have em : mx (b 1) N = mx (ch f) N := mx_congr N (fun c hc => hR c 0 (by omega) (by omega))
  obtain ⟨-, -, -, -, -, h47, h48, -, -⟩ := q_f hT
  have n05 : ¬ (0 : Int32) = 5 := by decide
  have n06 : ¬ (0 : Int32) = 6 := by decide
  have n56 : ¬ (5 : Int32) = 6 := by decide
  have n65 : ¬ (6 : Int32) = 5 := by decide
  have n50 : ¬ (5 : Int32) = 0 := by decide
  have n60 : ¬ (6 : Int32) = 0 := by decide
  unfold ok_X4_allows ok_X7_cannotBe f_X4_allows f_X7_cannotBe
  refine ⟨⟨fun _ => ⟨l2, trivial⟩, fun _ => trivial⟩, ⟨fun _ => ⟨w3, trivial⟩, fun _ => trivial⟩, ?_⟩
  by_cases h0 : p1 = 0
  · subst h0
    rw [if_pos rfl, if_pos rfl, q_gLp, q_gLp, l1, w2, em, if_neg n05, if_neg n06]
    by_cases hl : p2 < mx (ch f) N
    · rw [if_pos hl, if_pos hl]; exact Or.inl ⟨rfl, n10⟩
    · rw [if_neg hl, if_neg hl]
      refine Or.inr ⟨rfl, rfl, fun _ N' e' h6' c hc => ?_⟩
      have en : N' = N := by
        have := (nI_eq (by omega) (by omega)).mp (e'.symm.trans b0)
        omega
      subst en
      exact Int32.le_trans (by rw [← em]; exact mx_ge _ _ c hc) (Int32.not_lt.mp hl)
  · rw [if_neg h0, if_neg h0]
    by_cases h5 : p1 = 5
    · subst h5
      rw [if_pos rfl, if_pos rfl, if_neg n56, h48]
      by_cases hl : st 6 < p2
      · rw [if_pos hl, if_pos hl]; exact Or.inl ⟨rfl, n10⟩
      · rw [if_neg hl, if_neg hl]; exact Or.inr ⟨rfl, rfl, fun q => absurd q h0⟩
    · rw [if_neg h5, if_neg h5]
      by_cases h6' : p1 = 6
      · subst h6'
        rw [if_pos rfl, if_pos rfl, h47]
        by_cases hl : p2 < st 5
        · rw [if_pos hl, if_neg (Int32.not_le.mpr hl)]; exact Or.inl ⟨rfl, n10⟩
        · rw [if_neg hl, if_pos (Int32.not_lt.mp hl)]; exact Or.inr ⟨rfl, rfl, fun q => absurd q h0⟩
      · rw [if_neg h6', if_neg h6']
        exact Or.inr ⟨rfl, rfl, fun q => absurd q h0⟩
theorem p_isSet (p1 : Int32) : (f_X6_isSetting p1 = 0 ∧ f_X7_in p1 0 8 = 0) ∨ (f_X6_isSetting p1 = 1 ∧ f_X7_in p1 0 8 = 1 ∧ ∃ w : Nat, w < 9 ∧ p1 = nI w) := by
  unfold f_X6_isSetting
  by_cases h1 : p1 < 0
  · rw [if_pos h1]; exact Or.inl ⟨rfl, p_in1 h1⟩
  · obtain ⟨w, w1, w2⟩ := nI_of h1
    subst w2
    rw [if_neg h1]
    by_cases h2 : w < 9
    · have hh : ¬ (9 : Int32) ≤ nI w := nI_ge (b := 9) h2 (by omega)
      rw [if_neg hh]
      exact Or.inr ⟨rfl, p_in3 h1 (nI_le (b := 8) (by omega) (by omega)), w, h2, rfl⟩
    · have hh : (9 : Int32) ≤ nI w := nI_le (a := 9) (by omega) (by omega)
      rw [if_pos hh]
      exact Or.inl ⟨rfl, p_in2 (nI_lt (a := 8) (by omega) (by omega))⟩
theorem RS_set {o st f : Nat → Int32} {b pf g : Nat → Nat → Int32} {w : Nat} {x : Int32} (h : RS o st b pf g f) (hw : w < 9) (h1 : cLeast w ≤ x) (h2 : x ≤ cMost w) (h0 : w = 0 → ∀ N, b 0 0 = nI (N + 1) → N + 1 ≤ 6 → ∀ c, c ≤ N → b 1 c ≤ x) : RS o (upd st w x) b pf g (upd f (42 + w) x) := by
  obtain ⟨N, d, h6, d1, d2, s0, h42, b0, h71, hR, hN, hG⟩ := RB_G h.1 h.2.1
  refine ⟨?_, ?_, ?_, RO_fr h.2.2.2.1 (fun j h3 h4 => by rw [q_up, if_neg (by omega)]), RL_fr h.2.2.2.2 (fun j hj => by rw [q_up, if_neg (by omega)])⟩
  · by_cases e : w = 0
    · subst e
      obtain ⟨j, j1, j2⟩ := q_rg (x := x) (M := 5000) (n := 5000) (by decide) (Int32.le_trans (by decide) h1) h2
      have j3 : 100 ≤ j := by
        have : nI 100 ≤ nI j := by rw [← j2]; exact h1
        exact (nI_leI (by omega) (by omega)).mp this
      refine ⟨N, j, h6, j3, j1, ?_, b0, by rw [q_up, if_neg (by omega)]; exact h71, fun c w' hc hw' => by rw [q_up, if_neg (by omega)]; exact hR c w' hc hw', fun c hc => ?_⟩
      · rw [q_up, if_pos rfl]; exact j2
      · obtain ⟨a, r, a1, r1, ea, er⟩ := hN c hc
        refine ⟨a, r, ?_, r1, ea, er⟩
        have := h0 rfl N b0 h6 c hc
        rw [ea, j2] at this
        exact (nI_leI (by omega) (by omega)).mp this
    · refine ⟨N, d, h6, d1, d2, by rw [q_up, if_neg (by omega)]; exact s0, b0, by rw [q_up, if_neg (by omega)]; exact h71, fun c w' hc hw' => by rw [q_up, if_neg (by omega)]; exact hR c w' hc hw', hN⟩
  · intro k hk
    by_cases e : k = w
    · subst e
      rw [q_up, q_up, if_pos rfl, if_pos rfl]
      exact ⟨rfl, h1, h2⟩
    · rw [q_up, q_up, if_neg e, if_neg (by omega)]
      exact h.2.1 k hk
  · obtain ⟨S, hS, p0, f72, hst⟩ := h.2.2.1
    exact ⟨S, hS, p0, by rw [q_up, if_neg (by omega)]; exact f72, fun k hk => ⟨fun w' hw' => by rw [q_up, if_neg (by omega)]; exact (hst k hk).1 w' hw', (hst k hk).2⟩⟩
theorem pu_set (cx : (Nat → Int32)) (o : (Nat → Int32)) (st : (Nat → Int32)) (b : (Nat → Nat → Int32)) (pf : (Nat → Nat → Int32)) (g : (Nat → Nat → Int32)) (so : (Nat → Int32)) (sst : (Nat → Int32)) (sb : (Nat → Nat → Int32)) (sp : (Nat → Nat → Int32)) (sg : (Nat → Nat → Int32)) (hh : HVal) (t : (Nat → Nat → Int32)) (mo : (Nat → Int32)) (f : (Nat → Int32)) (fw : (Nat → Int32)) (fs : (Nat → Int32)) (tx : (Nat → Int32)) (a1 : Int32) (a2 : Int32) (h : Rel cx o st b pf g so sst sb sp sg hh t mo f fw fs tx) : (ok_X6_set o st b pf g hh a1 a2) ∧ (ok_X7_set mo f fw a1 a2) ∧ (f_X6_set o st b pf g hh a1 a2).1 = (f_X7_set mo f fw a1 a2).1 ∧ Rel cx o ((f_X6_set o st b pf g hh a1 a2).2.1) b pf g so sst sb sp sg ((f_X6_set o st b pf g hh a1 a2).2.2) t ((f_X7_set mo f fw a1 a2).2.1) ((f_X7_set mo f fw a1 a2).2.2.1) ((f_X7_set mo f fw a1 a2).2.2.2) fs tx := by
  obtain ⟨hS, k1, k2⟩ := Rel_now h
  rcases p_isSet a1 with ⟨e6, e7⟩ | ⟨e6, e7, w, hw, ea⟩
  · have v6 : f_X6_set o st b pf g hh a1 a2 = (-1, st, hh) := by unfold f_X6_set; rw [q_gLp, if_pos e6]
    have v7 : f_X7_set mo f fw a1 a2 = (-1, mo, f, fw) := by unfold f_X7_set; rw [q_gLp, if_pos e7]
    refine ⟨?_, ?_, by rw [v6, v7]; exact ⟨rfl, h⟩⟩
    · unfold ok_X6_set; exact ⟨fun _ => trivial, fun q => absurd e6 q⟩
    · unfold ok_X7_set; exact ⟨fun _ => trivial, fun q => absurd e7 q⟩
  · subst ea
    have r6 := q_1no e6
    have r7 := q_1no e7
    have hv : vp_in (nI w) 9 := vp_in_nI (by omega) (by omega)
    have cc : (nI w).toNatClampNeg = w := q_c (by omega)
    have e42 : (42 : Int32) + nI w = nI (42 + w) := nI_add 42 w
    have cf : (42 + nI w : Int32).toNatClampNeg = 42 + w := by rw [e42]; exact q_c (by omega)
    have vf : vp_in (42 + nI w) 112 := by rw [e42]; exact q_in (by omega)
    have es : f (42 + w) = st w := (hS.2.1 w hw).1.symm
    obtain ⟨t1, t2⟩ := p_inR hw a2
    obtain ⟨u1, u2, u3⟩ := p_allow hS.1 hS.2.1 (nI w) a2
    by_cases h1 : a2 < cLeast w
    · have e : f_X7_isInRange (nI w) a2 = 0 := t1.trans (p_in1 h1)
      have v6 : f_X6_set o st b pf g hh (nI w) a2 = (-2, st, hh) := by unfold f_X6_set; rw [q_gLp, if_neg r6, cc, if_pos h1]
      have v7 : f_X7_set mo f fw (nI w) a2 = (-2, mo, f, fw) := by unfold f_X7_set; rw [q_gLp, if_neg r7, q_gLp, if_pos e]
      refine ⟨?_, ?_, by rw [v6, v7]; exact ⟨rfl, h⟩⟩
      · unfold ok_X6_set; rw [cc]; exact ⟨fun q => absurd q r6, fun _ => ⟨hv, fun _ => trivial, fun q => absurd h1 q⟩⟩
      · unfold ok_X7_set; exact ⟨fun q => absurd q r7, fun _ => ⟨t2, fun _ => trivial, fun q => absurd e q⟩⟩
    · by_cases h2 : a2 ≤ cMost w
      · have e := q_1no (t1.trans (p_in3 h1 h2))
        rcases u3 with ⟨x1, x2⟩ | ⟨x1, x2, x3⟩
        · have v6 : f_X6_set o st b pf g hh (nI w) a2 = (-4, st, hh) := by unfold f_X6_set; rw [q_gLp, if_neg r6, cc, if_neg h1, if_pos h2, q_gLp, if_pos x1]
          have v7 : f_X7_set mo f fw (nI w) a2 = (-4, mo, f, fw) := by unfold f_X7_set; rw [q_gLp, if_neg r7, q_gLp, if_neg e, q_gLp, if_neg x2]
          refine ⟨?_, ?_, by rw [v6, v7]; exact ⟨rfl, h⟩⟩
          · unfold ok_X6_set; rw [cc]; exact ⟨fun q => absurd q r6, fun _ => ⟨hv, fun q => absurd q h1, fun _ => ⟨hv, fun _ => ⟨u1, fun _ => trivial, fun q => absurd x1 q⟩, fun q => absurd h2 q⟩⟩⟩
          · unfold ok_X7_set; exact ⟨fun q => absurd q r7, fun _ => ⟨t2, fun q => absurd q e, fun _ => ⟨u2, fun q => absurd q x2, fun _ => trivial⟩⟩⟩
        · have x1' := q_1no x1
          by_cases h3 : st w = a2
          · have h3' : f (42 + w) = a2 := es.trans h3
            have v6 : f_X6_set o st b pf g hh (nI w) a2 = (-5, st, hh) := by unfold f_X6_set; rw [q_gLp, if_neg r6, cc, if_neg h1, if_pos h2, q_gLp, if_neg x1', q_gLp, if_pos h3]
            have v7 : f_X7_set mo f fw (nI w) a2 = (-5, mo, f, fw) := by unfold f_X7_set; rw [q_gLp, if_neg r7, q_gLp, if_neg e, q_gLp, if_pos x2, q_gLp, cf, if_pos h3']
            refine ⟨?_, ?_, by rw [v6, v7]; exact ⟨rfl, h⟩⟩
            · unfold ok_X6_set; rw [cc]; exact ⟨fun q => absurd q r6, fun _ => ⟨hv, fun q => absurd q h1, fun _ => ⟨hv, fun _ => ⟨u1, fun q => absurd q x1', fun _ => ⟨hv, fun _ => trivial, fun q => absurd h3 q⟩⟩, fun q => absurd h2 q⟩⟩⟩
            · unfold ok_X7_set; rw [cf]; exact ⟨fun q => absurd q r7, fun _ => ⟨t2, fun q => absurd q e, fun _ => ⟨u2, fun _ => ⟨vf, fun _ => trivial, fun q => absurd h3' q⟩, fun q => absurd x2 q⟩⟩⟩
          · have h3' : ¬ f (42 + w) = a2 := fun q => h3 (es.symm.trans q)
            have v6 : f_X6_set o st b pf g hh (nI w) a2 = (st w + 1000, upd st w a2, f_hadd o st b pf g hh) := by unfold f_X6_set; rw [q_gLp, if_neg r6, cc, if_neg h1, if_pos h2, q_gLp, if_neg x1', q_gLp, if_neg h3, q_gLp, q_gLp]
            have v7 : f_X7_set mo f fw (nI w) a2 = (f (42 + w) + 1000, (f_X7_records mo f fw).1, upd f (42 + w) a2, (f_X7_records mo f fw).2) := by unfold f_X7_set; rw [q_gLp, if_neg r7, q_gLp, if_neg e, q_gLp, if_pos x2, q_gLp, cf, if_neg h3', q_gLp, q_gLp]
            have hnew := RS_set (w := w) hS hw (Int32.not_lt.mp h1) h2 (fun q => x3 (by rw [q]; rfl))
            refine ⟨?_, ?_, by rw [v6, v7]; exact ⟨congrArg (· + 1000) es.symm, Rel_rec h hnew⟩⟩
            · unfold ok_X6_set; rw [cc]; exact ⟨fun q => absurd q r6, fun _ => ⟨hv, fun q => absurd q h1, fun _ => ⟨hv, fun _ => ⟨u1, fun q => absurd q x1', fun _ => ⟨hv, fun q => absurd q h3, fun _ => ⟨k1, hv, trivial⟩⟩⟩, fun q => absurd h2 q⟩⟩⟩
            · unfold ok_X7_set; rw [cf]; exact ⟨fun q => absurd q r7, fun _ => ⟨t2, fun q => absurd q e, fun _ => ⟨u2, fun _ => ⟨vf, fun q => absurd q h3', fun _ => ⟨k2, vf, trivial⟩⟩, fun q => absurd x2 q⟩⟩⟩
      · have e : f_X7_isInRange (nI w) a2 = 0 := t1.trans (p_in2 (Int32.not_le.mp h2))
        have v6 : f_X6_set o st b pf g hh (nI w) a2 = (-2, st, hh) := by unfold f_X6_set; rw [q_gLp, if_neg r6, cc, if_neg h1, if_neg h2]
        have v7 : f_X7_set mo f fw (nI w) a2 = (-2, mo, f, fw) := by unfold f_X7_set; rw [q_gLp, if_neg r7, q_gLp, if_pos e]
        refine ⟨?_, ?_, by rw [v6, v7]; exact ⟨rfl, h⟩⟩
        · unfold ok_X6_set; rw [cc]; exact ⟨fun q => absurd q r6, fun _ => ⟨hv, fun q => absurd q h1, fun _ => ⟨hv, fun q => absurd q h2, fun _ => trivial⟩⟩⟩
        · unfold ok_X7_set; exact ⟨fun q => absurd q r7, fun _ => ⟨t2, fun _ => trivial, fun q => absurd e q⟩⟩
theorem pu_setting (cx : (Nat → Int32)) (o : (Nat → Int32)) (st : (Nat → Int32)) (b : (Nat → Nat → Int32)) (pf : (Nat → Nat → Int32)) (g : (Nat → Nat → Int32)) (so : (Nat → Int32)) (sst : (Nat → Int32)) (sb : (Nat → Nat → Int32)) (sp : (Nat → Nat → Int32)) (sg : (Nat → Nat → Int32)) (hh : HVal) (t : (Nat → Nat → Int32)) (mo : (Nat → Int32)) (f : (Nat → Int32)) (fw : (Nat → Int32)) (fs : (Nat → Int32)) (tx : (Nat → Int32)) (a1 : Int32) (h : Rel cx o st b pf g so sst sb sp sg hh t mo f fw fs tx) : (ok_X6_setting a1) ∧ (ok_X7_setting a1) ∧ (f_X6_setting st a1) = (f_X7_setting f a1) ∧ Rel cx o st b pf g so sst sb sp sg hh t mo f fw fs tx := by
  obtain ⟨hS, k1, k2⟩ := Rel_now h
  rcases p_isSet a1 with ⟨e6, e7⟩ | ⟨e6, e7, w, hw, ea⟩
  · have v6 : f_X6_setting st a1 = -1 := by unfold f_X6_setting; rw [q_gLp, if_pos e6]
    have v7 : f_X7_setting f a1 = -1 := by unfold f_X7_setting; rw [q_gLp, if_pos e7]
    refine ⟨?_, ?_, by rw [v6, v7], h⟩
    · unfold ok_X6_setting; exact ⟨fun _ => trivial, fun q => absurd e6 q⟩
    · unfold ok_X7_setting; exact ⟨fun _ => trivial, fun q => absurd e7 q⟩
  · subst ea
    have r6 := q_1no e6
    have r7 := q_1no e7
    have hv : vp_in (nI w) 9 := vp_in_nI (by omega) (by omega)
    have cc : (nI w).toNatClampNeg = w := q_c (by omega)
    have e42 : (42 : Int32) + nI w = nI (42 + w) := nI_add 42 w
    have cf : (42 + nI w : Int32).toNatClampNeg = 42 + w := by rw [e42]; exact q_c (by omega)
    have vf : vp_in (42 + nI w) 112 := by rw [e42]; exact q_in (by omega)
    have v6 : f_X6_setting st (nI w) = st w + 1000 := by unfold f_X6_setting; rw [q_gLp, if_neg r6, cc]
    have v7 : f_X7_setting f (nI w) = f (42 + w) + 1000 := by unfold f_X7_setting; rw [q_gLp, if_neg r7, cf]
    refine ⟨?_, ?_, by rw [v6, v7, (hS.2.1 w hw).1], h⟩
    · unfold ok_X6_setting; exact ⟨fun q => absurd q r6, fun _ => ⟨hv, trivial⟩⟩
    · unfold ok_X7_setting; exact ⟨fun q => absurd q r7, fun _ => ⟨vf, trivial⟩⟩
