/-! PURE: cells -/
theorem p_ofW (f : Nat → Int32) {c w : Nat} (hc : c < 6) (hw : w < 7) : f_X7_of f (nI c) (nI w) = f (7 * c + w) ∧ ok_X7_of (nI c) (nI w) := by
  unfold f_X7_of ok_X7_of
  rw [q_7, nI_add, q_c (by omega)]
  exact ⟨rfl, q_in (by omega), trivial⟩
/-- whether there is a cell, both sides -/
theorem p_isCell {st f : Nat → Int32} {b : Nat → Nat → Int32} (h : RB st b f) (a : Int32) : ok_X7_isCell f a ∧ ((f_X0_has b a = 0 ∧ f_X7_isCell f a = 0) ∨ (f_X0_has b a = 1 ∧ f_X7_isCell f a = 1 ∧ ∃ (N c : Nat), N + 1 ≤ 6 ∧ c ≤ N ∧ a = nI c ∧ b 0 0 = nI (N + 1) ∧ f 71 = nI (N + 1))) := by
  obtain ⟨N, d, h6, d1, d2, s0, b0, h71, hR, hB⟩ := h
  have e1 : f 71 - 1 = nI N := by rw [h71]; exact q_sub (a := N + 1) (b := 1) (by omega)
  have ec : f_X7_isCell f a = f_X7_in a 0 (nI N) := by unfold f_X7_isCell; rw [q_gLp, e1]
  have hg : ∀ x : Int32, (x = 0 ∨ x = 1) → gz x := fun x q => q
  have hk : (f_X7_in a 0 (nI N) = 0 ∨ f_X7_in a 0 (nI N) = 1) → ok_X7_isCell f a := by
    intro q
    unfold ok_X7_isCell
    rw [e1]
    exact ⟨q, trivial⟩
  rw [ec]
  unfold f_X0_has
  by_cases h1 : a < 0
  · have e := p_in1 (hi := nI N) h1
    refine ⟨hk (Or.inl e), Or.inl ⟨if_pos h1, e⟩⟩
  · obtain ⟨c, c1, c2⟩ := nI_of h1
    subst c2
    rw [if_neg h1, b0]
    by_cases h2 : c ≤ N
    · have e := p_in3 h1 (nI_le h2 (by omega))
      have hh : ¬ nI (N + 1) ≤ nI c := nI_ge (by omega) (by omega)
      rw [if_neg hh]
      exact ⟨hk (Or.inr e), Or.inr ⟨rfl, e, N, c, h6, h2, rfl, rfl, h71⟩⟩
    · have e : f_X7_in (nI c) 0 (nI N) = 0 := p_in2 (nI_lt (by omega) (by omega))
      have hh : nI (N + 1) ≤ nI c := nI_le (by omega) (by omega)
      rw [if_pos hh]
      exact ⟨hk (Or.inl e), Or.inl ⟨rfl, e⟩⟩
theorem pu_cell (cx : (Nat → Int32)) (o : (Nat → Int32)) (st : (Nat → Int32)) (b : (Nat → Nat → Int32)) (pf : (Nat → Nat → Int32)) (g : (Nat → Nat → Int32)) (so : (Nat → Int32)) (sst : (Nat → Int32)) (sb : (Nat → Nat → Int32)) (sp : (Nat → Nat → Int32)) (sg : (Nat → Nat → Int32)) (hh : HVal) (t : (Nat → Nat → Int32)) (mo : (Nat → Int32)) (f : (Nat → Int32)) (fw : (Nat → Int32)) (fs : (Nat → Int32)) (tx : (Nat → Int32)) (a1 : Int32) (a2 : Int32) (h : Rel cx o st b pf g so sst sb sp sg hh t mo f fw fs tx) : (ok_X6_cell st b a1 a2) ∧ (ok_X7_cell f a1 a2) ∧ (f_X6_cell st b a1 a2) = (f_X7_cell f a1 a2) ∧ Rel cx o st b pf g so sst sb sp sg hh t mo f fw fs tx := by
  obtain ⟨hS, k1, k2⟩ := Rel_now h
  obtain ⟨hi, hcase⟩ := p_isCell hS.1 a1
  rcases hcase with ⟨e6, e7⟩ | ⟨e6, e7, N, c, h6, hc, ea, b0, h71⟩
  · have v6 : f_X6_cell st b a1 a2 = -1 := by unfold f_X6_cell; rw [q_gLp, if_pos e6]
    have v7 : f_X7_cell f a1 a2 = -1 := by unfold f_X7_cell; rw [q_gLp, if_pos e7]
    refine ⟨?_, ?_, by rw [v6, v7], h⟩
    · unfold ok_X6_cell; exact ⟨fun _ => trivial, fun q => absurd e6 q⟩
    · unfold ok_X7_cell; exact ⟨hi, fun _ => trivial, fun q => absurd e7 q⟩
  · subst ea
    have r6 := q_1no e6
    have r7 := q_1no e7
    have hv : vp_in (nI c) 6 := vp_in_nI (by omega) (by omega)
    have cc : (nI c).toNatClampNeg = c := q_c (by omega)
    obtain ⟨N', d, h6', d1, d2, s0, h42, b0', h71', hR, hB, hG⟩ := RB_G hS.1 hS.2.1
    obtain ⟨bx1, bx2⟩ := p_baseX (x := b 1 c) d1 d2
    obtain ⟨by1, by2⟩ := p_base hG (show c < 6 by omega)
    have w0 := p_ofW f (show c < 6 by omega) (show 0 < 7 by omega)
    have w1 := p_ofW f (show c < 6 by omega) (show 1 < 7 by omega)
    have w2 := p_ofW f (show c < 6 by omega) (show 2 < 7 by omega)
    have w3 := p_ofW f (show c < 6 by omega) (show 3 < 7 by omega)
    have w4 := p_ofW f (show c < 6 by omega) (show 4 < 7 by omega)
    have w5 := p_ofW f (show c < 6 by omega) (show 5 < 7 by omega)
    have w6 := p_ofW f (show c < 6 by omega) (show 6 < 7 by omega)
    have m0 := hR c 0 (by omega) (by omega)
    have m1 := hR c 1 (by omega) (by omega)
    have m2 := hR c 2 (by omega) (by omega)
    have m3 := hR c 3 (by omega) (by omega)
    have m4 := hR c 4 (by omega) (by omega)
    have m5 := hR c 5 (by omega) (by omega)
    have m6 := hR c 6 (by omega) (by omega)
    suffices hh : ok_X6_cell st b (nI c) a2 ∧ ok_X7_cell f (nI c) a2 ∧ f_X6_cell st b (nI c) a2 = f_X7_cell f (nI c) a2 from ⟨hh.1, hh.2.1, hh.2.2, h⟩
    unfold ok_X6_cell ok_X7_cell f_X6_cell f_X7_cell
    by_cases c0 : a2 = 0
    · subst c0
      refine ⟨⟨fun q => absurd q r6, fun _ => ⟨fun _ => ⟨hv, trivial⟩, fun q => absurd rfl q⟩⟩, ⟨hi, fun q => absurd q r7, fun _ => ⟨fun _ => ⟨w0.2, trivial⟩, fun q => absurd rfl q⟩⟩, ?_⟩
      rw [q_gLp, if_neg r6, if_pos rfl, q_gLp, if_neg r7, if_pos rfl]
      rw [q_gLp, cc]; exact m0.trans w0.1.symm
    by_cases c1 : a2 = 1
    · subst c1
      refine ⟨⟨fun q => absurd q r6, fun _ => ⟨fun q => absurd q c0, fun _ => ⟨fun _ => ⟨hv, by rw [s0]; exact bx2, trivial⟩, fun q => absurd rfl q⟩⟩⟩, ⟨hi, fun q => absurd q r7, fun _ => ⟨fun q => absurd q c0, fun _ => ⟨fun _ => ⟨by2, trivial⟩, fun q => absurd rfl q⟩⟩⟩, ?_⟩
      rw [q_gLp, if_neg r6, if_neg c0, if_pos rfl, q_gLp, q_gLp, if_neg r7, if_neg c0, if_pos rfl]
      rw [q_gLp, cc, s0, bx1, by1, h42]; exact congrArg (fun x => bs x (nI d)) m0
    by_cases c2 : a2 = 2
    · subst c2
      refine ⟨⟨fun q => absurd q r6, fun _ => ⟨fun q => absurd q c0, fun _ => ⟨fun q => absurd q c1, fun _ => ⟨fun _ => ⟨hv, trivial⟩, fun q => absurd rfl q⟩⟩⟩⟩, ⟨hi, fun q => absurd q r7, fun _ => ⟨fun q => absurd q c0, fun _ => ⟨fun q => absurd q c1, fun _ => ⟨fun _ => ⟨w1.2, trivial⟩, fun q => absurd rfl q⟩⟩⟩⟩, ?_⟩
      rw [q_gLp, if_neg r6, if_neg c0, if_neg c1, if_pos rfl, q_gLp, if_neg r7, if_neg c0, if_neg c1, if_pos rfl]
      rw [q_gLp, cc]; exact m1.trans w1.1.symm
    by_cases c3 : a2 = 3
    · subst c3
      refine ⟨⟨fun q => absurd q r6, fun _ => ⟨fun q => absurd q c0, fun _ => ⟨fun q => absurd q c1, fun _ => ⟨fun q => absurd q c2, fun _ => ⟨fun _ => ⟨hv, trivial⟩, fun q => absurd rfl q⟩⟩⟩⟩⟩, ⟨hi, fun q => absurd q r7, fun _ => ⟨fun q => absurd q c0, fun _ => ⟨fun q => absurd q c1, fun _ => ⟨fun q => absurd q c2, fun _ => ⟨fun _ => ⟨w2.2, trivial⟩, fun q => absurd rfl q⟩⟩⟩⟩⟩, ?_⟩
      rw [q_gLp, if_neg r6, if_neg c0, if_neg c1, if_neg c2, if_pos rfl, q_gLp, if_neg r7, if_neg c0, if_neg c1, if_neg c2, if_pos rfl]
      rw [q_gLp, cc]; exact m2.trans w2.1.symm
    by_cases c4 : a2 = 4
    · subst c4
      refine ⟨⟨fun q => absurd q r6, fun _ => ⟨fun q => absurd q c0, fun _ => ⟨fun q => absurd q c1, fun _ => ⟨fun q => absurd q c2, fun _ => ⟨fun q => absurd q c3, fun _ => ⟨fun _ => ⟨hv, trivial⟩, fun q => absurd rfl q⟩⟩⟩⟩⟩⟩, ⟨hi, fun q => absurd q r7, fun _ => ⟨fun q => absurd q c0, fun _ => ⟨fun q => absurd q c1, fun _ => ⟨fun q => absurd q c2, fun _ => ⟨fun q => absurd q c3, fun _ => ⟨fun _ => ⟨w3.2, trivial⟩, fun q => absurd rfl q⟩⟩⟩⟩⟩⟩, ?_⟩
      rw [q_gLp, if_neg r6, if_neg c0, if_neg c1, if_neg c2, if_neg c3, if_pos rfl, q_gLp, if_neg r7, if_neg c0, if_neg c1, if_neg c2, if_neg c3, if_pos rfl]
      rw [q_gLp, cc]; exact m3.trans w3.1.symm
    by_cases c5 : a2 = 5
    · subst c5
      refine ⟨⟨fun q => absurd q r6, fun _ => ⟨fun q => absurd q c0, fun _ => ⟨fun q => absurd q c1, fun _ => ⟨fun q => absurd q c2, fun _ => ⟨fun q => absurd q c3, fun _ => ⟨fun q => absurd q c4, fun _ => ⟨fun _ => ⟨hv, trivial⟩, fun q => absurd rfl q⟩⟩⟩⟩⟩⟩⟩, ⟨hi, fun q => absurd q r7, fun _ => ⟨fun q => absurd q c0, fun _ => ⟨fun q => absurd q c1, fun _ => ⟨fun q => absurd q c2, fun _ => ⟨fun q => absurd q c3, fun _ => ⟨fun q => absurd q c4, fun _ => ⟨fun _ => ⟨w4.2, trivial⟩, fun q => absurd rfl q⟩⟩⟩⟩⟩⟩⟩, ?_⟩
      rw [q_gLp, if_neg r6, if_neg c0, if_neg c1, if_neg c2, if_neg c3, if_neg c4, if_pos rfl, q_gLp, if_neg r7, if_neg c0, if_neg c1, if_neg c2, if_neg c3, if_neg c4, if_pos rfl]
      rw [q_gLp, cc]; exact m4.trans w4.1.symm
    by_cases c6 : a2 = 6
    · subst c6
      refine ⟨⟨fun q => absurd q r6, fun _ => ⟨fun q => absurd q c0, fun _ => ⟨fun q => absurd q c1, fun _ => ⟨fun q => absurd q c2, fun _ => ⟨fun q => absurd q c3, fun _ => ⟨fun q => absurd q c4, fun _ => ⟨fun q => absurd q c5, fun _ => ⟨fun _ => ⟨hv, trivial⟩, fun q => absurd rfl q⟩⟩⟩⟩⟩⟩⟩⟩, ⟨hi, fun q => absurd q r7, fun _ => ⟨fun q => absurd q c0, fun _ => ⟨fun q => absurd q c1, fun _ => ⟨fun q => absurd q c2, fun _ => ⟨fun q => absurd q c3, fun _ => ⟨fun q => absurd q c4, fun _ => ⟨fun q => absurd q c5, fun _ => ⟨fun _ => ⟨w5.2, trivial⟩, fun q => absurd rfl q⟩⟩⟩⟩⟩⟩⟩⟩, ?_⟩
      rw [q_gLp, if_neg r6, if_neg c0, if_neg c1, if_neg c2, if_neg c3, if_neg c4, if_neg c5, if_pos rfl, q_gLp, if_neg r7, if_neg c0, if_neg c1, if_neg c2, if_neg c3, if_neg c4, if_neg c5, if_pos rfl]
      rw [q_gLp, cc]; exact m5.trans w5.1.symm
    by_cases c7 : a2 = 7
    · subst c7
      refine ⟨⟨fun q => absurd q r6, fun _ => ⟨fun q => absurd q c0, fun _ => ⟨fun q => absurd q c1, fun _ => ⟨fun q => absurd q c2, fun _ => ⟨fun q => absurd q c3, fun _ => ⟨fun q => absurd q c4, fun _ => ⟨fun q => absurd q c5, fun _ => ⟨fun q => absurd q c6, fun _ => ⟨fun _ => ⟨hv, trivial⟩, fun q => absurd rfl q⟩⟩⟩⟩⟩⟩⟩⟩⟩, ⟨hi, fun q => absurd q r7, fun _ => ⟨fun q => absurd q c0, fun _ => ⟨fun q => absurd q c1, fun _ => ⟨fun q => absurd q c2, fun _ => ⟨fun q => absurd q c3, fun _ => ⟨fun q => absurd q c4, fun _ => ⟨fun q => absurd q c5, fun _ => ⟨fun q => absurd q c6, fun _ => ⟨fun _ => ⟨w6.2, trivial⟩, fun q => absurd rfl q⟩⟩⟩⟩⟩⟩⟩⟩⟩, ?_⟩
      rw [q_gLp, if_neg r6, if_neg c0, if_neg c1, if_neg c2, if_neg c3, if_neg c4, if_neg c5, if_neg c6, if_pos rfl, q_gLp, if_neg r7, if_neg c0, if_neg c1, if_neg c2, if_neg c3, if_neg c4, if_neg c5, if_neg c6, if_pos rfl]
      rw [q_gLp, cc]; exact m6.trans w6.1.symm
    by_cases c8 : a2 = 8
    · subst c8
      refine ⟨⟨fun q => absurd q r6, fun _ => ⟨fun q => absurd q c0, fun _ => ⟨fun q => absurd q c1, fun _ => ⟨fun q => absurd q c2, fun _ => ⟨fun q => absurd q c3, fun _ => ⟨fun q => absurd q c4, fun _ => ⟨fun q => absurd q c5, fun _ => ⟨fun q => absurd q c6, fun _ => ⟨fun q => absurd q c7, fun _ => ⟨fun _ => ⟨hv, hv, trivial⟩, fun q => absurd rfl q⟩⟩⟩⟩⟩⟩⟩⟩⟩⟩, ⟨hi, fun q => absurd q r7, fun _ => ⟨fun q => absurd q c0, fun _ => ⟨fun q => absurd q c1, fun _ => ⟨fun q => absurd q c2, fun _ => ⟨fun q => absurd q c3, fun _ => ⟨fun q => absurd q c4, fun _ => ⟨fun q => absurd q c5, fun _ => ⟨fun q => absurd q c6, fun _ => ⟨fun q => absurd q c7, fun _ => ⟨fun _ => ⟨w2.2, w3.2, trivial⟩, fun q => absurd rfl q⟩⟩⟩⟩⟩⟩⟩⟩⟩⟩, ?_⟩
      rw [q_gLp, if_neg r6, if_neg c0, if_neg c1, if_neg c2, if_neg c3, if_neg c4, if_neg c5, if_neg c6, if_neg c7, if_pos rfl, q_gLp, if_neg r7, if_neg c0, if_neg c1, if_neg c2, if_neg c3, if_neg c4, if_neg c5, if_neg c6, if_neg c7, if_pos rfl]
      rw [q_gLp, q_gLp, cc, show f_X7_of f (nI c) 2 = f (7 * c + 2) from w2.1, show f_X7_of f (nI c) 3 = f (7 * c + 3) from w3.1, ← m2, ← m3]
    refine ⟨⟨fun q => absurd q r6, fun _ => ⟨fun q => absurd q c0, fun _ => ⟨fun q => absurd q c1, fun _ => ⟨fun q => absurd q c2, fun _ => ⟨fun q => absurd q c3, fun _ => ⟨fun q => absurd q c4, fun _ => ⟨fun q => absurd q c5, fun _ => ⟨fun q => absurd q c6, fun _ => ⟨fun q => absurd q c7, fun _ => ⟨fun q => absurd q c8, fun _ => trivial⟩⟩⟩⟩⟩⟩⟩⟩⟩⟩, ⟨hi, fun q => absurd q r7, fun _ => ⟨fun q => absurd q c0, fun _ => ⟨fun q => absurd q c1, fun _ => ⟨fun q => absurd q c2, fun _ => ⟨fun q => absurd q c3, fun _ => ⟨fun q => absurd q c4, fun _ => ⟨fun q => absurd q c5, fun _ => ⟨fun q => absurd q c6, fun _ => ⟨fun q => absurd q c7, fun _ => ⟨fun q => absurd q c8, fun _ => trivial⟩⟩⟩⟩⟩⟩⟩⟩⟩⟩, ?_⟩
    rw [q_gLp, if_neg r6, if_neg c0, if_neg c1, if_neg c2, if_neg c3, if_neg c4, if_neg c5, if_neg c6, if_neg c7, if_neg c8, q_gLp, if_neg r7, if_neg c0, if_neg c1, if_neg c2, if_neg c3, if_neg c4, if_neg c5, if_neg c6, if_neg c7, if_neg c8]
