/-! PURE: pass, forecasts -/
theorem p_in1 {p lo hi : Int32} (h : p < lo) : f_X7_in p lo hi = 0 := by
  unfold f_X7_in
  rw [if_pos h]
theorem p_in2 {p lo hi : Int32} (h : hi < p) : f_X7_in p lo hi = 0 := by
  unfold f_X7_in
  by_cases e : p < lo
  · rw [if_pos e]
  · rw [if_neg e, if_pos h]
theorem p_in3 {p lo hi : Int32} (h1 : ¬ p < lo) (h2 : p ≤ hi) : f_X7_in p lo hi = 1 := by
  unfold f_X7_in
  rw [if_neg h1, if_neg (Int32.not_lt.mpr h2)]
theorem n10 : ¬ (1 : Int32) = 0 := by decide
theorem q_1no {x : Int32} (h : x = 1) : ¬ x = 0 := by rw [h]; exact n10
theorem pu_pass (cx : (Nat → Int32)) (o : (Nat → Int32)) (st : (Nat → Int32)) (b : (Nat → Nat → Int32)) (pf : (Nat → Nat → Int32)) (g : (Nat → Nat → Int32)) (so : (Nat → Int32)) (sst : (Nat → Int32)) (sb : (Nat → Nat → Int32)) (sp : (Nat → Nat → Int32)) (sg : (Nat → Nat → Int32)) (hh : HVal) (t : (Nat → Nat → Int32)) (mo : (Nat → Int32)) (f : (Nat → Int32)) (fw : (Nat → Int32)) (fs : (Nat → Int32)) (tx : (Nat → Int32)) (a1 : Int32) (h : Rel cx o st b pf g so sst sb sp sg hh t mo f fw fs tx) : (ok_X6_pass o st b pf g hh a1) ∧ (ok_X7_pass mo f fw a1) ∧ (f_X6_pass o st b pf g hh a1).1 = (f_X7_pass mo f fw a1).1 ∧ Rel cx ((f_X6_pass o st b pf g hh a1).2.1) st ((f_X6_pass o st b pf g hh a1).2.2.1) pf ((f_X6_pass o st b pf g hh a1).2.2.2.1) so sst sb sp sg ((f_X6_pass o st b pf g hh a1).2.2.2.2) t ((f_X7_pass mo f fw a1).2.1) ((f_X7_pass mo f fw a1).2.2.1) ((f_X7_pass mo f fw a1).2.2.2) fs tx := by
  obtain ⟨hS, k1, k2⟩ := Rel_now h
  have e3 : o 3 = f 76 := hS.2.2.2.1.2.2.2.1
  by_cases h1 : a1 < 1
  · have e := p_in1 (hi := 200) h1
    have e6 : f_X6_pass o st b pf g hh a1 = ((-2), o, b, g, hh) := by unfold f_X6_pass; rw [if_pos h1]
    have e7 : f_X7_pass mo f fw a1 = ((-2), mo, f, fw) := by unfold f_X7_pass; rw [q_gLp, if_pos e]
    refine ⟨?_, ?_, ?_⟩
    · unfold ok_X6_pass; exact ⟨fun _ => trivial, fun q => absurd h1 q⟩
    · unfold ok_X7_pass; exact ⟨fun _ => trivial, fun q => absurd e q⟩
    · rw [e6, e7]; exact ⟨rfl, h⟩
  · by_cases h2 : a1 ≤ 200
    · have e := q_1no (p_in3 h1 h2)
      by_cases h3 : o 3 + a1 ≤ 99999
      · have h3' : f 76 + a1 ≤ 99999 := by rw [← e3]; exact h3
        obtain ⟨P, hP, eP⟩ := q_rg (x := a1) (M := 200) (n := 200) (by decide) (Int32.le_trans (by decide) (Int32.not_lt.mp h1)) h2
        subst eP
        obtain ⟨i1, f', i2, i3, -, -, i6⟩ := p_passLoop hP (f_X7_records mo f fw) 0 201 0 o b g f (by omega) (by omega) hS
        have e6 : f_X6_pass o st b pf g hh (nI P) = ((f_X4_passTicks o st b pf g (nI P)).1 0, (f_X4_passTicks o st b pf g (nI P)).1, (f_X4_passTicks o st b pf g (nI P)).2.1, (f_X4_passTicks o st b pf g (nI P)).2.2, f_hadd o st b pf g hh) := by unfold f_X6_pass; rw [if_neg h1, if_pos h2, if_pos h3, q_gLp, q_gLp]
        have e7 : f_X7_pass mo f fw (nI P) = (f' 73, (f_X7_records mo f fw).1, f', (f_X7_records mo f fw).2) := by unfold f_X7_pass; rw [q_gLp, if_neg e, if_pos h3', q_gLp]; exact i2
        refine ⟨?_, ?_, ?_⟩
        · unfold ok_X6_pass; exact ⟨fun q => absurd q h1, fun _ => ⟨fun _ => ⟨fun _ => ⟨k1, i1, trivial⟩, fun q => absurd h3 q⟩, fun q => absurd h2 q⟩⟩
        · unfold ok_X7_pass; exact ⟨fun q => absurd q e, fun _ => ⟨fun _ => ⟨k2, i3⟩, fun q => absurd h3' q⟩⟩
        · rw [e6, e7]; exact ⟨i6.2.2.2.1.1, Rel_rec h i6⟩
      · have h3' : ¬ f 76 + a1 ≤ 99999 := by rw [← e3]; exact h3
        have e6 : f_X6_pass o st b pf g hh a1 = ((-3), o, b, g, hh) := by unfold f_X6_pass; rw [if_neg h1, if_pos h2, if_neg h3]
        have e7 : f_X7_pass mo f fw a1 = ((-3), mo, f, fw) := by unfold f_X7_pass; rw [q_gLp, if_neg e, if_neg h3']
        refine ⟨?_, ?_, ?_⟩
        · unfold ok_X6_pass; exact ⟨fun q => absurd q h1, fun _ => ⟨fun _ => ⟨fun q => absurd q h3, fun _ => trivial⟩, fun q => absurd h2 q⟩⟩
        · unfold ok_X7_pass; exact ⟨fun q => absurd q e, fun _ => ⟨fun q => absurd q h3', fun _ => trivial⟩⟩
        · rw [e6, e7]; exact ⟨rfl, h⟩
    · have e : f_X7_in a1 1 200 = 0 := p_in2 (Int32.not_le.mp h2)
      have e6 : f_X6_pass o st b pf g hh a1 = ((-2), o, b, g, hh) := by unfold f_X6_pass; rw [if_neg h1, if_neg h2]
      have e7 : f_X7_pass mo f fw a1 = ((-2), mo, f, fw) := by unfold f_X7_pass; rw [q_gLp, if_pos e]
      refine ⟨?_, ?_, ?_⟩
      · unfold ok_X6_pass; exact ⟨fun q => absurd q h1, fun _ => ⟨fun q => absurd q h2, fun _ => trivial⟩⟩
      · unfold ok_X7_pass; exact ⟨fun _ => trivial, fun q => absurd e q⟩
      · rw [e6, e7]; exact ⟨rfl, h⟩
theorem pu_doneIn (cx : (Nat → Int32)) (o : (Nat → Int32)) (st : (Nat → Int32)) (b : (Nat → Nat → Int32)) (pf : (Nat → Nat → Int32)) (g : (Nat → Nat → Int32)) (fo : (Nat → Int32)) (fst : (Nat → Int32)) (fb : (Nat → Nat → Int32)) (fp : (Nat → Nat → Int32)) (fg : (Nat → Nat → Int32)) (so : (Nat → Int32)) (sst : (Nat → Int32)) (sb : (Nat → Nat → Int32)) (sp : (Nat → Nat → Int32)) (sg : (Nat → Nat → Int32)) (hh : HVal) (t : (Nat → Nat → Int32)) (mo : (Nat → Int32)) (f : (Nat → Int32)) (ft : (Nat → Int32)) (fw : (Nat → Int32)) (fs : (Nat → Int32)) (tx : (Nat → Int32)) (h : Rel cx o st b pf g so sst sb sp sg hh t mo f fw fs tx) : (ok_X6_doneIn o st b pf g) ∧ (ok_X7_doneIn f ft) ∧ (f_X6_doneIn o st b pf g fo fst fb fp fg).1 = (f_X7_doneIn f ft).1 ∧ Rel cx o st b pf g so sst sb sp sg hh t mo f fw fs tx := by
  obtain ⟨hS, k1, k2⟩ := Rel_now h
  have e0 : o 0 = f 73 := hS.2.2.2.1.1
  have hcp : ok_X4_copyFrom o := k1.2.2
  obtain ⟨c1, c2⟩ := p_copy112 f ft
  have hz : RS o st b pf g (cpA f ft 0 0) := RS_112 hS (fun j hj => cpA_lo0 f ft hj)
  obtain ⟨r1, r2, r3, r4⟩ := p_runs (P := 2000) (by omega) 2001 1 o b g (cpA f ft 0 0) (by omega) (by omega) (by omega) hz
  rw [← c1] at r1 r3
  by_cases h2 : o 0 = 2
  · have h2' : f 73 = 2 := e0.symm.trans h2
    have e6 : f_X6_doneIn o st b pf g fo fst fb fp fg = (0, fo, fst, fb, fp, fg) := by unfold f_X6_doneIn; rw [if_pos h2]
    have e7 : f_X7_doneIn f ft = (0, f_X7_copies112 f ft 0) := by unfold f_X7_doneIn; rw [q_gLp, if_pos h2']
    refine ⟨?_, ?_, ?_⟩
    · unfold ok_X6_doneIn; exact ⟨fun _ => trivial, fun q => absurd h2 q⟩
    · unfold ok_X7_doneIn; exact ⟨c2, fun _ => trivial, fun q => absurd h2' q⟩
    · rw [e6, e7]; exact ⟨rfl, h⟩
  · have h2' : ¬ f 73 = 2 := fun q => h2 (e0.trans q)
    have e6 : (f_X6_doneIn o st b pf g fo fst fb fp fg).1 = (f_X4_runUntilDone o st b pf g 2000).1 := by unfold f_X6_doneIn; rw [if_neg h2, q_gLp]
    have e7 : (f_X7_doneIn f ft).1 = (f_X7_doneBy (f_X7_copies112 f ft 0) 2000).1 := by unfold f_X7_doneIn; rw [q_gLp, if_neg h2', q_gLp]
    refine ⟨?_, ?_, ?_, h⟩
    · unfold ok_X6_doneIn; exact ⟨fun q => absurd q h2, fun _ => ⟨hcp, r2, trivial⟩⟩
    · unfold ok_X7_doneIn; exact ⟨c2, fun q => absurd q h2', fun _ => ⟨r3, trivial⟩⟩
    · rw [e6, e7]; exact r1
