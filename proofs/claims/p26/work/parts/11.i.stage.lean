/-! PURE: the stage of now -/
def SK (o : Nat → Int32) (pf : Nat → Nat → Int32) (f : Nat → Int32) (k S : Nat) : Prop := k < S ∧ S ≤ 5 ∧ o 1 = nI k ∧ f 74 = nI k ∧ pf 0 0 = nI S ∧ f 72 = nI S ∧ (∀ w, w < 4 → pf (1 + w) k = f (51 + 4 * k + w)) ∧ RV (pf 1 k) (pf 2 k) (pf 3 k) (pf 4 k)
theorem SK_of {o f : Nat → Int32} {pf : Nat → Nat → Int32} (hP : RP pf f) (hO : RO o pf f) (h1 : o 0 = 1) : ∃ k S, SK o pf f k S := by
  obtain ⟨S, hS, p0, f72, hst⟩ := hP
  obtain ⟨-, e1, -, -, -, -, -, -, -, hk⟩ := hO
  obtain ⟨a, b⟩ := hk h1
  rw [p0] at b
  obtain ⟨k, k1, k2⟩ := nI_of (Int32.not_lt.mpr a)
  have hkS : k < S := by
    rw [k2] at b
    exact (nI_ltI k1 (by omega)).mp b
  exact ⟨k, S, hkS, hS, k2, e1.symm.trans k2, p0, f72, (hst k hkS).1, (hst k hkS).2⟩
theorem RV_kind {k a b t : Int32} (h : RV k a b t) : k = 0 ∨ k = 1 ∨ k = 2 := by
  rcases h.1 with h | h | h
  · exact Or.inl h.1
  · exact Or.inr (Or.inl h.1)
  · exact Or.inr (Or.inr h.1)
theorem q_gLp {α : Type} {β : Sort _} (x : α) (f : α → β) : gL x f = f x := (rfl)
/-- the current, both sides -/
theorem p_cur {o st f : Nat → Int32} {b pf : Nat → Nat → Int32} {k S : Nat} (hK : SK o pf f k S) (hT : RT st f) (hB : RB st b f) : ok_X4_currentOfStage o st b pf ∧ ok_X7_told f ∧ ok_X7_endsAtOnce f ∧
    ((f_X4_currentOfStage o st b pf = -1 ∧ f_X7_endsAtOnce f (f_X7_told f) = 1) ∨ (∃ q : Nat, q ≤ 2000 ∧ f_X4_currentOfStage o st b pf = nI q ∧ f_X7_told f = nI q ∧ f_X7_endsAtOnce f (f_X7_told f) = 0)) := by
  obtain ⟨hk, hS, e1, h74, p0, h72, hst, hV⟩ := hK
  obtain ⟨s0, s1, s2, s3, t0, t1, t2, t3⟩ := p_st hk hst hS
  have hh := p_has1 hS p0 hk
  have hc : (nI k).toNatClampNeg = k := q_c (by omega)
  have hv : vp_in (nI k) 5 := vp_in_nI (by omega) (by omega)
  have n10 : ¬ (1 : Int32) = 0 := by decide
  have n20 : ¬ (2 : Int32) = 0 := by decide
  have n21 : ¬ (2 : Int32) = 1 := by decide
  have n01 : ¬ (0 : Int32) = 1 := by decide
  unfold f_X4_currentOfStage f_X7_told f_X7_endsAtOnce ok_X4_currentOfStage ok_X7_told ok_X7_endsAtOnce
  rw [e1, h74]
  simp only [hh, hc, s0, s1, s2]
  rcases RV_kind hV with e | e | e
  · rw [e]
    refine ⟨?_, ?_, ?_, ?_⟩
    · exact ⟨fun q => absurd q n10, fun _ => ⟨hv, fun _ => ⟨hv, trivial⟩, fun q => absurd rfl q⟩⟩
    · exact ⟨t0, fun _ => ⟨t1, trivial⟩, fun q => absurd rfl q⟩
    · exact ⟨t0, fun q => absurd q n01, fun _ => trivial⟩
    · simp only [q_gL, if_neg n10, if_neg n01, if_true]
      rcases hV.1 with ⟨-, a1, a2, -⟩ | ⟨q, -⟩ | ⟨q, -⟩
      · obtain ⟨j, j1, j2⟩ := q_rg (x := pf 2 k) (M := 2000) (n := 2000) (by decide) (Int32.le_trans (by decide) a1) a2
        exact Or.inr ⟨j, j1, j2, j2, trivial⟩
      · rw [e] at q; exact absurd q n01
      · rw [e] at q; exact absurd q (by decide)
  · obtain ⟨g1, g2, g3, q, hq, eq⟩ := p_held hk hst hS hT hB hV e h74
    obtain ⟨l1, l2, l3, l4⟩ := p_limit hk hst hS hT (Or.inr e)
    obtain ⟨-, v2, -⟩ := p_high hB hT 0
    rw [e]
    refine ⟨?_, ?_, ?_, ?_⟩
    · exact ⟨fun q => absurd q n10, fun _ => ⟨hv, fun q => absurd q n10, fun _ => ⟨fun _ => ⟨l3, v2, g2, hv, trivial⟩, fun _ => trivial⟩⟩⟩
    · exact ⟨t0, fun q => absurd q n10, fun _ => ⟨fun _ => ⟨g3, trivial⟩, fun _ => trivial⟩⟩
    · exact ⟨t0, fun _ => ⟨t2, trivial⟩, fun _ => trivial⟩
    · simp only [q_gLp, if_neg n10, if_true]
      rw [g1, eq]
      by_cases hl : pf 3 k < nI q
      · rw [if_pos hl, if_pos hl]
        exact Or.inr ⟨q, hq, rfl, rfl, rfl⟩
      · rw [if_neg hl, if_neg hl]
        exact Or.inl ⟨rfl, rfl⟩
  · rw [e]
    refine ⟨?_, ?_, ?_, ?_⟩
    · exact ⟨fun q => absurd q n10, fun _ => ⟨hv, fun q => absurd q n20, fun _ => ⟨fun q => absurd q n21, fun _ => trivial⟩⟩⟩
    · exact ⟨t0, fun q => absurd q n20, fun _ => ⟨fun q => absurd q n21, fun _ => trivial⟩⟩
    · exact ⟨t0, fun q => absurd q n21, fun _ => trivial⟩
    · simp only [q_gL, if_neg n10, if_neg n20, if_neg n21]
      exact Or.inr ⟨0, Nat.zero_le _, nI_0.symm, nI_0.symm, trivial⟩
/-- whether the stage ends behind the tick, both sides -/
theorem p_eb {o st f : Nat → Int32} {b pf : Nat → Nat → Int32} {k S : Nat} (p1 : Int32) (hK : SK o pf f k S) (hT : RT st f) (hB : RB st b f) (h2 : o 2 = f 75) : f_X4_endsBehind o st b pf p1 = f_X7_endsBehind f p1 ∧ ok_X4_endsBehind o st b pf p1 ∧ ok_X7_endsBehind f p1 := by
  obtain ⟨hk, hS, e1, h74, p0, h72, hst, hV⟩ := hK
  obtain ⟨s0, s1, s2, s3, t0, t1, t2, t3⟩ := p_st hk hst hS
  have hh := p_has1 hS p0 hk
  have hc : (nI k).toNatClampNeg = k := q_c (by omega)
  have hv : vp_in (nI k) 5 := vp_in_nI (by omega) (by omega)
  have n10 : ¬ (1 : Int32) = 0 := by decide
  have n20 : ¬ (2 : Int32) = 0 := by decide
  have n12 : ¬ (1 : Int32) = 2 := by decide
  unfold f_X4_endsBehind f_X7_endsBehind ok_X4_endsBehind ok_X7_endsBehind
  rw [e1, h74, h2]
  simp only [hh, hc, s0, s1]
  obtain ⟨v1, v2, v3, -⟩ := p_high hB hT p1
  rcases RV_kind hV with e | e | e
  · obtain ⟨l1, l2, l3, l4⟩ := p_limit hk hst hS hT (Or.inl e)
    rw [e]
    refine ⟨?_, ⟨fun q => absurd q n10, fun _ => ⟨hv, fun _ => ⟨v2, l3, trivial⟩, fun q => absurd rfl q⟩⟩, ⟨t0, fun _ => ⟨v3, l4, trivial⟩, fun q => absurd rfl q⟩⟩
    simp only [q_gL, if_neg n10, if_true]
    rw [v1, l1]
  · rw [e]
    refine ⟨?_, ⟨fun q => absurd q n10, fun _ => ⟨hv, fun q => absurd q n10, fun _ => ⟨fun q => absurd q n12, fun _ => trivial⟩⟩⟩, ⟨t0, fun q => absurd q n10, fun _ => ⟨fun q => absurd q n12, fun _ => trivial⟩⟩⟩
    simp only [q_gL, if_neg n10, if_neg n12]
  · rw [e]
    refine ⟨?_, ⟨fun q => absurd q n10, fun _ => ⟨hv, fun q => absurd q n20, fun _ => ⟨fun _ => ⟨hv, trivial⟩, fun _ => trivial⟩⟩⟩, ⟨t0, fun q => absurd q n20, fun _ => ⟨fun _ => ⟨t1, trivial⟩, fun _ => trivial⟩⟩⟩
    simp only [q_gL, if_neg n10, if_neg n20, if_true]
theorem p_ro {o f : Nat → Int32} {pf : Nat → Nat → Int32} {k S : Nat} (hK : SK o pf f k S) (h2 : o 2 = f 75) : f_X4_hasRunOut o pf = (if f_X7_ofStage f (f 74) 3 ≤ 0 then 0 else if f 75 < f_X7_ofStage f (f 74) 3 then 0 else 1) ∧ ok_X4_hasRunOut o pf ∧ ok_X7_ofStage (f 74) 3 := by
  obtain ⟨hk, hS, e1, h74, p0, h72, hst, hV⟩ := hK
  obtain ⟨s0, s1, s2, s3, t0, t1, t2, t3⟩ := p_st hk hst hS
  have hh := p_has1 hS p0 hk
  have hc : (nI k).toNatClampNeg = k := q_c (by omega)
  have hv : vp_in (nI k) 5 := vp_in_nI (by omega) (by omega)
  have n10 : ¬ (1 : Int32) = 0 := by decide
  unfold f_X4_hasRunOut ok_X4_hasRunOut
  rw [e1, h74, h2]
  simp only [hh, hc, s3]
  refine ⟨?_, ⟨fun q => absurd q n10, fun _ => ⟨hv, fun _ => trivial, fun _ => ⟨hv, trivial⟩⟩⟩, t3⟩
  simp only [q_gL, if_neg n10]
