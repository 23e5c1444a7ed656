/-! PURE: readProfile -/
theorem p_in01 (p lo hi : Int32) : f_X7_in p lo hi = 0 ∨ (f_X7_in p lo hi = 1 ∧ lo ≤ p ∧ p ≤ hi) := by
  unfold f_X7_in
  by_cases h : p < lo
  · rw [if_pos h]; exact Or.inl rfl
  · rw [if_neg h]
    by_cases h2 : hi < p
    · rw [if_pos h2]; exact Or.inl rfl
    · rw [if_neg h2]; exact Or.inr ⟨rfl, Int32.not_lt.mp h, Int32.not_lt.mp h2⟩
theorem p_same (p lo hi : Int32) : f_X6_isIn p lo hi = f_X7_in p lo hi := rfl
theorem p_good {pf : Nat → Nat → Int32} {fr : Nat → Int32} {K j : Nat} (hj : j < K) (hK : K ≤ 5) (h : SQ pf fr K) : ok_X3_hasNumbersInRange pf (nI j) ∧ ok_X7_isGood fr (nI j) ∧ ((f_X7_isGood fr (nI j) = 0 ∧ (f_X3_hasNumbersInRange pf (nI j) = 0 ∨ f_X6_isIn (pf 4 j) 0 999 = 0)) ∨ (f_X7_isGood fr (nI j) = 1 ∧ f_X3_hasNumbersInRange pf (nI j) = 1 ∧ f_X6_isIn (pf 4 j) 0 999 = 1 ∧ RV (pf 1 j) (pf 2 j) (pf 3 j) (pf 4 j))) := by
  obtain ⟨hw, hkd⟩ := h j hj
  have w0 : fr (4 * j) = pf 1 j := (hw 0 (by omega)).symm
  have w1 : fr (4 * j + 1) = pf 2 j := (hw 1 (by omega)).symm
  have w2 : fr (4 * j + 2) = pf 3 j := (hw 2 (by omega)).symm
  have w3 : fr (4 * j + 3) = pf 4 j := (hw 3 (by omega)).symm
  have cc : (nI j).toNatClampNeg = j := q_c (by omega)
  have hv : vp_in (nI j) 5 := vp_in_nI (by omega) (by omega)
  have i0 : (4 * nI j : Int32).toNatClampNeg = 4 * j := by rw [q_4]; exact q_c (by omega)
  have j0 : vp_in (4 * nI j) 20 := by rw [q_4]; exact vp_in_nI (by omega) (by omega)
  obtain ⟨i1, j1⟩ := q_v1 j 1 (by omega)
  obtain ⟨i2, j2⟩ := q_v1 j 2 (by omega)
  obtain ⟨i3, j3⟩ := q_v1 j 3 (by omega)
  rw [← q_4] at i1 i2 i3 j1 j2 j3
  have i1' : (4 * nI j + 1 : Int32).toNatClampNeg = 4 * j + 1 := i1
  have i2' : (4 * nI j + 2 : Int32).toNatClampNeg = 4 * j + 2 := i2
  have i3' : (4 * nI j + 3 : Int32).toNatClampNeg = 4 * j + 3 := i3
  have hgz : ∀ a b c : Int32, gz (f_X6_isIn a b c) := fun a b c => by
    rw [p_same]
    rcases p_in01 a b c with q | q
    · exact Or.inl q
    · exact Or.inr q.1
  refine ⟨?_, ?_, ?_⟩
  · unfold ok_X3_hasNumbersInRange
    exact ⟨hv, fun _ => ⟨hv, fun _ => trivial, fun _ => ⟨hv, trivial⟩⟩, fun _ => ⟨fun _ => ⟨hv, fun _ => trivial, fun _ => ⟨hv, trivial⟩⟩, fun _ => ⟨hv, hgz _ _ _, trivial⟩⟩⟩
  · unfold ok_X7_isGood
    exact ⟨j0, j1, j2, fun _ => ⟨fun _ => trivial, fun _ => ⟨fun _ => trivial, fun _ => ⟨j3, trivial⟩⟩⟩, fun _ => ⟨fun _ => ⟨fun _ => trivial, fun _ => ⟨fun _ => trivial, fun _ => ⟨j3, trivial⟩⟩⟩, fun _ => ⟨fun _ => trivial, fun _ => ⟨j3, trivial⟩⟩⟩⟩
  · have n20 : ¬ (2 : Int32) = 0 := by decide
    have n21 : ¬ (2 : Int32) = 1 := by decide
    obtain ⟨G, hG⟩ : ∃ G, G = f_X7_isGood fr (nI j) := ⟨_, rfl⟩
    obtain ⟨H, hH⟩ : ∃ H, H = f_X3_hasNumbersInRange pf (nI j) := ⟨_, rfl⟩
    rw [← hG, ← hH]
    unfold f_X7_isGood at hG
    unfold f_X3_hasNumbersInRange at hH
    rw [i0, i1', i2', i3', w0, w1, w2, w3, q_gLp, q_gLp, q_gLp] at hG
    rw [cc] at hH
    simp only [p_same] at hH ⊢
    rcases p_in01 (pf 4 j) 0 999 with t0 | ⟨t1, t2, t3⟩
    · rcases hkd with e | e | e
      · rw [if_pos e] at hG hH
        rcases p_in01 (pf 2 j) 1 2000 with a0 | ⟨a1, a2, a3⟩
        · rw [q_gLp, if_pos a0] at hG hH
          exact Or.inl ⟨hG, Or.inl hH⟩
        · rw [q_gLp, if_neg (q_1no a1), q_gLp] at hG hH
          rcases p_in01 (pf 3 j) 3000 4500 with b0 | ⟨b1, b2, b3⟩
          · rw [if_pos b0] at hG hH
            exact Or.inl ⟨hG, Or.inl hH⟩
          · rw [if_neg (q_1no b1), q_gLp, if_pos t0] at hG
            exact Or.inl ⟨hG, Or.inr t0⟩
      · have e0 : ¬ pf 1 j = 0 := by rw [e]; exact n10
        rw [if_neg e0, if_pos e] at hG hH
        rcases p_in01 (pf 2 j) 3000 4500 with a0 | ⟨a1, a2, a3⟩
        · rw [q_gLp, if_pos a0] at hG hH
          exact Or.inl ⟨hG, Or.inl hH⟩
        · rw [q_gLp, if_neg (q_1no a1), q_gLp] at hG hH
          rcases p_in01 (pf 3 j) 0 2000 with b0 | ⟨b1, b2, b3⟩
          · rw [if_pos b0] at hG hH
            exact Or.inl ⟨hG, Or.inl hH⟩
          · rw [if_neg (q_1no b1), q_gLp, if_pos t0] at hG
            exact Or.inl ⟨hG, Or.inr t0⟩
      · have e0 : ¬ pf 1 j = 0 := by rw [e]; exact n20
        have e1 : ¬ pf 1 j = 1 := by rw [e]; exact n21
        rw [if_neg e0, if_neg e1] at hG hH
        rcases p_in01 (pf 2 j) 1 999 with a0 | ⟨a1, a2, a3⟩
        · rw [q_gLp, if_pos a0] at hG
          rw [q_gLp, a0] at hH
          exact Or.inl ⟨hG, Or.inl hH⟩
        · rw [q_gLp, if_neg (q_1no a1), q_gLp, if_pos t0] at hG
          exact Or.inl ⟨hG, Or.inr t0⟩
    · rcases hkd with e | e | e
      · rw [if_pos e] at hG hH
        rcases p_in01 (pf 2 j) 1 2000 with a0 | ⟨a1, a2, a3⟩
        · rw [q_gLp, if_pos a0] at hG hH
          exact Or.inl ⟨hG, Or.inl hH⟩
        · rw [q_gLp, if_neg (q_1no a1), q_gLp] at hG hH
          rcases p_in01 (pf 3 j) 3000 4500 with b0 | ⟨b1, b2, b3⟩
          · rw [if_pos b0] at hG hH
            exact Or.inl ⟨hG, Or.inl hH⟩
          · rw [if_neg (q_1no b1), q_gLp, if_neg (q_1no t1)] at hG
            rw [if_neg (q_1no b1)] at hH
            exact Or.inr ⟨hG, hH, t1, Or.inl ⟨e, a2, a3, b2, b3⟩, t2, t3⟩
      · have e0 : ¬ pf 1 j = 0 := by rw [e]; exact n10
        rw [if_neg e0, if_pos e] at hG hH
        rcases p_in01 (pf 2 j) 3000 4500 with a0 | ⟨a1, a2, a3⟩
        · rw [q_gLp, if_pos a0] at hG hH
          exact Or.inl ⟨hG, Or.inl hH⟩
        · rw [q_gLp, if_neg (q_1no a1), q_gLp] at hG hH
          rcases p_in01 (pf 3 j) 0 2000 with b0 | ⟨b1, b2, b3⟩
          · rw [if_pos b0] at hG hH
            exact Or.inl ⟨hG, Or.inl hH⟩
          · rw [if_neg (q_1no b1), q_gLp, if_neg (q_1no t1)] at hG
            rw [if_neg (q_1no b1)] at hH
            exact Or.inr ⟨hG, hH, t1, Or.inr (Or.inl ⟨e, a2, a3, b2, b3⟩), t2, t3⟩
      · have e0 : ¬ pf 1 j = 0 := by rw [e]; exact n20
        have e1 : ¬ pf 1 j = 1 := by rw [e]; exact n21
        rw [if_neg e0, if_neg e1] at hG hH
        rcases p_in01 (pf 2 j) 1 999 with a0 | ⟨a1, a2, a3⟩
        · rw [q_gLp, if_pos a0] at hG
          rw [q_gLp, a0] at hH
          exact Or.inl ⟨hG, Or.inl hH⟩
        · rw [q_gLp, if_neg (q_1no a1), q_gLp, if_neg (q_1no t1)] at hG
          rw [q_gLp, a1] at hH
          exact Or.inr ⟨hG, hH, t1, Or.inr (Or.inr ⟨e, a2, a3⟩), t2, t3⟩
def rpFin (f fw : Nat → Int32) (R1 : Int32 × (Nat → Int32) × (Nat → Int32)) : Int32 × (Nat → Int32) × (Nat → Int32) × (Nat → Int32) × (Nat → Int32) := if f 73 = 1 then ((-4), R1.2.1, f, fw, R1.2.2) else fl_X7_readProfile_62 R1 (f_X7_records R1.2.1 f fw) 21 0 f
theorem p_rng {pf : Nat → Nat → Int32} {fr f fw : Nat → Int32} {K : Nat} (hK : K ≤ 5) (h : SQ pf fr K) (hp : pf 0 0 = nI K) (R1 : Int32 × (Nat → Int32) × (Nat → Int32)) (hR : R1.2.2 = fr) (h5 : R1.2.1 5 = nI K) : ∀ N N' x, x ≤ K → K < x + N → K < x + N' →
    okl_X3_isInRange_2 pf N (nI x) ∧ ((fl_X3_isInRange_2 pf N (nI x) = 0 ∧ fl_X7_readProfile_17 f fw R1 N' (nI x) = ((-2), R1.2.1, f, fw, R1.2.2) ∧ okl_X7_readProfile_17 f fw R1 N' (nI x)) ∨
      (fl_X3_isInRange_2 pf N (nI x) = 1 ∧ fl_X7_readProfile_17 f fw R1 N' (nI x) = rpFin f fw R1 ∧ ((¬ f 73 = 1 → ok_X7_records R1.2.1 f fw ∧ okl_X7_readProfile_62 R1 (f_X7_records R1.2.1 f fw) 21 0 f) → okl_X7_readProfile_17 f fw R1 N' (nI x)) ∧ ∀ j, x ≤ j → j < K → RV (pf 1 j) (pf 2 j) (pf 3 j) (pf 4 j))) := by
  intro N
  induction N with
  | zero => intro N' x h1 h2 h3; omega
  | succ N ih =>
    intro N' x h1 h2 h3
    obtain ⟨N', rfl⟩ : ∃ m, N' = m + 1 := ⟨N' - 1, by omega⟩
    by_cases e : x = K
    · subst e
      have hc : nI x ≤ nI x := Int32.le_refl _
      refine ⟨?_, Or.inr ⟨?_, ?_, fun q => ?_, fun j q1 q2 => absurd q2 (by omega)⟩⟩
      · rw [okl_X3_isInRange_2, hp]; exact ⟨fun _ => trivial, fun q => absurd hc q⟩
      · rw [fl_X3_isInRange_2, hp, if_pos hc]
      · rw [fl_X7_readProfile_17, h5, if_pos hc, q_gLp]; rfl
      · rw [okl_X7_readProfile_17, h5]
        exact ⟨fun _ => ⟨fun _ => trivial, fun q2 => q q2⟩, fun q => absurd hc q⟩
    · have hc : ¬ nI K ≤ nI x := nI_ge (by omega) (by omega)
      have cc : (nI x).toNatClampNeg = x := q_c (by omega)
      have hv : vp_in (nI x) 5 := vp_in_nI (by omega) (by omega)
      obtain ⟨g1, g2, g3⟩ := p_good (j := x) (by omega) hK h
      rcases g3 with ⟨a1, a2⟩ | ⟨a1, a2, a3, a4⟩
      · refine ⟨?_, Or.inl ⟨?_, ?_, ?_⟩⟩
        · rw [okl_X3_isInRange_2, hp, cc]
          refine ⟨fun q => absurd q hc, fun _ => ⟨g1, fun _ => trivial, fun q => ⟨hv, fun _ => trivial, fun q2 => ?_⟩⟩⟩
          rcases a2 with a2 | a2
          · exact absurd a2 q
          · exact absurd a2 q2
        · rw [fl_X3_isInRange_2, hp, if_neg hc, q_gLp]
          rcases a2 with a2 | a2
          · rw [if_pos a2]
          · by_cases q : f_X3_hasNumbersInRange pf (nI x) = 0
            · rw [if_pos q]
            · rw [if_neg q, q_gLp, cc, if_pos a2]
        · rw [fl_X7_readProfile_17, h5, if_neg hc, hR, q_gLp, if_pos a1]
        · rw [okl_X7_readProfile_17, h5, hR]
          exact ⟨fun q => absurd q hc, fun _ => ⟨g2, fun _ => trivial, fun q => absurd a1 q⟩⟩
      · have a1' := q_1no a1
        have a2' := q_1no a2
        have a3' := q_1no a3
        obtain ⟨i1, i2⟩ := ih N' (x + 1) (by omega) (by omega) (by omega)
        have v5 : fl_X3_isInRange_2 pf (N + 1) (nI x) = fl_X3_isInRange_2 pf N (nI (x + 1)) := by rw [fl_X3_isInRange_2, hp, if_neg hc, q_gLp, if_neg a2', q_gLp, cc, if_neg a3', q_gLp, q_p1]
        have v7 : fl_X7_readProfile_17 f fw R1 (N' + 1) (nI x) = fl_X7_readProfile_17 f fw R1 N' (nI (x + 1)) := by rw [fl_X7_readProfile_17, h5, if_neg hc, hR, q_gLp, if_neg a1', q_gLp, q_p1]
        have o7 : okl_X7_readProfile_17 f fw R1 N' (nI (x + 1)) → okl_X7_readProfile_17 f fw R1 (N' + 1) (nI x) := by
          intro q
          rw [okl_X7_readProfile_17, h5, hR, q_p1]
          exact ⟨fun q => absurd q hc, fun _ => ⟨g2, fun q => absurd q a1', fun _ => q⟩⟩
        refine ⟨?_, ?_⟩
        · rw [okl_X3_isInRange_2, hp, cc, q_p1]
          exact ⟨fun q => absurd q hc, fun _ => ⟨g1, fun q => absurd q a2', fun _ => ⟨hv, fun q => absurd q a3', fun _ => i1⟩⟩⟩
        · rw [v5, v7]
          rcases i2 with ⟨b1, b2, b3⟩ | ⟨b1, b2, b3, b4⟩
          · exact Or.inl ⟨b1, b2, o7 b3⟩
          · refine Or.inr ⟨b1, b2, fun q => o7 (b3 q), fun j q1 q2 => ?_⟩
            by_cases q3 : j = x
            · rw [q3]; exact a4
            · exact b4 j (by omega) q2
def cpS (fr w : Nat → Int32) (K x : Nat) : Nat → Int32 := fun j => if 51 + x ≤ j ∧ j < 71 then (if j - 51 < 4 * K then fr (j - 51) else 0) else w j
theorem cpS_step (fr w : Nat → Int32) (K x : Nat) (hx : x < 20) (v : Int32) (hv : v = if x < 4 * K then fr x else 0) : cpS fr (upd w (51 + x) v) K (x + 1) = cpS fr w K x := by
  funext j
  unfold cpS
  rw [q_up]
  by_cases h : j = 51 + x
  · subst h
    rw [if_neg (by omega), if_pos rfl, if_pos (by omega), show 51 + x - 51 = x by omega, hv]
  · by_cases h2 : 51 + x ≤ j ∧ j < 71
    · rw [if_pos (by omega), if_pos h2]
    · rw [if_neg (by omega), if_neg h, if_neg h2]
theorem p_62 {fr : Nat → Int32} {K : Nat} (hK : K ≤ 5) (R1 : Int32 × (Nat → Int32) × (Nat → Int32)) (hR : R1.2.2 = fr) (R26 : (Nat → Int32) × (Nat → Int32)) (h5 : R26.1 5 = nI K) : ∀ n x (w : Nat → Int32), x ≤ 20 → 20 < x + n → fl_X7_readProfile_62 R1 R26 n (nI x) w = (nI K, R26.1, upd (cpS fr w K x) 72 (nI K), R26.2, fr) ∧ okl_X7_readProfile_62 R1 R26 n (nI x) w := by
  intro n
  induction n with
  | zero => intro x w h1 h2; omega
  | succ n ih =>
    intro x w h1 h2
    rw [fl_X7_readProfile_62, okl_X7_readProfile_62, h5, hR]
    by_cases e : x = 20
    · subst e
      have hc : (20 : Int32) ≤ nI 20 := Int32.le_refl _
      have es : cpS fr w K 20 = w := by
        funext j
        unfold cpS
        rw [if_neg (by omega)]
      rw [if_pos hc, q_gLp, es]
      exact ⟨rfl, fun _ => trivial, fun q => absurd hc q⟩
    · have hc : ¬ (20 : Int32) ≤ nI x := nI_ge (b := 20) (by omega) (by omega)
      have ex : (51 : Int32) + nI x = nI (51 + x) := q_51 x
      have hv : vp_in (nI (51 + x)) 112 := q_in (by omega)
      have hv2 : vp_in (nI x) 20 := vp_in_nI (by omega) (by omega)
      rw [if_neg hc, q_4, ex, q_c (by omega), q_c (by omega), q_p1]
      by_cases e4 : 4 * K ≤ x
      · have h4 : nI (4 * K) ≤ nI x := nI_le e4 (by omega)
        obtain ⟨i1, i2⟩ := ih (x + 1) (upd w (51 + x) 0) (by omega) (by omega)
        rw [cpS_step fr w K x (by omega) 0 (by rw [if_neg (by omega)])] at i1
        rw [if_pos h4, q_gLp, q_gLp]
        exact ⟨i1, fun q => absurd q hc, fun _ => ⟨fun _ => ⟨hv, i2⟩, fun q => absurd h4 q⟩⟩
      · have h4 : ¬ nI (4 * K) ≤ nI x := nI_ge (by omega) (by omega)
        obtain ⟨i1, i2⟩ := ih (x + 1) (upd w (51 + x) (fr x)) (by omega) (by omega)
        rw [cpS_step fr w K x (by omega) (fr x) (by rw [if_pos (by omega)])] at i1
        rw [if_neg h4, q_gLp, q_gLp]
        exact ⟨i1, fun q => absurd q hc, fun _ => ⟨fun q => absurd q h4, fun _ => ⟨hv2, hv, i2⟩⟩⟩
theorem p_rec5 {mo f fw : Nat → Int32} {n : Nat} (hn : n ≤ 4) (h : mo 0 = nI n) : (f_X7_records mo f fw).1 5 = mo 5 := by
  by_cases e : n = 4
  · subst e
    have hc : mo 0 = 4 := h
    obtain ⟨i1, i2⟩ := p_recL (f := f) h 337 0 fw (by omega) (by omega)
    have er : f_X7_records mo f fw = (upd mo 0 (nI 4), cpA f (shA fw 0) 336 0) := by
      unfold f_X7_records
      rw [if_pos hc]
      exact i1
    rw [er]; rfl
  · have hc : ¬ mo 0 = 4 := by
      rw [h]
      intro q
      exact e ((nI_eq (b := 4) (by omega) (by omega)).mp q)
    have er : f_X7_records mo f fw = (upd mo 0 (mo 0 + 1), f_X7_copies448 f fw (112 * mo 0)) := by
      unfold f_X7_records
      rw [if_neg hc, q_gLp]
    rw [er]; rfl
theorem pu_readProfile (cx : (Nat → Int32)) (o : (Nat → Int32)) (st : (Nat → Int32)) (b : (Nat → Nat → Int32)) (pf : (Nat → Nat → Int32)) (g : (Nat → Nat → Int32)) (so : (Nat → Int32)) (sst : (Nat → Int32)) (sb : (Nat → Nat → Int32)) (sp : (Nat → Nat → Int32)) (sg : (Nat → Nat → Int32)) (hh : HVal) (t : (Nat → Nat → Int32)) (dr : (Nat → Nat → Int32)) (mo : (Nat → Int32)) (f : (Nat → Int32)) (fw : (Nat → Int32)) (fs : (Nat → Int32)) (tx : (Nat → Int32)) (fr : (Nat → Int32)) (h : Rel cx o st b pf g so sst sb sp sg hh t mo f fw fs tx) : (ok_X6_readProfile o hh t dr) ∧ (ok_X7_readProfile mo f fw tx fr) ∧ (f_X6_readProfile o st b pf g hh t dr).1 = (f_X7_readProfile mo f fw tx fr).1 ∧ Rel cx o st b ((f_X6_readProfile o st b pf g hh t dr).2.1) g so sst sb sp sg ((f_X6_readProfile o st b pf g hh t dr).2.2.1) ((f_X6_readProfile o st b pf g hh t dr).2.2.2.1) ((f_X7_readProfile mo f fw tx fr).2.1) ((f_X7_readProfile mo f fw tx fr).2.2.1) ((f_X7_readProfile mo f fw tx fr).2.2.2.1) fs tx := by
  have hS := h.1
  obtain ⟨-, hH, hN, n, n1, n2, n3, n4⟩ := id h
  have hT : TR (sF t 0 (upd (t 0) 1 0)) (upd (upd mo 3 0) 5 0) tx n 0 := ⟨n1, by omega, n2, n3, rfl, rfl, n4⟩
  obtain ⟨i1, i2, i3⟩ := p_into 6 0 0 (sF t 0 (upd (t 0) 1 0)) (sF dr 0 (upd (dr 0) 0 0)) (upd (upd mo 3 0) 5 0) fr (by omega) (by omega) hT rfl rfl (fun j hj => absurd hj (by omega))
  obtain ⟨S, hSd⟩ : ∃ S, S = f_X5_readInto t dr := ⟨_, rfl⟩
  obtain ⟨R, hRd⟩ : ∃ R, R = f_X7_readsText mo tx fr := ⟨_, rfl⟩
  have okS : ok_X5_readInto t dr := i1
  have okR : ok_X7_readsText mo tx fr := i2
  have i3' : OUT (upd (upd mo 3 0) 5 0) tx n S R := by rw [hSd, hRd]; exact i3
  obtain ⟨p', r1, r2, r3⟩ := i3'
  have hrel : Rel cx o st b pf g so sst sb sp sg hh S.2.1 R.2.1 f fw fs tx := by
    refine ⟨hS, ⟨hH.1, hH.2.1, r2.1.trans hH.2.2.1, hH.2.2.2⟩, ⟨hN.1, r2.2.1.trans hN.2.1, hN.2.2⟩, n, n1, r1.2.2.1, r1.2.2.2.1, r1.2.2.2.2.2.2⟩
  rcases r3 with ⟨d1, d2⟩ | ⟨d1, d2, K, hK, d3, d4, d5⟩
  · have v6 : f_X6_readProfile o st b pf g hh t dr = (((-100) - ((S.2.1 0) 1)), pf, hh, S.2.1, S.2.2) := by unfold f_X6_readProfile; rw [← hSd, q_gLp, if_pos d1]
    have v7 : f_X7_readProfile mo f fw tx fr = (((-100) - (R.2.1 3)), R.2.1, f, fw, R.2.2) := by unfold f_X7_readProfile; rw [← hRd, q_gLp, if_pos d2]
    refine ⟨?_, ?_, ?_⟩
    · unfold ok_X6_readProfile; rw [← hSd]; exact ⟨okS, fun _ => trivial, fun q => absurd d1 q⟩
    · unfold ok_X7_readProfile; rw [← hRd]; exact ⟨okR, fun _ => trivial, fun q => absurd d2 q⟩
    · rw [v6, v7]
      refine ⟨?_, hrel⟩
      show (-100 : Int32) - S.2.1 0 1 = -100 - R.2.1 3
      rw [r1.2.2.2.2.1, r1.2.2.2.2.2.1]
  · have d1' := q_1no d1
    have d2' := q_1no d2
    obtain ⟨g1, g2⟩ := p_rng (f := f) (fw := fw) hK d5 d3 R rfl d4 6 21 0 (by omega) (by omega) (by omega)
    have g1' : ok_X3_isInRange S.2.2 := g1
    rcases g2 with ⟨b1, b2, b3⟩ | ⟨b1, b2, b3, b4⟩
    · have b1' : f_X3_isInRange S.2.2 = 0 := b1
      have v6 : f_X6_readProfile o st b pf g hh t dr = ((-2), pf, hh, S.2.1, S.2.2) := by unfold f_X6_readProfile; rw [← hSd, q_gLp, if_neg d1', q_gLp, if_pos b1']
      have v7 : f_X7_readProfile mo f fw tx fr = ((-2), R.2.1, f, fw, R.2.2) := by unfold f_X7_readProfile; rw [← hRd, q_gLp, if_neg d2']; exact b2
      refine ⟨?_, ?_, ?_⟩
      · unfold ok_X6_readProfile; rw [← hSd]; exact ⟨okS, fun q => absurd q d1', fun _ => ⟨g1', fun _ => trivial, fun q => absurd b1' q⟩⟩
      · unfold ok_X7_readProfile; rw [← hRd]; exact ⟨okR, fun q => absurd q d2', fun _ => b3⟩
      · rw [v6, v7]; exact ⟨rfl, hrel⟩
    · have b1' : ¬ f_X3_isInRange S.2.2 = 0 := q_1no b1
      have e0 : o 0 = f 73 := hS.2.2.2.1.1
      by_cases h1 : o 0 = 1
      · have h1' : f 73 = 1 := e0.symm.trans h1
        have vf : rpFin f fw R = ((-4), R.2.1, f, fw, R.2.2) := by unfold rpFin; rw [if_pos h1']
        have v6 : f_X6_readProfile o st b pf g hh t dr = ((-4), pf, hh, S.2.1, S.2.2) := by unfold f_X6_readProfile; rw [← hSd, q_gLp, if_neg d1', q_gLp, if_neg b1', if_pos h1]
        have v7 : f_X7_readProfile mo f fw tx fr = ((-4), R.2.1, f, fw, R.2.2) := by unfold f_X7_readProfile; rw [← hRd, q_gLp, if_neg d2']; exact b2.trans vf
        refine ⟨?_, ?_, ?_⟩
        · unfold ok_X6_readProfile; rw [← hSd]; exact ⟨okS, fun q => absurd q d1', fun _ => ⟨g1', fun q => absurd q b1', fun _ => ⟨fun _ => trivial, fun q => absurd h1 q⟩⟩⟩
        · unfold ok_X7_readProfile; rw [← hRd]; exact ⟨okR, fun q => absurd q d2', fun _ => b3 (fun q => absurd h1' q)⟩
        · rw [v6, v7]; exact ⟨rfl, hrel⟩
      · have h1' : ¬ f 73 = 1 := fun q => h1 (e0.trans q)
        obtain ⟨-, k1, k2⟩ := Rel_now hrel
        have e5 : (f_X7_records R.2.1 f fw).1 5 = nI K := (p_rec5 (n := hh.1) hH.1 hrel.2.1.2.2.1).trans d4
        obtain ⟨t1, t2⟩ := p_62 hK R rfl (f_X7_records R.2.1 f fw) e5 21 0 f (by omega) (by omega)
        obtain ⟨F, hF⟩ : ∃ F, F = upd (cpS R.2.2 f K 0) 72 (nI K) := ⟨_, rfl⟩
        rw [← hF] at t1
        have vf : rpFin f fw R = (nI K, (f_X7_records R.2.1 f fw).1, F, (f_X7_records R.2.1 f fw).2, R.2.2) := by unfold rpFin; rw [if_neg h1']; exact t1
        have fo : ∀ j, j < 51 ∨ (71 ≤ j ∧ j ≠ 72) → F j = f j := by
          intro j hj
          rw [hF, q_up, if_neg (by omega)]
          unfold cpS
          rw [if_neg (by omega)]
        have fin : ∀ j, j < 4 * K → F (51 + j) = R.2.2 j := by
          intro j hj
          rw [hF, q_up, if_neg (by omega)]
          unfold cpS
          rw [if_pos (by omega), show 51 + j - 51 = j by omega, if_pos hj]
        have hnew : RS o st b S.2.2 g F := by
          refine ⟨?_, fun k hk => ⟨(hS.2.1 k hk).1.trans (fo _ (by omega)).symm, (hS.2.1 k hk).2⟩, ?_, ?_, RL_fr hS.2.2.2.2 (fun j hj => fo j (by omega))⟩
          · obtain ⟨N, d, h6, x1, x2, s0, b0, h71, hR', hB⟩ := hS.1
            exact ⟨N, d, h6, x1, x2, s0, b0, (fo 71 (by omega)).trans h71, fun c w hc hw => (hR' c w hc hw).trans (fo _ (by omega)).symm, hB⟩
          · refine ⟨K, hK, d3, by rw [hF]; rfl, fun k hk => ⟨fun w hw => ?_, b4 k (by omega) hk⟩⟩
            have := fin (4 * k + w) (by omega)
            rw [show 51 + 4 * k + w = 51 + (4 * k + w) by omega, this]
            exact (d5 k hk).1 w hw
          · obtain ⟨y0, y1, y2, y3, y4, y5, y6, y7, y8, y9⟩ := hS.2.2.2.1
            exact ⟨y0.trans (fo 73 (by omega)).symm, y1.trans (fo 74 (by omega)).symm, y2.trans (fo 75 (by omega)).symm, y3.trans (fo 76 (by omega)).symm, y4.trans (fo 77 (by omega)).symm, y5.trans (fo 80 (by omega)).symm, y6.trans (fo 78 (by omega)).symm, y7.trans (fo 79 (by omega)).symm, y8, fun q => absurd q h1⟩
        have v6 : f_X6_readProfile o st b pf g hh t dr = ((S.2.2 0) 0, S.2.2, f_hadd o st b pf g hh, S.2.1, S.2.2) := by unfold f_X6_readProfile; rw [← hSd, q_gLp, if_neg d1', q_gLp, if_neg b1', if_neg h1, q_gLp]
        have v7 : f_X7_readProfile mo f fw tx fr = (nI K, (f_X7_records R.2.1 f fw).1, F, (f_X7_records R.2.1 f fw).2, R.2.2) := by unfold f_X7_readProfile; rw [← hRd, q_gLp, if_neg d2']; exact b2.trans vf
        have hr := Rel_rec hrel hnew
        refine ⟨?_, ?_, ?_⟩
        · unfold ok_X6_readProfile; rw [← hSd]; exact ⟨okS, fun q => absurd q d1', fun _ => ⟨g1', fun q => absurd q b1', fun _ => ⟨fun q => absurd q h1, fun _ => ⟨k1, trivial⟩⟩⟩⟩
        · unfold ok_X7_readProfile; rw [← hRd]; exact ⟨okR, fun q => absurd q d2', fun _ => b3 (fun _ => ⟨k2, t2⟩)⟩
        · rw [v6, v7]; exact ⟨d3, hr⟩
