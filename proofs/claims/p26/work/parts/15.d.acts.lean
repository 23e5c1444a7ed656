/-! WHAT A CALL DOES: refused, and nothing is changed; or done, and the state before it goes into the history -/
def M4 (v : Int32) : Prop := v = 0 ∨ v = 1 ∨ v = 2 ∨ v = 3
theorem M4.nn {v : Int32} (h : M4 v) : ¬ v < 0 := by
  rcases h with rfl | rfl | rfl | rfl <;> decide
theorem nI_nn {n : Nat} (h : n < 2 ^ 31) : ¬ nI n < 0 := Int32.not_lt.mpr (show nI 0 ≤ nI n from nI_le (Nat.zero_le n) h)
def hadd (s : SVal) (hh : HVal) : HVal := f_hadd s.1 s.2.1 s.2.2.1 s.2.2.2.1 s.2.2.2.2 hh
def AR (s s' : SVal) (hh hh' : HVal) (t t' : Nat → Nat → Int32) (v : Int32) : Prop :=
  (v < 0 ∧ s' = s ∧ hh' = hh ∧ t' 0 0 = t 0 0) ∨ (¬ v < 0 ∧ hh' = hadd s hh ∧ M4 (s'.1 0) ∧ s'.2.1 5 ≤ s'.2.1 6 ∧ t' 0 0 = t 0 0)
theorem s1000 {x : Int32} (h1 : -30 ≤ x) (h2 : x ≤ 5000) : ¬ x + 1000 < 0 := by
  intro h
  have e1 := Int32.le_iff_toInt_le.mp h1
  have e2 := Int32.le_iff_toInt_le.mp h2
  have e3 := Int32.lt_iff_toInt_lt.mp h
  rw [show (-30 : Int32).toInt = -30 by decide] at e1
  rw [show (5000 : Int32).toInt = 5000 by decide] at e2
  rw [Int32.toInt_add, show (1000 : Int32).toInt = 1000 by decide, show (0 : Int32).toInt = 0 by decide, Int.bmod_eq_of_le (by omega) (by omega)] at e3
  omega
theorem m4_end {o : Nat → Int32} {pf g : Nat → Nat → Int32} (h : M4 (o 0)) : M4 ((f_X4_endStage o pf g).1 0) := by
  unfold f_X4_endStage
  rw [q_gLp]
  by_cases c : f_X3_has pf (o 1 + 1) = 0
  · rw [if_pos c]; exact Or.inr (Or.inr (Or.inl rfl))
  · rw [if_neg c]; exact h
theorem m4_charge {o st : Nat → Int32} {b pf g : Nat → Nat → Int32} (h : M4 (o 0)) : M4 ((f_X4_charge o st b pf g).1 0) := by
  unfold f_X4_charge
  rw [q_gLp]
  by_cases c : f_X4_currentOfStage o st b pf = -1
  · rw [if_pos c]; exact m4_end h
  · rw [if_neg c, q_gLp, q_gLp]
    obtain ⟨b', eb⟩ : ∃ z, z = f_X0_takeIn b (f_X4_currentOfStage o st b pf) (st 2) (st 0) := ⟨_, rfl⟩
    rw [← eb]
    by_cases c2 : f_X4_endsBehind (upd o 2 (o 2 + 1)) st b' pf (f_X4_currentOfStage o st b pf) = 0
    · rw [if_pos c2, q_gLp]
      by_cases c3 : f_X4_hasRunOut (upd o 2 (o 2 + 1)) pf = 0
      · rw [if_pos c3]; exact h
      · rw [if_neg c3]; exact Or.inr (Or.inr (Or.inr rfl))
    · rw [if_neg c2]; exact m4_end (o := upd o 2 (o 2 + 1)) h
theorem m4_paused {o : Nat → Int32} {g : Nat → Nat → Int32} (h : M4 (o 0)) : M4 ((f_X4_countPausedTick o g).1 0) := by
  unfold f_X4_countPausedTick
  by_cases c : o 5 = 0
  · rw [if_pos c]; exact h
  · rw [if_neg c]; exact h
theorem m4_tick {o st : Nat → Int32} {b pf g : Nat → Nat → Int32} (h : M4 (o 0)) : M4 ((f_X4_passOneTick o st b pf g).1 0) := by
  unfold f_X4_passOneTick
  rw [q_gLp]
  by_cases c : f_X4_isPaused o st = 0
  · rw [if_pos c]
    by_cases c1 : o 0 = 1
    · rw [if_pos c1, q_gLp]
      have q := m4_charge (o := o) (st := st) (b := b) (pf := pf) (g := g) h
      by_cases c2 : st 8 ≤ 0
      · rw [if_pos c2]; exact q
      · rw [if_neg c2]; exact q
    · rw [if_neg c1]
      by_cases c2 : st 8 ≤ 0
      · rw [if_pos c2]; exact h
      · rw [if_neg c2]; exact h
  · rw [if_neg c, q_gLp]
    have q := m4_paused (o := o) (g := g) h
    by_cases c2 : st 8 ≤ 0
    · rw [if_pos c2]; exact q
    · rw [if_neg c2]; exact q
theorem m4_ticks {p1 : Int32} {st : Nat → Int32} {pf : Nat → Nat → Int32} : ∀ (n : Nat) (x : Int32) (o : Nat → Int32) (b g : Nat → Nat → Int32), M4 (o 0) → M4 ((fl_X4_passTicks_2 p1 st pf n x o b g).1 0) := by
  intro n
  induction n with
  | zero => intro x o b g h; exact Or.inl rfl
  | succ n ih =>
    intro x o b g h
    rw [fl_X4_passTicks_2]
    by_cases c : p1 ≤ x
    · rw [if_pos c]; exact h
    · rw [if_neg c, q_gLp, q_gLp]; exact ih _ _ _ _ (m4_tick h)
theorem ar_battery (cx : (Nat → Int32)) (o : (Nat → Int32)) (st : (Nat → Int32)) (b : (Nat → Nat → Int32)) (pf : (Nat → Nat → Int32)) (g : (Nat → Nat → Int32)) (so : (Nat → Int32)) (sst : (Nat → Int32)) (sb : (Nat → Nat → Int32)) (sp : (Nat → Nat → Int32)) (sg : (Nat → Nat → Int32)) (hh : HVal) (t : (Nat → Nat → Int32)) (a1 : Int32) (hI : Iv cx o st b pf g so sst sb sp sg hh t) (hM : M4 (o 0)) (h56 : st 5 ≤ st 6) : AR (o, st, b, pf, g) ((f_X6_battery o st b pf g hh a1).2.1, st, (f_X6_battery o st b pf g hh a1).2.2.1, pf, g) hh (f_X6_battery o st b pf g hh a1).2.2.2 t t (f_X6_battery o st b pf g hh a1).1 := by
  obtain ⟨mo, f, fw, fs, tx, hS, hH, hN, hX⟩ := id hI
  obtain ⟨N, d, h6, d1, d2, e0, eb, ef, hC, hch⟩ := id hS.1
  have hT := hS.2.1
  by_cases h1 : a1 < 1
  · rw [re_battery o st b pf g hh a1 (Or.inl h1)]; (refine Or.inl ⟨?_, rfl, rfl, rfl⟩; dsimp only; decide)
  · by_cases h2 : a1 ≤ 6
    · have v6 : f_X6_battery o st b pf g hh a1 = (b 0 0, upd o 0 0, f_X0_putEmpty b a1, f_hadd o st b pf g hh) := by unfold f_X6_battery; rw [if_neg h1, if_pos h2, q_gLp, q_gLp, q_gLp]
      rw [v6]
      refine Or.inr ⟨?_, rfl, Or.inl rfl, h56, rfl⟩
      show ¬ b 0 0 < 0
      rw [eb]; exact nI_nn (by omega)
    · rw [re_battery o st b pf g hh a1 (Or.inr (Int32.not_le.mp h2))]; (refine Or.inl ⟨?_, rfl, rfl, rfl⟩; dsimp only; decide)
theorem ar_setCharge (cx : (Nat → Int32)) (o : (Nat → Int32)) (st : (Nat → Int32)) (b : (Nat → Nat → Int32)) (pf : (Nat → Nat → Int32)) (g : (Nat → Nat → Int32)) (so : (Nat → Int32)) (sst : (Nat → Int32)) (sb : (Nat → Nat → Int32)) (sp : (Nat → Nat → Int32)) (sg : (Nat → Nat → Int32)) (hh : HVal) (t : (Nat → Nat → Int32)) (a1 : Int32) (a2 : Int32) (hI : Iv cx o st b pf g so sst sb sp sg hh t) (hM : M4 (o 0)) (h56 : st 5 ≤ st 6) : AR (o, st, b, pf, g) (o, st, (f_X6_setCharge o st b pf g hh a1 a2).2.1, pf, g) hh (f_X6_setCharge o st b pf g hh a1 a2).2.2 t t (f_X6_setCharge o st b pf g hh a1 a2).1 := by
  obtain ⟨mo, f, fw, fs, tx, hS, hH, hN, hX⟩ := id hI
  obtain ⟨N, d, h6, d1, d2, e0, eb, ef, hC, hch⟩ := id hS.1
  have hT := hS.2.1
  rcases (p_isCell hS.1 a1).2 with ⟨e6, -⟩ | ⟨e6, -, N2, c, h62, hc, ea, b0, -⟩
  · have v6 : f_X6_setCharge o st b pf g hh a1 a2 = (-1, b, hh) := by unfold f_X6_setCharge; rw [q_gLp, if_pos e6]
    rw [v6]; (refine Or.inl ⟨?_, rfl, rfl, rfl⟩; dsimp only; decide)
  · have eN : N2 + 1 = N + 1 := (nI_eq (by omega) (by omega)).mp (b0.symm.trans eb)
    subst ea
    have r6 := q_1no e6
    have cc : (nI c).toNatClampNeg = c := q_c (by omega)
    obtain ⟨ca, cr, k1, k2, k3, k4⟩ := hch c (by omega)
    have hv : ¬ b 1 c < 0 := by rw [k3]; exact nI_nn (by omega)
    by_cases h1 : a2 < 0
    · have v6 : f_X6_setCharge o st b pf g hh (nI c) a2 = (-2, b, hh) := by unfold f_X6_setCharge; rw [q_gLp, if_neg r6, if_pos h1]
      rw [v6]; (refine Or.inl ⟨?_, rfl, rfl, rfl⟩; dsimp only; decide)
    · by_cases h2 : a2 ≤ st 0
      · by_cases h3 : b 1 c = a2
        · by_cases h4 : b 2 c = 0
          · have v6 : f_X6_setCharge o st b pf g hh (nI c) a2 = (-5, b, hh) := by unfold f_X6_setCharge; rw [q_gLp, if_neg r6, if_neg h1, if_pos h2, q_gLp, cc, if_pos h3, if_pos h4]
            rw [v6]; (refine Or.inl ⟨?_, rfl, rfl, rfl⟩; dsimp only; decide)
          · have v6 : f_X6_setCharge o st b pf g hh (nI c) a2 = (b 1 c, sF (sF b 1 (upd (b 1) c a2)) 2 (upd (b 2) c 0), f_hadd o st b pf g hh) := by unfold f_X6_setCharge; rw [q_gLp, if_neg r6, if_neg h1, if_pos h2, q_gLp, cc, if_pos h3, if_neg h4, q_gLp, q_gLp, q_gLp]
            rw [v6]; exact Or.inr ⟨hv, rfl, hM, h56, rfl⟩
        · have v6 : f_X6_setCharge o st b pf g hh (nI c) a2 = (b 1 c, sF (sF b 1 (upd (b 1) c a2)) 2 (upd (b 2) c 0), f_hadd o st b pf g hh) := by unfold f_X6_setCharge; rw [q_gLp, if_neg r6, if_neg h1, if_pos h2, q_gLp, cc, if_neg h3, q_gLp, q_gLp, q_gLp]
          rw [v6]; exact Or.inr ⟨hv, rfl, hM, h56, rfl⟩
      · have v6 : f_X6_setCharge o st b pf g hh (nI c) a2 = (-2, b, hh) := by unfold f_X6_setCharge; rw [q_gLp, if_neg r6, if_neg h1, if_neg h2]
        rw [v6]; (refine Or.inl ⟨?_, rfl, rfl, rfl⟩; dsimp only; decide)
theorem ar_use (cx : (Nat → Int32)) (o : (Nat → Int32)) (st : (Nat → Int32)) (b : (Nat → Nat → Int32)) (pf : (Nat → Nat → Int32)) (g : (Nat → Nat → Int32)) (so : (Nat → Int32)) (sst : (Nat → Int32)) (sb : (Nat → Nat → Int32)) (sp : (Nat → Nat → Int32)) (sg : (Nat → Nat → Int32)) (hh : HVal) (t : (Nat → Nat → Int32)) (a1 : Int32) (hI : Iv cx o st b pf g so sst sb sp sg hh t) (hM : M4 (o 0)) (h56 : st 5 ≤ st 6) : AR (o, st, b, pf, g) (o, st, (f_X6_use o st b pf g hh a1).2.1, pf, g) hh (f_X6_use o st b pf g hh a1).2.2 t t (f_X6_use o st b pf g hh a1).1 := by
  obtain ⟨mo, f, fw, fs, tx, hS, hH, hN, hX⟩ := id hI
  obtain ⟨N, d, h6, d1, d2, e0, eb, ef, hC, hch⟩ := id hS.1
  have hT := hS.2.1
  by_cases h1 : a1 < 1
  · rw [re_use o st b pf g hh a1 (Or.inl h1)]; (refine Or.inl ⟨?_, rfl, rfl, rfl⟩; dsimp only; decide)
  · by_cases h2 : a1 ≤ 5000
    · by_cases h3 : o 0 = 1
      · have v6 : f_X6_use o st b pf g hh a1 = (-4, b, hh) := by unfold f_X6_use; rw [if_neg h1, if_pos h2, if_pos h3]
        rw [v6]; (refine Or.inl ⟨?_, rfl, rfl, rfl⟩; dsimp only; decide)
      · by_cases h4 : a1 ≤ f_X0_leastCharge b
        · have v6 : f_X6_use o st b pf g hh a1 = (f_X0_leastCharge (f_X0_draw b a1), f_X0_draw b a1, f_hadd o st b pf g hh) := by unfold f_X6_use; rw [if_neg h1, if_pos h2, if_neg h3, q_gLp, if_pos h4, q_gLp, q_gLp, q_gLp]
          have q := (iv_use cx o st b pf g so sst sb sp sg hh t a1 hI).2
          rw [v6] at q ⊢
          refine Or.inr ⟨?_, rfl, hM, h56, rfl⟩
          obtain ⟨mo', f', fw', fs', tx', hS', -, -, -⟩ := q
          obtain ⟨N', d', h6', d1', d2', e0', eb', ef', hC', hch'⟩ := hS'.1
          show ¬ f_X0_leastCharge (f_X0_draw b a1) < 0
          rw [(p_least eb' h6').1]
          obtain ⟨a, ha, ea⟩ := mn_nI (M := d') (by omega) N' (fun c hc => by
            obtain ⟨a, r, g1, g2, g3, g4⟩ := hch' c hc
            exact ⟨a, g1, g3⟩)
          rw [ea]; exact nI_nn (by omega)
        · have v6 : f_X6_use o st b pf g hh a1 = (-4, b, hh) := by unfold f_X6_use; rw [if_neg h1, if_pos h2, if_neg h3, q_gLp, if_neg h4]
          rw [v6]; (refine Or.inl ⟨?_, rfl, rfl, rfl⟩; dsimp only; decide)
    · rw [re_use o st b pf g hh a1 (Or.inr (Int32.not_le.mp h2))]; (refine Or.inl ⟨?_, rfl, rfl, rfl⟩; dsimp only; decide)
theorem ar_set (cx : (Nat → Int32)) (o : (Nat → Int32)) (st : (Nat → Int32)) (b : (Nat → Nat → Int32)) (pf : (Nat → Nat → Int32)) (g : (Nat → Nat → Int32)) (so : (Nat → Int32)) (sst : (Nat → Int32)) (sb : (Nat → Nat → Int32)) (sp : (Nat → Nat → Int32)) (sg : (Nat → Nat → Int32)) (hh : HVal) (t : (Nat → Nat → Int32)) (a1 : Int32) (a2 : Int32) (hI : Iv cx o st b pf g so sst sb sp sg hh t) (hM : M4 (o 0)) (h56 : st 5 ≤ st 6) : AR (o, st, b, pf, g) (o, (f_X6_set o st b pf g hh a1 a2).2.1, b, pf, g) hh (f_X6_set o st b pf g hh a1 a2).2.2 t t (f_X6_set o st b pf g hh a1 a2).1 := by
  obtain ⟨mo, f, fw, fs, tx, hS, hH, hN, hX⟩ := id hI
  obtain ⟨N, d, h6, d1, d2, e0, eb, ef, hC, hch⟩ := id hS.1
  have hT := hS.2.1
  rcases p_isSet a1 with ⟨e6, -⟩ | ⟨e6, -, w, hw, ea⟩
  · have v6 : f_X6_set o st b pf g hh a1 a2 = (-1, st, hh) := by unfold f_X6_set; rw [q_gLp, if_pos e6]
    rw [v6]; (refine Or.inl ⟨?_, rfl, rfl, rfl⟩; dsimp only; decide)
  · subst ea
    have r6 := q_1no e6
    have cc : (nI w).toNatClampNeg = w := q_c (by omega)
    by_cases h1 : a2 < cLeast w
    · have v6 : f_X6_set o st b pf g hh (nI w) a2 = (-2, st, hh) := by unfold f_X6_set; rw [q_gLp, if_neg r6, cc, if_pos h1]
      rw [v6]; (refine Or.inl ⟨?_, rfl, rfl, rfl⟩; dsimp only; decide)
    · by_cases h2 : a2 ≤ cMost w
      · by_cases h3 : f_X4_allows st b (nI w) a2 = 0
        · have v6 : f_X6_set o st b pf g hh (nI w) a2 = (-4, st, hh) := by unfold f_X6_set; rw [q_gLp, if_neg r6, cc, if_neg h1, if_pos h2, q_gLp, if_pos h3]
          rw [v6]; (refine Or.inl ⟨?_, rfl, rfl, rfl⟩; dsimp only; decide)
        · by_cases h4 : st w = a2
          · have v6 : f_X6_set o st b pf g hh (nI w) a2 = (-5, st, hh) := by unfold f_X6_set; rw [q_gLp, if_neg r6, cc, if_neg h1, if_pos h2, q_gLp, if_neg h3, q_gLp, if_pos h4]
            rw [v6]; (refine Or.inl ⟨?_, rfl, rfl, rfl⟩; dsimp only; decide)
          · have v6 : f_X6_set o st b pf g hh (nI w) a2 = (st w + 1000, upd st w a2, f_hadd o st b pf g hh) := by unfold f_X6_set; rw [q_gLp, if_neg r6, cc, if_neg h1, if_pos h2, q_gLp, if_neg h3, q_gLp, if_neg h4, q_gLp, q_gLp]
            rw [v6]
            have hb : -30 ≤ cLeast w ∧ cMost w ≤ 5000 := by
              rcases (show w = 0 ∨ w = 1 ∨ w = 2 ∨ w = 3 ∨ w = 4 ∨ w = 5 ∨ w = 6 ∨ w = 7 ∨ w = 8 by omega) with rfl | rfl | rfl | rfl | rfl | rfl | rfl | rfl | rfl <;> decide
            refine Or.inr ⟨s1000 (Int32.le_trans hb.1 (hT w hw).2.1) (Int32.le_trans (hT w hw).2.2 hb.2), rfl, hM, ?_, rfl⟩
            show (upd st w a2) 5 ≤ (upd st w a2) 6
            rw [q_up, q_up]
            unfold f_X4_allows at h3
            by_cases w5 : w = 5
            · subst w5
              rw [if_neg (show ¬ nI 5 = 0 by decide), if_pos (show nI 5 = 5 from rfl)] at h3
              rw [if_pos rfl, if_neg (by decide)]
              exact Int32.not_lt.mp (fun q => h3 (if_pos q))
            · by_cases w6 : w = 6
              · subst w6
                rw [if_neg (show ¬ nI 6 = 0 by decide), if_neg (show ¬ nI 6 = 5 by decide), if_pos (show nI 6 = 6 from rfl)] at h3
                rw [if_neg (by decide), if_pos rfl]
                exact Int32.not_lt.mp (fun q => h3 (if_pos q))
              · rw [if_neg (fun e => w5 e.symm), if_neg (fun e => w6 e.symm)]
                exact h56
      · have v6 : f_X6_set o st b pf g hh (nI w) a2 = (-2, st, hh) := by unfold f_X6_set; rw [q_gLp, if_neg r6, cc, if_neg h1, if_neg h2]
        rw [v6]; (refine Or.inl ⟨?_, rfl, rfl, rfl⟩; dsimp only; decide)
theorem q_m100 : ∀ p, p < 61 → (-100 : Int32) - nI p < 0 := by decide +kernel
theorem ar_readProfile (cx : (Nat → Int32)) (o : (Nat → Int32)) (st : (Nat → Int32)) (b : (Nat → Nat → Int32)) (pf : (Nat → Nat → Int32)) (g : (Nat → Nat → Int32)) (so : (Nat → Int32)) (sst : (Nat → Int32)) (sb : (Nat → Nat → Int32)) (sp : (Nat → Nat → Int32)) (sg : (Nat → Nat → Int32)) (hh : HVal) (t : (Nat → Nat → Int32)) (dr : Nat → Nat → Int32) (hI : Iv cx o st b pf g so sst sb sp sg hh t) (hM : M4 (o 0)) (h56 : st 5 ≤ st 6) : AR (o, st, b, pf, g) (o, st, b, (f_X6_readProfile o st b pf g hh t dr).2.1, g) hh (f_X6_readProfile o st b pf g hh t dr).2.2.1 t (f_X6_readProfile o st b pf g hh t dr).2.2.2.1 (f_X6_readProfile o st b pf g hh t dr).1 := by
  obtain ⟨mo, f, fw, fs, tx, hS, hH, hN, hX⟩ := id hI
  obtain ⟨N, d, h6, d1, d2, e0, eb, ef, hC, hch⟩ := id hS.1
  have hT := hS.2.1
  obtain ⟨n, n1, n2, n3, n4⟩ := hX
  have hT : TR (sF t 0 (upd (t 0) 1 0)) (upd (upd mo 3 0) 5 0) tx n 0 := ⟨n1, by omega, n2, n3, rfl, rfl, n4⟩
  obtain ⟨i1, i2, i3⟩ := p_into 6 0 0 (sF t 0 (upd (t 0) 1 0)) (sF dr 0 (upd (dr 0) 0 0)) (upd (upd mo 3 0) 5 0) (fun _ => 0) (by omega) (by omega) hT rfl rfl (fun j hj => absurd hj (by omega))
  obtain ⟨S, hSd⟩ : ∃ S, S = f_X5_readInto t dr := ⟨_, rfl⟩
  obtain ⟨R, hRd⟩ : ∃ R, R = f_X7_readsText mo tx (fun _ => 0) := ⟨_, rfl⟩
  have i3' : OUT (upd (upd mo 3 0) 5 0) tx n S R := by rw [hSd, hRd]; exact i3
  obtain ⟨p', r1, r2, r3⟩ := i3'
  have et : S.2.1 0 0 = t 0 0 := r1.2.2.1.trans n2.symm
  rcases r3 with ⟨d1, d2⟩ | ⟨d1, d2, K, hK, d3, d4, d5⟩
  · have v6 : f_X6_readProfile o st b pf g hh t dr = (((-100) - ((S.2.1 0) 1)), pf, hh, S.2.1, S.2.2) := by unfold f_X6_readProfile; rw [← hSd, q_gLp, if_pos d1]
    rw [v6]
    refine Or.inl ⟨?_, rfl, rfl, et⟩
    show (-100 : Int32) - S.2.1 0 1 < 0
    rw [r1.2.2.2.2.1]
    exact q_m100 p' (by have := r1.2.1; omega)
  · have d1' := q_1no d1
    by_cases h1 : f_X3_isInRange S.2.2 = 0
    · have v6 : f_X6_readProfile o st b pf g hh t dr = (-2, pf, hh, S.2.1, S.2.2) := by unfold f_X6_readProfile; rw [← hSd, q_gLp, if_neg d1', q_gLp, if_pos h1]
      rw [v6]; (refine Or.inl ⟨?_, rfl, rfl, et⟩; dsimp only; decide)
    · by_cases h2 : o 0 = 1
      · have v6 : f_X6_readProfile o st b pf g hh t dr = (-4, pf, hh, S.2.1, S.2.2) := by unfold f_X6_readProfile; rw [← hSd, q_gLp, if_neg d1', q_gLp, if_neg h1, if_pos h2]
        rw [v6]; (refine Or.inl ⟨?_, rfl, rfl, et⟩; dsimp only; decide)
      · have v6 : f_X6_readProfile o st b pf g hh t dr = (S.2.2 0 0, S.2.2, f_hadd o st b pf g hh, S.2.1, S.2.2) := by unfold f_X6_readProfile; rw [← hSd, q_gLp, if_neg d1', q_gLp, if_neg h1, if_neg h2, q_gLp]
        rw [v6]
        refine Or.inr ⟨?_, rfl, hM, h56, et⟩
        show ¬ S.2.2 0 0 < 0
        rw [d3]; exact nI_nn (by omega)
theorem ar_start (cx : (Nat → Int32)) (o : (Nat → Int32)) (st : (Nat → Int32)) (b : (Nat → Nat → Int32)) (pf : (Nat → Nat → Int32)) (g : (Nat → Nat → Int32)) (so : (Nat → Int32)) (sst : (Nat → Int32)) (sb : (Nat → Nat → Int32)) (sp : (Nat → Nat → Int32)) (sg : (Nat → Nat → Int32)) (hh : HVal) (t : (Nat → Nat → Int32)) (hI : Iv cx o st b pf g so sst sb sp sg hh t) (hM : M4 (o 0)) (h56 : st 5 ≤ st 6) : AR (o, st, b, pf, g) ((f_X6_start o st b pf g hh).2.1, st, b, pf, (f_X6_start o st b pf g hh).2.2.1) hh (f_X6_start o st b pf g hh).2.2.2 t t (f_X6_start o st b pf g hh).1 := by
  obtain ⟨mo, f, fw, fs, tx, hS, hH, hN, hX⟩ := id hI
  obtain ⟨N, d, h6, d1, d2, e0, eb, ef, hC, hch⟩ := id hS.1
  have hT := hS.2.1
  by_cases h1 : o 0 = 1
  · have v6 : f_X6_start o st b pf g hh = (-4, o, g, hh) := by unfold f_X6_start; rw [if_pos h1]
    rw [v6]; (refine Or.inl ⟨?_, rfl, rfl, rfl⟩; dsimp only; decide)
  · by_cases h2 : pf 0 0 = 0
    · have v6 : f_X6_start o st b pf g hh = (-4, o, g, hh) := by unfold f_X6_start; rw [if_neg h1, if_pos h2]
      rw [v6]; (refine Or.inl ⟨?_, rfl, rfl, rfl⟩; dsimp only; decide)
    · have v6 : f_X6_start o st b pf g hh = (o 0, (f_X4_beginCharging o g).1, (f_X4_beginCharging o g).2, f_hadd o st b pf g hh) := by unfold f_X6_start; rw [if_neg h1, if_neg h2, q_gLp, q_gLp, q_gLp]
      rw [v6]
      exact Or.inr ⟨hM.nn, rfl, Or.inr (Or.inl rfl), h56, rfl⟩
theorem ar_stop (cx : (Nat → Int32)) (o : (Nat → Int32)) (st : (Nat → Int32)) (b : (Nat → Nat → Int32)) (pf : (Nat → Nat → Int32)) (g : (Nat → Nat → Int32)) (so : (Nat → Int32)) (sst : (Nat → Int32)) (sb : (Nat → Nat → Int32)) (sp : (Nat → Nat → Int32)) (sg : (Nat → Nat → Int32)) (hh : HVal) (t : (Nat → Nat → Int32)) (hI : Iv cx o st b pf g so sst sb sp sg hh t) (hM : M4 (o 0)) (h56 : st 5 ≤ st 6) : AR (o, st, b, pf, g) ((f_X6_stop o st b pf g hh).2.1, st, b, pf, g) hh (f_X6_stop o st b pf g hh).2.2 t t (f_X6_stop o st b pf g hh).1 := by
  obtain ⟨mo, f, fw, fs, tx, hS, hH, hN, hX⟩ := id hI
  obtain ⟨N, d, h6, d1, d2, e0, eb, ef, hC, hch⟩ := id hS.1
  have hT := hS.2.1
  by_cases h1 : o 0 = 0
  · have v6 : f_X6_stop o st b pf g hh = (-5, o, hh) := by unfold f_X6_stop; rw [q_gLp, if_pos h1]
    rw [v6]; (refine Or.inl ⟨?_, rfl, rfl, rfl⟩; dsimp only; decide)
  · have v6 : f_X6_stop o st b pf g hh = (o 0, upd o 0 0, f_hadd o st b pf g hh) := by unfold f_X6_stop; rw [q_gLp, if_neg h1, q_gLp]
    rw [v6]
    exact Or.inr ⟨hM.nn, rfl, Or.inl rfl, h56, rfl⟩
theorem ar_pass (cx : (Nat → Int32)) (o : (Nat → Int32)) (st : (Nat → Int32)) (b : (Nat → Nat → Int32)) (pf : (Nat → Nat → Int32)) (g : (Nat → Nat → Int32)) (so : (Nat → Int32)) (sst : (Nat → Int32)) (sb : (Nat → Nat → Int32)) (sp : (Nat → Nat → Int32)) (sg : (Nat → Nat → Int32)) (hh : HVal) (t : (Nat → Nat → Int32)) (a1 : Int32) (hI : Iv cx o st b pf g so sst sb sp sg hh t) (hM : M4 (o 0)) (h56 : st 5 ≤ st 6) : AR (o, st, b, pf, g) ((f_X6_pass o st b pf g hh a1).2.1, st, (f_X6_pass o st b pf g hh a1).2.2.1, pf, (f_X6_pass o st b pf g hh a1).2.2.2.1) hh (f_X6_pass o st b pf g hh a1).2.2.2.2 t t (f_X6_pass o st b pf g hh a1).1 := by
  obtain ⟨mo, f, fw, fs, tx, hS, hH, hN, hX⟩ := id hI
  obtain ⟨N, d, h6, d1, d2, e0, eb, ef, hC, hch⟩ := id hS.1
  have hT := hS.2.1
  by_cases h1 : a1 < 1
  · rw [re_pass o st b pf g hh a1 (Or.inl h1)]; (refine Or.inl ⟨?_, rfl, rfl, rfl⟩; dsimp only; decide)
  · by_cases h2 : a1 ≤ 200
    · by_cases h3 : o 3 + a1 ≤ 99999
      · have v6 : f_X6_pass o st b pf g hh a1 = ((f_X4_passTicks o st b pf g a1).1 0, (f_X4_passTicks o st b pf g a1).1, (f_X4_passTicks o st b pf g a1).2.1, (f_X4_passTicks o st b pf g a1).2.2, f_hadd o st b pf g hh) := by unfold f_X6_pass; rw [if_neg h1, if_pos h2, if_pos h3, q_gLp, q_gLp]
        have q : M4 ((f_X4_passTicks o st b pf g a1).1 0) := by unfold f_X4_passTicks; exact m4_ticks _ _ _ _ _ hM
        rw [v6]
        exact Or.inr ⟨q.nn, rfl, q, h56, rfl⟩
      · have v6 : f_X6_pass o st b pf g hh a1 = (-3, o, b, g, hh) := by unfold f_X6_pass; rw [if_neg h1, if_pos h2, if_neg h3]
        rw [v6]; (refine Or.inl ⟨?_, rfl, rfl, rfl⟩; dsimp only; decide)
    · rw [re_pass o st b pf g hh a1 (Or.inr (Int32.not_le.mp h2))]; (refine Or.inl ⟨?_, rfl, rfl, rfl⟩; dsimp only; decide)
/-- the states of the history, the latest first, are those whose digests were kept last -/
def HI (hh : HVal) (B : Nat) (wf : Nat → Int64) : Prop := hh.1 ≤ 4 ∧ hh.1 ≤ B ∧ ∀ j, j < hh.1 → Fsn (hh.2.2 (hh.1 - 1 - j)) = wf (B - 1 - j)
theorem HI_add {s : SVal} {hh : HVal} {B : Nat} {wf : Nat → Int64} (h : HI hh B wf) (e : Fsn s = wf B) : HI (hadd s hh) (B + 1) wf := by
  obtain ⟨n, r, hv⟩ := hh
  obtain ⟨h1, h2, h3⟩ := h
  simp only at h1 h2 h3
  unfold hadd f_hadd
  by_cases c : n = 4
  · subst c
    rw [if_pos rfl]
    refine ⟨Nat.le_refl 4, by show 4 ≤ B + 1; omega, fun j hj => ?_⟩
    have hj : j < 4 := hj
    show Fsn (if 4 - 1 - j = 3 then s else hv (4 - 1 - j + 1)) = wf (B + 1 - 1 - j)
    by_cases c2 : j = 0
    · subst c2
      rw [if_pos rfl]
      exact e
    · rw [if_neg (by omega), show 4 - 1 - j + 1 = 4 - 1 - (j - 1) by omega, show B + 1 - 1 - j = B - 1 - (j - 1) by omega]
      exact h3 (j - 1) (by omega)
  · rw [if_neg c]
    refine ⟨by show n + 1 ≤ 4; omega, by show n + 1 ≤ B + 1; omega, fun j hj => ?_⟩
    have hj : j < n + 1 := hj
    show Fsn (if n + 1 - 1 - j = n then s else hv (n + 1 - 1 - j)) = wf (B + 1 - 1 - j)
    by_cases c2 : j = 0
    · subst c2
      rw [if_pos (by omega)]
      exact e
    · rw [if_neg (by omega), show n + 1 - 1 - j = n - 1 - (j - 1) by omega, show B + 1 - 1 - j = B - 1 - (j - 1) by omega]
      exact h3 (j - 1) (by omega)
theorem HI_take {hh : HVal} {B : Nat} {wf : Nat → Int64} (h : HI hh B wf) (h0 : 1 ≤ hh.1) : Fsn (f_htake hh).1 = wf (B - 1) ∧ HI (f_htake hh).2 (B - 1) wf := by
  obtain ⟨n, r, hv⟩ := hh
  obtain ⟨h1, h2, h3⟩ := h
  simp only at h0 h1 h2 h3
  unfold f_htake
  refine ⟨h3 0 (by omega), by show n - 1 ≤ 4; omega, by show n - 1 ≤ B - 1; omega, fun j hj => ?_⟩
  have hj : j < n - 1 := hj
  show Fsn (hv (n - 1 - 1 - j)) = wf (B - 1 - 1 - j)
  rw [show n - 1 - 1 - j = n - 1 - (j + 1) by omega, show B - 1 - 1 - j = B - 1 - (j + 1) by omega]
  exact h3 (j + 1) (by omega)
theorem HI_fr {hh : HVal} {B : Nat} {wf wf' : Nat → Int64} (h : HI hh B wf) (e : ∀ j, j < B → wf' j = wf j) : HI hh B wf' :=
  ⟨h.1, h.2.1, fun j hj => (h.2.2 j hj).trans (e _ (by have := h.2.1; omega)).symm⟩
theorem hadd_1 (s : SVal) (hh : HVal) (h : hh.1 ≤ 4) : (hadd s hh).1 = if hh.1 = 4 then 4 else hh.1 + 1 := by
  unfold hadd f_hadd
  by_cases c : hh.1 = 4
  · rw [if_pos c, if_pos c]
  · rw [if_neg c, if_neg c]
theorem un_ok (o st : Nat → Int32) (b pf g : Nat → Nat → Int32) (hh : HVal) (h0 : 1 ≤ hh.1) (h4 : hh.1 ≤ 4) : f_X6_undo o st b pf g hh = (nI (hh.1 - 1), (f_htake hh).1.1, (f_htake hh).1.2.1, (f_htake hh).1.2.2.1, (f_htake hh).1.2.2.2.1, (f_htake hh).1.2.2.2.2, (f_htake hh).2) := by
  have hc : ¬ nI hh.1 = 0 := fun e => by
    have := (nI_eq (b := 0) (by omega) (by omega)).mp e
    omega
  unfold f_X6_undo
  rw [if_neg hc, q_gLp]
  rfl
theorem un_no (o st : Nat → Int32) (b pf g : Nat → Nat → Int32) (hh : HVal) (h0 : hh.1 = 0) : f_X6_undo o st b pf g hh = (-5, o, st, b, pf, g, hh) := by
  unfold f_X6_undo
  rw [if_pos (by rw [h0]; rfl)]
