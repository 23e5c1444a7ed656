/-! PURE: use, battery -/
theorem gmin_le1 (x y : Int32) : gmin x y ≤ x := by
  unfold gmin
  by_cases h : y < x
  · rw [if_pos h]; exact Int32.le_of_lt h
  · rw [if_neg h]; exact Int32.le_refl _
theorem gmin_le2 (x y : Int32) : gmin x y ≤ y := by
  unfold gmin
  by_cases h : y < x
  · rw [if_pos h]; exact Int32.le_refl _
  · rw [if_neg h]; exact Int32.not_lt.mp h
theorem mn_le (h : Nat → Int32) : ∀ k c, c ≤ k → mn h k ≤ h c
  | 0, c, hc => by
    have : c = 0 := by omega
    subst this
    exact Int32.le_refl _
  | k + 1, c, hc => by
    by_cases e : c = k + 1
    · subst e
      exact gmin_le2 _ _
    · exact Int32.le_trans (gmin_le1 _ _) (mn_le h k c (by omega))
def drB (b : Nat → Nat → Int32) (c : Nat) (x : Int32) : Nat → Nat → Int32 := sF (sF b 1 (upd (b 1) c (b 1 c - x))) 7 (upd (b 7) c (b 7 c + x))
def drF (f : Nat → Int32) (c : Nat) (x : Int32) : Nat → Int32 := upd (upd f (7 * c) (f (7 * c) - x)) (7 * c + 6) (f (7 * c + 6) + x)
theorem p_draw {A N d : Nat} (h6 : N + 1 ≤ 6) (d2 : d ≤ 5000) (R8 : (Nat → Int32) × (Nat → Int32)) : ∀ n c (b : Nat → Nat → Int32) (f : Nat → Int32), c ≤ N + 1 → N + 1 < c + n → b 0 0 = nI (N + 1) → f 71 = nI (N + 1) → RC b f → RN_ b N d → (∀ c', c ≤ c' → c' ≤ N → nI A ≤ b 1 c') → A ≤ 5000 →
    ∃ (b' : Nat → Nat → Int32) (f' : Nat → Int32), fl_X0_draw_2 (nI A) n (nI c) b = b' ∧ okl_X0_draw_2 (nI A) n (nI c) b ∧ fl_X7_use_46 (nI A) R8 n (nI c) f = (mn (ch f') N, R8.1, f', R8.2) ∧ okl_X7_use_46 (nI A) n (nI c) f ∧ b' 0 0 = nI (N + 1) ∧ RC b' f' ∧ RN_ b' N d ∧ ∀ j, 42 ≤ j → f' j = f j := by
  intro n
  induction n with
  | zero => intro c b f h1 h2; omega
  | succ n ih =>
    intro c b f h1 h2 b0 h71 hR hB hA hA5
    rw [fl_X0_draw_2, okl_X0_draw_2, fl_X7_use_46, okl_X7_use_46, b0, h71]
    by_cases e : c = N + 1
    · subst e
      have hc : nI (N + 1) ≤ nI (N + 1) := Int32.le_refl _
      obtain ⟨w1, -, w3⟩ := p_charged (f := f) 0 h71 h6
      rw [if_pos hc, if_pos hc, q_gLp, w1 rfl]
      exact ⟨b, f, rfl, ⟨fun _ => trivial, fun q => absurd hc q⟩, rfl, ⟨fun _ => ⟨w3, trivial⟩, fun q => absurd hc q⟩, b0, hR, hB, fun _ _ => rfl⟩
    · have hc : ¬ nI (N + 1) ≤ nI c := nI_ge (by omega) (by omega)
      have hv : vp_in (nI c) 6 := vp_in_nI (by omega) (by omega)
      have cc : (nI c).toNatClampNeg = c := q_c (by omega)
      have i0 : ((7 * nI c) + 0 : Int32).toNatClampNeg = 7 * c := by rw [q_7, q_p0]; exact q_c (by omega)
      have i6 : ((7 * nI c) + 6 : Int32).toNatClampNeg = 7 * c + 6 := by rw [q_7, show nI (7 * c) + 6 = nI (7 * c + 6) from nI_add (7 * c) 6]; exact q_c (by omega)
      have j0 : vp_in ((7 * nI c) + 0) 112 := by rw [q_7, q_p0]; exact q_in (by omega)
      have j6 : vp_in ((7 * nI c) + 6) 112 := by rw [q_7, show nI (7 * c) + 6 = nI (7 * c + 6) from nI_add (7 * c) 6]; exact q_in (by omega)
      have eB : (sF (sF b 1 (upd (b 1) c (b 1 c - nI A))) 7 (upd (b 7) c (b 7 c + nI A))) = drB b c (nI A) := rfl
      have z6 : (upd f (7 * c) (f (7 * c) - nI A)) (7 * c + 6) = f (7 * c + 6) := by rw [q_up, if_neg (by omega)]
      have eF : upd (upd f (7 * c) (f (7 * c) - nI A)) (7 * c + 6) ((upd f (7 * c) (f (7 * c) - nI A)) (7 * c + 6) + nI A) = drF f c (nI A) := by rw [z6]; rfl
      have m0 := hR c 0 (by omega) (by omega)
      have m6 := hR c 6 (by omega) (by omega)
      have hR' : RC (drB b c (nI A)) (drF f c (nI A)) := by
        have a1 := RC_upd (w := 0) hR (c := c) (by omega) (b 1 c - nI A)
        have a2 := RC_upd (w := 6) a1 (c := c) (by omega) (b 7 c + nI A)
        unfold drB drF
        rw [← show b 1 c = f (7 * c) from m0, ← show b 7 c = f (7 * c + 6) from m6]
        exact a2
      have hB' : RN_ (drB b c (nI A)) N d := by
        intro c' hc'
        obtain ⟨a, r, a1, r1, ea, er⟩ := hB c' hc'
        by_cases ec : c' = c
        · subst ec
          have hl : nI A ≤ nI a := by rw [← ea]; exact hA c' (Nat.le_refl _) hc'
          have hl' : A ≤ a := (nI_leI (by omega) (by omega)).mp hl
          refine ⟨a - A, r, by omega, r1, ?_, er⟩
          show upd (b 1) c' (b 1 c' - nI A) c' = nI (a - A)
          rw [q_up, if_pos rfl, ea, q_sub hl']
        · refine ⟨a, r, a1, r1, ?_, er⟩
          show upd (b 1) c (b 1 c - nI A) c' = nI a
          rw [q_up, if_neg ec, ea]
      obtain ⟨b', f', t1, t2, t3, t4, t5, t6, t7, t8⟩ := ih (c + 1) (drB b c (nI A)) (drF f c (nI A)) (by omega) (by omega) b0 (by unfold drF; rw [q_up, if_neg (by omega), q_up, if_neg (by omega)]; exact h71) hR' hB' (fun c' h3 h4 => by
        show nI A ≤ upd (b 1) c (b 1 c - nI A) c'
        rw [q_up, if_neg (by omega)]
        exact hA c' (by omega) h4) hA5
      refine ⟨b', f', ?_, ⟨fun q => absurd q hc, fun _ => ⟨hv, hv, ?_⟩⟩, ?_, ⟨fun q => absurd q hc, fun _ => ⟨j0, j0, ?_⟩⟩, t5, t6, t7, fun j hj => ?_⟩
      · rw [if_neg hc, cc, q_gLp, q_gLp, q_gLp, eB, q_p1]; exact t1
      · rw [cc, q_gLp]; refine ⟨hv, hv, ?_⟩; rw [q_gLp, q_gLp, eB, q_p1]; exact t2
      · rw [if_neg hc, i0, i6, q_gLp, q_gLp, q_gLp, eF, q_p1]; exact t3
      · rw [i0, i6, q_gLp]; refine ⟨j6, j6, ?_⟩; rw [q_gLp, q_gLp, eF, q_p1]; exact t4
      · rw [t8 j hj]
        unfold drF
        rw [q_up, if_neg (by omega), q_up, if_neg (by omega)]
theorem pu_use (cx : (Nat → Int32)) (o : (Nat → Int32)) (st : (Nat → Int32)) (b : (Nat → Nat → Int32)) (pf : (Nat → Nat → Int32)) (g : (Nat → Nat → Int32)) (so : (Nat → Int32)) (sst : (Nat → Int32)) (sb : (Nat → Nat → Int32)) (sp : (Nat → Nat → Int32)) (sg : (Nat → Nat → Int32)) (hh : HVal) (t : (Nat → Nat → Int32)) (mo : (Nat → Int32)) (f : (Nat → Int32)) (fw : (Nat → Int32)) (fs : (Nat → Int32)) (tx : (Nat → Int32)) (a1 : Int32) (h : Rel cx o st b pf g so sst sb sp sg hh t mo f fw fs tx) : (ok_X6_use o st b pf g hh a1) ∧ (ok_X7_use mo f fw a1) ∧ (f_X6_use o st b pf g hh a1).1 = (f_X7_use mo f fw a1).1 ∧ Rel cx o st ((f_X6_use o st b pf g hh a1).2.1) pf g so sst sb sp sg ((f_X6_use o st b pf g hh a1).2.2) t ((f_X7_use mo f fw a1).2.1) ((f_X7_use mo f fw a1).2.2.1) ((f_X7_use mo f fw a1).2.2.2) fs tx := by
  obtain ⟨hS, k1, k2⟩ := Rel_now h
  have e0 : o 0 = f 73 := hS.2.2.2.1.1
  by_cases h1 : a1 < 1
  · have e := p_in1 (hi := 5000) h1
    have v6 : f_X6_use o st b pf g hh a1 = (-2, b, hh) := by unfold f_X6_use; rw [if_pos h1]
    have v7 : f_X7_use mo f fw a1 = (-2, mo, f, fw) := by unfold f_X7_use; rw [q_gLp, if_pos e]
    refine ⟨?_, ?_, by rw [v6, v7]; exact ⟨rfl, h⟩⟩
    · unfold ok_X6_use; exact ⟨fun _ => trivial, fun q => absurd h1 q⟩
    · unfold ok_X7_use; exact ⟨fun _ => trivial, fun q => absurd e q⟩
  · by_cases h2 : a1 ≤ 5000
    · have e := q_1no (p_in3 h1 h2)
      by_cases h3 : o 0 = 1
      · have h3' : f 73 = 1 := e0.symm.trans h3
        have v6 : f_X6_use o st b pf g hh a1 = (-4, b, hh) := by unfold f_X6_use; rw [if_neg h1, if_pos h2, if_pos h3]
        have v7 : f_X7_use mo f fw a1 = (-4, mo, f, fw) := by unfold f_X7_use; rw [q_gLp, if_neg e, if_pos h3']
        refine ⟨?_, ?_, by rw [v6, v7]; exact ⟨rfl, h⟩⟩
        · unfold ok_X6_use; exact ⟨fun q => absurd q h1, fun _ => ⟨fun _ => ⟨fun _ => trivial, fun q => absurd h3 q⟩, fun q => absurd h2 q⟩⟩
        · unfold ok_X7_use; exact ⟨fun q => absurd q e, fun _ => ⟨fun _ => trivial, fun q => absurd h3' q⟩⟩
      · have h3' : ¬ f 73 = 1 := fun q => h3 (e0.trans q)
        obtain ⟨N, d, h6, d1, d2, s0, h42, b0, h71, hR, hB, hG⟩ := RB_G hS.1 hS.2.1
        obtain ⟨w1, -, w3⟩ := p_charged (f := f) 0 h71 h6
        have w1 := w1 rfl
        obtain ⟨l1, l2⟩ := p_least b0 h6
        have em : mn (b 1) N = mn (ch f) N := mn_congr N (fun c hc => hR c 0 (by omega) (by omega))
        obtain ⟨A, hA, eA⟩ := q_rg (x := a1) (M := 5000) (n := 5000) (by decide) (Int32.le_trans (by decide) (Int32.not_lt.mp h1)) h2
        subst eA
        by_cases h4 : nI A ≤ mn (ch f) N
        · obtain ⟨b', f', t1, t2, t3, t4, t5, t6, t7, t8⟩ := p_draw h6 d2 (f_X7_records mo f fw) 7 0 b f (by omega) (by omega) b0 h71 hR hB (fun c' _ hc' => Int32.le_trans h4 (by rw [← em]; exact mn_le _ N c' hc')) hA
          have t1' : f_X0_draw b (nI A) = b' := t1
          have t3' : fl_X7_use_46 (nI A) (f_X7_records mo f fw) 7 0 f = (mn (ch f') N, (f_X7_records mo f fw).1, f', (f_X7_records mo f fw).2) := t3
          obtain ⟨l3, l4⟩ := p_least t5 h6
          have em' : mn (b' 1) N = mn (ch f') N := mn_congr N (fun c hc => t6 c 0 (by omega) (by omega))
          have hnew : RS o st b' pf g f' := RS_lo hS (fun j hj _ => t8 j hj) ⟨N, d, h6, d1, d2, s0, t5, (t8 71 (by omega)).trans h71, t6, t7⟩
          have v6 : f_X6_use o st b pf g hh (nI A) = (mn (b' 1) N, b', f_hadd o st b pf g hh) := by unfold f_X6_use; rw [if_neg h1, if_pos h2, if_neg h3, q_gLp, l1, em, if_pos h4, q_gLp, q_gLp, t1', q_gLp, l3]
          have v7 : f_X7_use mo f fw (nI A) = (mn (ch f') N, (f_X7_records mo f fw).1, f', (f_X7_records mo f fw).2) := by unfold f_X7_use; rw [q_gLp, if_neg e, if_neg h3', q_gLp, w1, if_pos h4, q_gLp, t3']
          refine ⟨?_, ?_, by rw [v6, v7]; exact ⟨em', Rel_rec h hnew⟩⟩
          · unfold ok_X6_use; rw [l1, em]; exact ⟨fun q => absurd q h1, fun _ => ⟨fun _ => ⟨fun q => absurd q h3, fun _ => ⟨l2, fun _ => ⟨k1, t2, by rw [t1']; exact ⟨l4, trivial⟩⟩, fun q => absurd h4 q⟩⟩, fun q => absurd h2 q⟩⟩
          · unfold ok_X7_use; rw [w1]; exact ⟨fun q => absurd q e, fun _ => ⟨fun q => absurd q h3', fun _ => ⟨w3, fun _ => ⟨k2, t4⟩, fun q => absurd h4 q⟩⟩⟩
        · have v6 : f_X6_use o st b pf g hh (nI A) = (-4, b, hh) := by unfold f_X6_use; rw [if_neg h1, if_pos h2, if_neg h3, q_gLp, l1, em, if_neg h4]
          have v7 : f_X7_use mo f fw (nI A) = (-4, mo, f, fw) := by unfold f_X7_use; rw [q_gLp, if_neg e, if_neg h3', q_gLp, w1, if_neg h4]
          refine ⟨?_, ?_, by rw [v6, v7]; exact ⟨rfl, h⟩⟩
          · unfold ok_X6_use; rw [l1, em]; exact ⟨fun q => absurd q h1, fun _ => ⟨fun _ => ⟨fun q => absurd q h3, fun _ => ⟨l2, fun q => absurd q h4, fun _ => trivial⟩⟩, fun q => absurd h2 q⟩⟩
          · unfold ok_X7_use; rw [w1]; exact ⟨fun q => absurd q e, fun _ => ⟨fun q => absurd q h3', fun _ => ⟨w3, fun q => absurd q h4, fun _ => trivial⟩⟩⟩
    · have e : f_X7_in a1 1 5000 = 0 := p_in2 (Int32.not_le.mp h2)
      have v6 : f_X6_use o st b pf g hh a1 = (-2, b, hh) := by unfold f_X6_use; rw [if_neg h1, if_neg h2]
      have v7 : f_X7_use mo f fw a1 = (-2, mo, f, fw) := by unfold f_X7_use; rw [q_gLp, if_pos e]
      refine ⟨?_, ?_, by rw [v6, v7]; exact ⟨rfl, h⟩⟩
      · unfold ok_X6_use; exact ⟨fun q => absurd q h1, fun _ => ⟨fun q => absurd q h2, fun _ => trivial⟩⟩
      · unfold ok_X7_use; exact ⟨fun _ => trivial, fun q => absurd e q⟩
