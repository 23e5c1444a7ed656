/-! PURE: many ticks -/
theorem p_passLoop {st : Nat → Int32} {pf : Nat → Nat → Int32} {P : Nat} (hP : P ≤ 200) (R5 : (Nat → Int32) × (Nat → Int32)) (cl : Int32) : ∀ n x (o : Nat → Int32) (b g : Nat → Nat → Int32) (f : Nat → Int32), x ≤ P → P < x + n → RS o st b pf g f →
    okl_X4_passTicks_2 (nI P) st pf n (nI x) o b g ∧ ∃ f' : Nat → Int32, fl_X7_pass_37 (nI P) R5 n (nI x) f = (f' 73, R5.1, f', R5.2) ∧ okl_X7_pass_37 (nI P) n (nI x) f ∧ fl_X7_chargeIn_38 cl (nI P) n (nI x) f = (f_X7_of f' cl 0, f') ∧ (ok_X7_of cl 0 → okl_X7_chargeIn_38 cl (nI P) n (nI x) f) ∧ RT3 (fl_X4_passTicks_2 (nI P) st pf n (nI x) o b g) st pf f' := by
  intro n
  induction n with
  | zero => intro x o b g f h1 h2; omega
  | succ n ih =>
    intro x o b g f h1 h2 h
    rw [okl_X4_passTicks_2, fl_X7_pass_37, okl_X7_pass_37, fl_X7_chargeIn_38, okl_X7_chargeIn_38, fl_X4_passTicks_2]
    by_cases e : x = P
    · subst e
      have hc : nI x ≤ nI x := Int32.le_refl _
      rw [if_pos hc, if_pos hc, if_pos hc]
      exact ⟨⟨fun _ => trivial, fun q => absurd hc q⟩, f, rfl, ⟨fun _ => trivial, fun q => absurd hc q⟩, rfl, fun q => ⟨fun _ => ⟨q, trivial⟩, fun q => absurd hc q⟩, h⟩
    · have hc : ¬ nI P ≤ nI x := nI_ge (by omega) (by omega)
      rw [if_neg hc, if_neg hc, if_neg hc]
      obtain ⟨t1, t2, t3⟩ := p_tick h
      obtain ⟨i1, f', i2, i3, i4, i5, i6⟩ := ih (x + 1) _ _ _ _ (by omega) (by omega) t3
      rw [q_gLp, q_gLp, q_gLp, q_gLp, q_gLp, q_gLp, q_p1]
      refine ⟨⟨fun q => absurd q hc, fun _ => ⟨t1, i1⟩⟩, f', i2, ⟨fun q => absurd q hc, fun _ => ⟨t2, i3⟩⟩, i4, fun q => ⟨fun q => absurd q hc, fun _ => ⟨t2, i5 q⟩⟩, i6⟩
/-- a pause stays -/
theorem p_tickStay {o st f : Nat → Int32} {b pf g : Nat → Nat → Int32} (h : RS o st b pf g f) (h1 : o 0 = 1) (h2 : f_X7_isOut f = 1) : ∃ (o' : Nat → Int32) (b' g' : Nat → Nat → Int32), RS o' st b' pf g' (f_X7_tick f) ∧ o' 0 = 1 ∧ f_X7_isOut (f_X7_tick f) = 1 ∧ f_X7_tick f 73 = 1 ∧ ok_X7_tick f := by
  obtain ⟨t1, t2, t3⟩ := p_tick h
  obtain ⟨p1, p2⟩ := p_out (o := o) h.2.1 h1
  have n10 : ¬ (1 : Int32) = 0 := by decide
  have hp0 : ¬ f_X4_isPaused o st = 0 := by rw [p1, h2]; exact n10
  have e0 : (f_X4_passOneTick o st b pf g).1 0 = 1 := by
    have ec : (f_X4_countPausedTick o g).1 0 = o 0 := by
      unfold f_X4_countPausedTick
      by_cases h8 : o 5 = 0
      · rw [if_pos h8, q_gLp]; rfl
      · rw [if_neg h8]; rfl
    unfold f_X4_passOneTick
    rw [q_gLp, if_neg hp0, q_gLp]
    by_cases hs : st 8 ≤ 0
    · rw [if_pos hs]; exact ec.trans h1
    · rw [if_neg hs, q_gLp]; exact ec.trans h1
  obtain ⟨r1, r2⟩ := p_out (o := (f_X4_passOneTick o st b pf g).1) t3.2.1 e0
  have r3 : f_X4_isPaused (f_X4_passOneTick o st b pf g).1 st = f_X4_isPaused o st := by
    unfold f_X4_isPaused
    rw [if_pos e0, if_pos h1]
  refine ⟨_, _, _, t3, e0, ?_, t3.2.2.2.1.1.symm.trans e0, t2⟩
  rw [← r1, r3, p1, h2]
theorem p_stay {st : Nat → Int32} {pf : Nat → Nat → Int32} {P : Nat} (hP : P ≤ 2000) : ∀ n x (o : Nat → Int32) (b g : Nat → Nat → Int32) (f : Nat → Int32), x ≤ P + 1 → P + 1 < x + n → RS o st b pf g f → o 0 = 1 → f_X7_isOut f = 1 →
    (fl_X7_doneBy_2 (nI P) n (nI x) f).1 = -5 ∧ okl_X7_doneBy_2 (nI P) n (nI x) f := by
  intro n
  induction n with
  | zero => intro x o b g f h1 h2; omega
  | succ n ih =>
    intro x o b g f h1 h2 h h3 h4
    rw [fl_X7_doneBy_2, okl_X7_doneBy_2]
    by_cases e : x = P + 1
    · subst e
      have hc : nI P < nI (P + 1) := nI_lt (by omega) (by omega)
      rw [if_pos hc]
      exact ⟨rfl, fun _ => trivial, fun q => absurd hc q⟩
    · have hc : ¬ nI P < nI x := nI_nlt (by omega) (by omega)
      have h73 : f 73 = 1 := h.2.2.2.1.1.symm.trans h3
      obtain ⟨o', b', g', t1, t2, t3, t4, t5⟩ := p_tickStay h h3 h4
      have n12 : ¬ f_X7_tick f 73 = 2 := by rw [t4]; decide
      obtain ⟨i1, i2⟩ := ih (x + 1) _ _ _ _ (by omega) (by omega) t1 t2 t3
      rw [if_neg hc, if_pos h73, q_gLp, q_gLp, if_neg n12, q_gLp, q_gLp, q_p1]
      exact ⟨i1, fun q => absurd q hc, fun _ => ⟨fun _ => ⟨t5, fun q => absurd q n12, fun _ => i2⟩, fun q => absurd h73 q⟩⟩
theorem p_runs {st : Nat → Int32} {pf : Nat → Nat → Int32} {P : Nat} (hP : P ≤ 2000) : ∀ n x (o : Nat → Int32) (b g : Nat → Nat → Int32) (f : Nat → Int32), 1 ≤ x → x ≤ P + 1 → P + 1 < x + n → RS o st b pf g f →
    (fl_X4_runUntilDone_2 (nI P) st pf n (nI x) o b g).1 = (fl_X7_doneBy_2 (nI P) n (nI x) f).1 ∧ okl_X4_runUntilDone_2 (nI P) st pf n (nI x) o b g ∧ okl_X7_doneBy_2 (nI P) n (nI x) f ∧ ((fl_X7_doneBy_2 (nI P) n (nI x) f).1 = -5 ∨ ∃ y : Nat, 1 ≤ y ∧ y ≤ 2000 ∧ (fl_X7_doneBy_2 (nI P) n (nI x) f).1 = nI y) := by
  intro n
  induction n with
  | zero => intro x o b g f h0 h1 h2; omega
  | succ n ih =>
    intro x o b g f h0 h1 h2 h
    by_cases e : x = P + 1
    · subst e
      have hc : nI P < nI (P + 1) := nI_lt (by omega) (by omega)
      rw [fl_X7_doneBy_2, okl_X7_doneBy_2, fl_X4_runUntilDone_2, okl_X4_runUntilDone_2, if_pos hc, if_pos hc]
      exact ⟨rfl, ⟨fun _ => trivial, fun q => absurd hc q⟩, ⟨fun _ => trivial, fun q => absurd hc q⟩, Or.inl rfl⟩
    · have hc : ¬ nI P < nI x := nI_nlt (by omega) (by omega)
      have e0 := h.2.2.2.1.1
      by_cases h3 : o 0 = 1
      · have h73 : f 73 = 1 := e0.symm.trans h3
        obtain ⟨p1, p2⟩ := p_out (o := o) h.2.1 h3
        rcases p2 with p2 | p2
        · have hp : f_X4_isPaused o st = 0 := p1.trans p2
          obtain ⟨t1, t2, t3⟩ := p_tick h
          have e2 : (f_X4_passOneTick o st b pf g).1 0 = f_X7_tick f 73 := t3.2.2.2.1.1
          rw [fl_X7_doneBy_2, okl_X7_doneBy_2, fl_X4_runUntilDone_2, okl_X4_runUntilDone_2, if_neg hc, if_neg hc, if_pos h3, if_pos h73]
          rw [q_gLp, q_gLp, q_gLp, q_gLp, q_gLp, q_gLp, if_pos hp, e2]
          by_cases hd : f_X7_tick f 73 = 2
          · rw [if_pos hd, if_pos hd]
            exact ⟨rfl, ⟨fun q => absurd q hc, fun _ => ⟨fun _ => ⟨fun _ => ⟨t1, fun _ => trivial, fun q => absurd (e2.trans hd) q⟩, fun q => absurd hp q⟩, fun q => absurd h3 q⟩⟩, ⟨fun q => absurd q hc, fun _ => ⟨fun _ => ⟨t2, fun _ => trivial, fun q => absurd hd q⟩, fun q => absurd h73 q⟩⟩, Or.inr ⟨x, h0, by omega, rfl⟩⟩
          · obtain ⟨i1, i2, i3, i4⟩ := ih (x + 1) _ _ _ _ (by omega) (by omega) (by omega) t3
            rw [if_neg hd, if_neg hd, q_gLp, q_gLp, q_gLp, q_gLp, q_p1]
            exact ⟨i1, ⟨fun q => absurd q hc, fun _ => ⟨fun _ => ⟨fun _ => ⟨t1, fun q => absurd (e2.symm.trans q) hd, fun _ => i2⟩, fun q => absurd hp q⟩, fun q => absurd h3 q⟩⟩, ⟨fun q => absurd q hc, fun _ => ⟨fun _ => ⟨t2, fun q => absurd q hd, fun _ => i3⟩, fun q => absurd h73 q⟩⟩, i4⟩
        · have n10 : ¬ (1 : Int32) = 0 := by decide
          have hp : ¬ f_X4_isPaused o st = 0 := by rw [p1, p2]; exact n10
          obtain ⟨i1, i2⟩ := p_stay hP (n + 1) x o b g f h1 h2 h h3 p2
          refine ⟨?_, ?_, i2, Or.inl i1⟩
          · rw [i1, fl_X4_runUntilDone_2, if_neg hc, if_pos h3, q_gLp, if_neg hp]
          · rw [okl_X4_runUntilDone_2, q_gLp]
            exact ⟨fun q => absurd q hc, fun _ => ⟨fun _ => ⟨fun q => absurd q hp, fun _ => trivial⟩, fun q => absurd h3 q⟩⟩
      · have h73 : ¬ f 73 = 1 := fun q => h3 (e0.trans q)
        rw [fl_X7_doneBy_2, okl_X7_doneBy_2, fl_X4_runUntilDone_2, okl_X4_runUntilDone_2, if_neg hc, if_neg hc, if_neg h3, if_neg h73]
        exact ⟨rfl, ⟨fun q => absurd q hc, fun _ => ⟨fun q => absurd q h3, fun _ => trivial⟩⟩, ⟨fun q => absurd q hc, fun _ => ⟨fun q => absurd q h73, fun _ => trivial⟩⟩, Or.inl rfl⟩
