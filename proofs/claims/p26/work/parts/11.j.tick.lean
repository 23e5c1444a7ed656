/-! PURE: a tick -/
theorem RB_fr {st f f' : Nat → Int32} {b : Nat → Nat → Int32} (h : RB st b f) (e : ∀ j, j < 73 → f' j = f j) : RB st b f' := by
  obtain ⟨N, d, h6, d1, d2, s0, b0, h71, hR, hB⟩ := h
  exact ⟨N, d, h6, d1, d2, s0, b0, (e 71 (by omega)).trans h71, fun c w hc hw => (hR c w hc hw).trans (e _ (by omega)).symm, hB⟩
theorem RT_fr {st f f' : Nat → Int32} (h : RT st f) (e : ∀ j, j < 73 → f' j = f j) : RT st f' := fun k hk => ⟨(h k hk).1.trans (e _ (by omega)).symm, (h k hk).2⟩
theorem RP_fr {pf : Nat → Nat → Int32} {f f' : Nat → Int32} (h : RP pf f) (e : ∀ j, j < 73 → f' j = f j) : RP pf f' := by
  obtain ⟨S, hS, p0, f72, hst⟩ := h
  exact ⟨S, hS, p0, (e 72 (by omega)).trans f72, fun k hk => ⟨fun w hw => ((hst k hk).1 w hw).trans (e _ (by omega)).symm, (hst k hk).2⟩⟩
theorem RL_fr {g : Nat → Nat → Int32} {f f' : Nat → Int32} (h : RL_ g f) (e : ∀ j, 81 ≤ j → f' j = f j) : RL_ g f' := by
  obtain ⟨E, X, hE, hX, g0, g1, f81, hj⟩ := h
  exact ⟨E, X, hE, hX, g0, g1, (e 81 (by omega)).trans f81, fun j w a b => (hj j w a b).trans (e _ (by omega)).symm⟩
theorem RO_fr {o f f' : Nat → Int32} {pf : Nat → Nat → Int32} (h : RO o pf f) (e : ∀ j, 73 ≤ j → j < 81 → f' j = f j) : RO o pf f' := by
  obtain ⟨a0, a1, a2, a3, a4, a5, a6, a7, a8, a9⟩ := h
  exact ⟨a0.trans (e 73 (by omega) (by omega)).symm, a1.trans (e 74 (by omega) (by omega)).symm, a2.trans (e 75 (by omega) (by omega)).symm, a3.trans (e 76 (by omega) (by omega)).symm, a4.trans (e 77 (by omega) (by omega)).symm, a5.trans (e 80 (by omega) (by omega)).symm, a6.trans (e 78 (by omega) (by omega)).symm, a7.trans (e 79 (by omega) (by omega)).symm, a8, a9⟩
theorem RS_sc {o o' st f z : Nat → Int32} {b pf g : Nat → Nat → Int32} (h : RS o st b pf g f) (hz : ∀ j, (j < 73 ∨ 81 ≤ j) → z j = f j) (ho : RO o' pf z) : RS o' st b pf g z :=
  ⟨RB_fr h.1 (fun j hj => hz j (Or.inl hj)), RT_fr h.2.1 (fun j hj => hz j (Or.inl hj)), RP_fr h.2.2.1 (fun j hj => hz j (Or.inl hj)), ho, RL_fr h.2.2.2.2 (fun j hj => hz j (Or.inr hj))⟩
theorem RS_lg {o st f : Nat → Int32} {b pf g : Nat → Nat → Int32} (k : Int32) {tk sg : Int32} (h : RS o st b pf g f) (h76 : f 76 = tk) (h74 : f 74 = sg) : RS o st b pf (f_X2_add g k tk sg) (f_X7_logs f k) ∧ ok_X2_add g k tk ∧ ok_X7_logs f k ∧ ∀ j, j < 81 → f_X7_logs f k j = f j := by
  obtain ⟨a, b1, c, d⟩ := p_log k tk sg h.2.2.2.2 h76 h74
  exact ⟨⟨RB_fr h.1 (fun j hj => d j (by omega)), RT_fr h.2.1 (fun j hj => d j (by omega)), RP_fr h.2.2.1 (fun j hj => d j (by omega)), RO_fr h.2.2.2.1 (fun j _ hj => d j hj), a⟩, b1, c, d⟩
theorem RS_bl {o st f : Nat → Int32} {b pf g : Nat → Nat → Int32} (h : RS o st b pf g f) : ∃ b' : Nat → Nat → Int32, (st 8 ≤ 0 → b' = b) ∧ (¬ st 8 ≤ 0 → f_X0_loseTo b (st 8) (st 7) (st 0) = b' ∧ ok_X0_loseTo b (st 8) (st 7) (st 0)) ∧ ok_X7_bleeds f ∧ RS o st b' pf g (f_X7_bleeds f) ∧ ∀ j, 42 ≤ j → f_X7_bleeds f j = f j := by
  obtain ⟨N, d, h6, d1, d2, s0, h42, b0, h71, hR, hB, hG⟩ := RB_G h.1 h.2.1
  obtain ⟨r, e, c, th, bl, -, -, -, ht, hl, -, -, -, s7, s8⟩ := q_set h.2.1
  obtain ⟨-, -, -, -, -, -, -, h49, h50⟩ := q_f h.2.1
  obtain ⟨b', i1, i2, i3, i4, i5, i6, i7⟩ := p_bleed h6 d1 d2 ht hl b0 h71 s0 s7 s8 h42 (h49.trans s7) (h50.trans s8) hR hB
  refine ⟨b', i1, i2, i3, ⟨?_, ?_, ?_, ?_, ?_⟩, i7⟩
  · exact ⟨N, d, h6, d1, d2, s0, by rw [i6]; exact b0, (i7 71 (by omega)).trans h71, i4, i5⟩
  · exact fun k hk => ⟨((h.2.1 k hk).1).trans (i7 _ (by omega)).symm, (h.2.1 k hk).2⟩
  · obtain ⟨S, hS, p0, f72, hst⟩ := h.2.2.1
    exact ⟨S, hS, p0, (i7 72 (by omega)).trans f72, fun k hk => ⟨fun w hw => ((hst k hk).1 w hw).trans (i7 _ (by omega)).symm, (hst k hk).2⟩⟩
  · exact RO_fr h.2.2.2.1 (fun j hj _ => i7 j (by omega))
  · exact RL_fr h.2.2.2.2 (fun j hj => i7 j (by omega))
theorem RS_tk {o st f : Nat → Int32} {b pf g : Nat → Nat → Int32} {q : Nat} (hq : q ≤ 2000) (h : RS o st b pf g f) : ∃ (b' : Nat → Nat → Int32) (f' : Nat → Int32), f_X0_takeIn b (nI q) (st 2) (st 0) = b' ∧ ok_X0_takeIn b (nI q) (st 2) (st 0) ∧ fl_X7_charges_17 (nI q) 7 0 f = chEnd (nI q) f' ∧ (okEnd (nI q) f' → okl_X7_charges_17 (nI q) 7 0 f) ∧ RS o st b' pf g f' ∧ ∀ j, 42 ≤ j → f' j = f j := by
  obtain ⟨N, d, h6, d1, d2, s0, h42, b0, h71, hR, hB, hG⟩ := RB_G h.1 h.2.1
  obtain ⟨r, e, c, th, bl, -, he, -, -, -, -, s2, -, -, -⟩ := q_set h.2.1
  obtain ⟨-, -, h44, -⟩ := q_f h.2.1
  obtain ⟨b', f', i1, i2, i3, i4, i5, i6, i8, i7⟩ := p_take (N := N) d2 hq he h6 (N + 1) 0 7 7 b f (by omega) (by omega) (by omega) b0 h71 hR (h44.trans s2) h42 hB
  refine ⟨b', f', ?_, ?_, i3, i4, ⟨?_, ?_, ?_, ?_, ?_⟩, i7⟩
  · rw [s2, s0]; exact i1
  · rw [s2, s0]; exact i2
  · exact ⟨N, d, h6, d1, d2, s0, by rw [i8]; exact b0, (i7 71 (by omega)).trans h71, i5, i6⟩
  · exact fun k hk => ⟨((h.2.1 k hk).1).trans (i7 _ (by omega)).symm, (h.2.1 k hk).2⟩
  · obtain ⟨S, hS, p0, f72, hst⟩ := h.2.2.1
    exact ⟨S, hS, p0, (i7 72 (by omega)).trans f72, fun k hk => ⟨fun w hw => ((hst k hk).1 w hw).trans (i7 _ (by omega)).symm, (hst k hk).2⟩⟩
  · exact RO_fr h.2.2.2.1 (fun j hj _ => i7 j (by omega))
  · exact RL_fr h.2.2.2.2 (fun j hj => i7 j (by omega))
/-- the end of a stage, both sides -/
theorem p_end {o st f : Nat → Int32} {b pf g : Nat → Nat → Int32} (h : RS o st b pf g f) (h1 : o 0 = 1) : ok_X4_endStage o pf g ∧ ok_X7_goesOn f ∧ RS (f_X4_endStage o pf g).1 st b pf (f_X4_endStage o pf g).2 (f_X7_goesOn f) := by
  obtain ⟨k, S, hk, hS, e1, h74, p0, h72, hst, hV⟩ := SK_of h.2.2.1 h.2.2.2.1 h1
  obtain ⟨a0, a1, a2, a3, a4, a5, a6, a7, a8, a9⟩ := h.2.2.2.1
  have n10 : ¬ (1 : Int32) = 0 := by decide
  have n21 : ¬ (2 : Int32) = 1 := by decide
  by_cases hl : k + 1 < S
  · have hh := p_has1 hS p0 hl
    have hc : ¬ nI S ≤ nI (k + 1) := nI_ge hl (by omega)
    have hz : RS (upd (upd o 1 (nI (k + 1))) 2 0) st b pf g (upd (upd f 74 (nI (k + 1))) 75 0) := by
      refine RS_sc h (fun j hj => ?_) ?_
      · rw [q_up, if_neg (by omega), q_up, if_neg (by omega)]
      · refine ⟨?_, ?_, ?_, ?_, ?_, ?_, ?_, ?_, a8, fun _ => ⟨nI_pos' (by omega), ?_⟩⟩
        · exact a0
        · rfl
        · rfl
        · exact a3
        · exact a4
        · exact a5
        · exact a6
        · exact a7
        · rw [p0]; exact nI_lt hl (by omega)
    obtain ⟨l1, l2, l3, l4⟩ := RS_lg 0 (tk := o 3) (sg := nI (k + 1)) hz a3.symm rfl
    unfold ok_X4_endStage ok_X7_goesOn f_X4_endStage f_X7_goesOn f_X4_begin ok_X4_begin
    rw [e1, h74, h72]
    simp only [q_gLp, q_p1, hh, if_neg n10, if_neg hc]
    exact ⟨⟨fun q => absurd q n10, fun _ => ⟨⟨l2, trivial⟩, trivial⟩⟩, ⟨fun q => absurd q hc, fun _ => ⟨l3, trivial⟩⟩, l1⟩
  · have hh := p_has0 (k := k + 1) (by omega) p0 (by omega)
    have hc : nI S ≤ nI (k + 1) := nI_le (by omega) (by omega)
    have hz : RS (upd (upd o 0 2) 6 (o 6 + 1)) st b pf g (upd (upd f 73 2) 78 (f 78 + 1)) := by
      refine RS_sc h (fun j hj => ?_) ?_
      · rw [q_up, if_neg (by omega), q_up, if_neg (by omega)]
      · refine ⟨rfl, a1, a2, a3, a4, a5, ?_, a7, a8, fun q => absurd q n21⟩
        show o 6 + 1 = f 78 + 1
        rw [a6]
    obtain ⟨l1, l2, l3, l4⟩ := RS_lg 1 (tk := o 3) (sg := nI k) hz a3.symm h74
    unfold ok_X4_endStage ok_X7_goesOn f_X4_endStage f_X7_goesOn
    rw [e1, h74, h72]
    have e78 : upd f 73 2 78 = f 78 := rfl
    simp only [q_gLp, q_p1, hh, if_true, if_pos hc, e78]
    exact ⟨⟨fun _ => ⟨l2, trivial⟩, fun q => absurd trivial q⟩, ⟨fun _ => ⟨l3, trivial⟩, fun q => absurd hc q⟩, l1⟩

theorem p_chEndU {q : Int32} {f z : Nat → Int32} (hz : z = upd f 75 (f 75 + 1)) : chEnd q f = (if f_X7_endsBehind z q = 0 then (if f_X7_ofStage z (z 74) 3 ≤ 0 then z else if z 75 < f_X7_ofStage z (z 74) 3 then z else f_X7_logs (upd (upd z 73 3) 79 (z 79 + 1)) 2) else f_X7_goesOn z) ∧
    (ok_X7_endsBehind z q → ok_X7_ofStage (z 74) 3 → (f_X7_endsBehind z q = 0 → ok_X7_logs (upd (upd z 73 3) 79 (z 79 + 1)) 2) → (¬ f_X7_endsBehind z q = 0 → ok_X7_goesOn z) → okEnd q f) := by
  subst hz
  have hc : f 71 ≤ f 71 := Int32.le_refl _
  unfold chEnd okEnd
  rw [fl_X7_charges_17, okl_X7_charges_17, if_pos hc]
  refine ⟨rfl, fun a b c d => ⟨fun _ => g_gLe (fun z ez => ?_), fun q => absurd hc q⟩⟩
  subst ez
  exact ⟨a, g_gLe (fun R1 e1 => ⟨b, g_gLe (fun R2 e2 => ⟨fun q => ⟨fun _ => trivial, fun _ => ⟨fun _ => trivial, fun _ => ⟨c (e1.symm.trans q), trivial⟩⟩⟩, fun q => ⟨d (fun q2 => q (e1.trans q2)), trivial⟩⟩)⟩)⟩
