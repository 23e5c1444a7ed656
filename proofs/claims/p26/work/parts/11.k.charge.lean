/-! PURE: charging -/
theorem p_chargeB {o st f : Nat → Int32} {b pf g : Nat → Nat → Int32} {q : Nat} (hq : q ≤ 2000) (h : RS o st b pf g f) (h1 : o 0 = 1) :
    ∃ (b' : Nat → Nat → Int32) (o' : Nat → Int32), f_X0_takeIn b (nI q) (st 2) (st 0) = b' ∧ ok_X0_takeIn b (nI q) (st 2) (st 0) ∧ o' = upd o 2 (o 2 + 1) ∧ o' 0 = 1 ∧ ok_X4_endsBehind o' st b' pf (nI q) ∧ okl_X7_charges_17 (nI q) 7 0 f ∧
      ((f_X4_endsBehind o' st b' pf (nI q) = 0 ∧ ok_X4_hasRunOut o' pf ∧ f_X4_hasRunOut o' pf = 0 ∧ RS o' st b' pf g (fl_X7_charges_17 (nI q) 7 0 f)) ∨
       (f_X4_endsBehind o' st b' pf (nI q) = 0 ∧ ok_X4_hasRunOut o' pf ∧ ¬ f_X4_hasRunOut o' pf = 0 ∧ ok_X2_add g 2 (o 3) ∧ RS (upd (upd o' 0 3) 7 (o 7 + 1)) st b' pf (f_X2_add g 2 (o 3) (o 1)) (fl_X7_charges_17 (nI q) 7 0 f)) ∨
       (¬ f_X4_endsBehind o' st b' pf (nI q) = 0 ∧ ok_X4_endStage o' pf g ∧ RS (f_X4_endStage o' pf g).1 st b' pf (f_X4_endStage o' pf g).2 (fl_X7_charges_17 (nI q) 7 0 f))) := by
  obtain ⟨b', f', i1, i2, i3, i4, i5, i6⟩ := RS_tk hq h
  obtain ⟨z, hz⟩ : ∃ z, z = upd f' 75 (f' 75 + 1) := ⟨_, rfl⟩
  obtain ⟨o', ho⟩ : ∃ o', o' = upd o 2 (o 2 + 1) := ⟨_, rfl⟩
  obtain ⟨a0, a1, a2, a3, a4, a5, a6, a7, a8, a9⟩ := i5.2.2.2.1
  have e2 : o' 2 = z 75 := by rw [ho, hz]; show o 2 + 1 = f' 75 + 1; rw [a2]
  have hz' : RS o' st b' pf g z := by
    refine RS_sc i5 (fun j hj => by rw [hz, q_up, if_neg (by omega)]) ?_
    subst ho hz
    exact ⟨a0, a1, e2, a3, a4, a5, a6, a7, a8, a9⟩
  have h1' : o' 0 = 1 := by rw [ho]; exact h1
  obtain ⟨k, S, hK⟩ := SK_of hz'.2.2.1 hz'.2.2.2.1 h1'
  obtain ⟨b1, b2, b3⟩ := p_eb (nI q) hK hz'.2.1 hz'.1 e2
  obtain ⟨c1, c2, c3⟩ := p_ro hK e2
  obtain ⟨d1, d2⟩ := p_chEndU (q := nI q) hz
  obtain ⟨g1, g2, g3⟩ := p_end hz' h1'
  have hf : RS (upd (upd o' 0 3) 7 (o 7 + 1)) st b' pf (f_X2_add g 2 (o 3) (o 1)) (f_X7_logs (upd (upd z 73 3) 79 (z 79 + 1)) 2) ∧ ok_X2_add g 2 (o 3) ∧ ok_X7_logs (upd (upd z 73 3) 79 (z 79 + 1)) 2 := by
    have n31 : ¬ (3 : Int32) = 1 := by decide
    have hw : RS (upd (upd o' 0 3) 7 (o 7 + 1)) st b' pf g (upd (upd z 73 3) 79 (z 79 + 1)) := by
      refine RS_sc hz' (fun j hj => by rw [q_up, if_neg (by omega), q_up, if_neg (by omega)]) ?_
      refine ⟨rfl, ?_, ?_, ?_, ?_, ?_, ?_, ?_, ?_, fun q => absurd q n31⟩
      · exact hz'.2.2.2.1.2.1
      · exact e2
      · exact hz'.2.2.2.1.2.2.2.1
      · exact hz'.2.2.2.1.2.2.2.2.1
      · exact hz'.2.2.2.1.2.2.2.2.2.1
      · exact hz'.2.2.2.1.2.2.2.2.2.2.1
      · show o 7 + 1 = z 79 + 1
        rw [a7, hz]; rfl
      · exact hz'.2.2.2.1.2.2.2.2.2.2.2.2.1
    obtain ⟨l1, l2, l3, l4⟩ := RS_lg 2 (tk := o 3) (sg := o 1) hw (by rw [hz]; exact a3.symm) (by rw [hz]; exact a1.symm)
    exact ⟨l1, l2, l3⟩
  have ok : okl_X7_charges_17 (nI q) 7 0 f := i4 (d2 b3 c3 (fun _ => hf.2.2) (fun _ => g2))
  refine ⟨b', o', i1, i2, ho, h1', b2, ok, ?_⟩
  rw [i3, d1, ← b1]
  by_cases x : f_X4_endsBehind o' st b' pf (nI q) = 0
  · rw [if_pos x, c1]
    by_cases y : f_X7_ofStage z (z 74) 3 ≤ 0
    · rw [if_pos y, if_pos y]
      exact Or.inl ⟨x, c2, rfl, hz'⟩
    · rw [if_neg y, if_neg y]
      by_cases w : z 75 < f_X7_ofStage z (z 74) 3
      · rw [if_pos w, if_pos w]
        exact Or.inl ⟨x, c2, rfl, hz'⟩
      · rw [if_neg w, if_neg w]
        have n10 : ¬ (1 : Int32) = 0 := by decide
        exact Or.inr (Or.inl ⟨x, c2, n10, hf.2.1, hf.1⟩)
  · rw [if_neg x]
    exact Or.inr (Or.inr ⟨x, g1, g3⟩)
theorem p_chA {f : Nat → Int32} (e2 : f_X7_endsAtOnce f (f_X7_told f) = 1) : f_X7_charges f = f_X7_goesOn f := by
  have n10 : ¬ (1 : Int32) = 0 := by decide
  obtain ⟨R, hR⟩ : ∃ R, R = f_X7_charges f := ⟨_, rfl⟩
  rw [← hR]
  unfold f_X7_charges at hR
  obtain ⟨R1, z1, hR⟩ := g_let hR
  obtain ⟨R3, z3, hR⟩ := g_let hR
  have e3 : R3 = 1 := by rw [z3, z1]; exact e2
  subst e3
  rw [if_neg n10] at hR
  obtain ⟨R6, z6, hR⟩ := g_let hR
  rw [if_neg n10] at hR
  obtain ⟨R7, z7, hR⟩ := g_let hR
  rw [hR, z7]
theorem p_chB {f : Nat → Int32} (e2 : f_X7_endsAtOnce f (f_X7_told f) = 0) : f_X7_charges f = fl_X7_charges_17 (f_X7_told f) 7 0 f := by
  obtain ⟨R, hR⟩ : ∃ R, R = f_X7_charges f := ⟨_, rfl⟩
  rw [← hR]
  unfold f_X7_charges at hR
  obtain ⟨R1, z1, hR⟩ := g_let hR
  obtain ⟨R3, z3, hR⟩ := g_let hR
  have e3 : R3 = 0 := by rw [z3, z1]; exact e2
  subst e3
  rw [if_pos rfl] at hR
  rw [hR, z1]
def RT3 (v : (Nat → Int32) × (Nat → Nat → Int32) × (Nat → Nat → Int32)) (st : Nat → Int32) (pf : Nat → Nat → Int32) (f : Nat → Int32) : Prop := RS v.1 st v.2.1 pf v.2.2 f
theorem p_charge {o st f : Nat → Int32} {b pf g : Nat → Nat → Int32} (h : RS o st b pf g f) (h1 : o 0 = 1) : ok_X4_charge o st b pf g ∧ ok_X7_charges f ∧ RT3 (f_X4_charge o st b pf g) st pf (f_X7_charges f) := by
  obtain ⟨k, S, hK⟩ := SK_of h.2.2.1 h.2.2.2.1 h1
  obtain ⟨c1, c2, c3, c4⟩ := p_cur hK h.2.1 h.1
  obtain ⟨-, -, t3⟩ := p_ro hK h.2.2.2.1.2.2.1
  have n10 : ¬ (1 : Int32) = 0 := by decide
  rcases c4 with ⟨e1, e2⟩ | ⟨q, hq, e1, e2, e3⟩
  · obtain ⟨g1, g2, g3⟩ := p_end h h1
    have er := p_chA e2
    unfold f_X7_charges at er
    unfold ok_X4_charge ok_X7_charges f_X4_charge f_X7_charges
    rw [e1]
    refine ⟨⟨c1, fun _ => ⟨g1, trivial⟩, fun q => absurd rfl q⟩, ⟨c2, c3, ?_⟩, ?_⟩
    · refine g_gLe (fun R3 e3 => ⟨fun q => ?_, fun q => ⟨t3, fun q2 => absurd q2 q, fun _ => ⟨g2, trivial⟩⟩⟩)
      rw [e2] at e3
      exact absurd (e3.symm.trans q) n10
    · rw [q_gLp, if_pos rfl, q_gLp, er]
      exact g3
  · have nq : ¬ nI q = -1 := by
      intro hh
      have := congrArg Int32.toInt hh
      rw [nI_toInt (by omega)] at this
      have e9 : (-1 : Int32).toInt = -1 := by decide
      omega
    obtain ⟨b', o', i1, i2, ho, h0, i3, i4, i5⟩ := p_chargeB hq h h1
    have er2 := p_chB e3
    rw [e2] at er2
    unfold f_X7_charges at er2
    unfold ok_X4_charge ok_X7_charges f_X4_charge f_X7_charges
    rw [e1]
    refine ⟨⟨c1, fun q => absurd q nq, fun _ => ⟨i2, ?_⟩⟩, ⟨c2, c3, ?_⟩, ?_⟩
    · refine g_gLe (fun R4 z4 => ?_)
      rw [← ho]
      have e4 : R4 = b' := z4.trans i1
      subst e4
      refine ⟨i3, g_gLe (fun R6 z6 => ?_)⟩
      rcases i5 with ⟨x, y, w, -⟩ | ⟨x, y, w, u, -⟩ | ⟨x, y, -⟩
      · refine ⟨fun _ => ⟨y, g_gLe (fun R9 z9 => ⟨fun _ => trivial, fun q => absurd (z9.trans w) q⟩)⟩, fun q => absurd (z6.trans x) q⟩
      · refine ⟨fun _ => ⟨y, g_gLe (fun R9 z9 => ⟨fun _ => trivial, fun q => ⟨u, trivial⟩⟩)⟩, fun q => absurd (z6.trans x) q⟩
      · exact ⟨fun q => absurd (z6.symm.trans q) x, fun _ => ⟨y, trivial⟩⟩
    · refine g_gLe (fun R3 z3 => ⟨fun _ => by rw [e2]; exact i4, fun q => absurd (z3.trans e3) q⟩)
    · rw [er2, q_gLp, if_neg nq, q_gLp, i1, ← ho, q_gLp]
      rcases i5 with ⟨x, y, w, r⟩ | ⟨x, y, w, u, r⟩ | ⟨x, y, r⟩
      · rw [if_pos x, q_gLp, if_pos w]; exact r
      · have e7 : o' 7 = o 7 := by rw [ho]; rfl
        have e3 : o' 3 = o 3 := by rw [ho]; rfl
        have e5 : o' 1 = o 1 := by rw [ho]; rfl
        rw [if_pos x, q_gLp, if_neg w, q_gLp]; exact r
      · rw [if_neg x, q_gLp]; exact r
