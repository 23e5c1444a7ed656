/-! PURE: currents -/
theorem RB_G {st f : Nat → Int32} {b : Nat → Nat → Int32} (h : RB st b f) (hT : RT st f) : ∃ N d : Nat, N + 1 ≤ 6 ∧ 100 ≤ d ∧ d ≤ 5000 ∧ st 0 = nI d ∧ f 42 = nI d ∧ b 0 0 = nI (N + 1) ∧ f 71 = nI (N + 1) ∧ RC b f ∧ RN_ b N d ∧ RG f N d := by
  obtain ⟨N, d, h6, d1, d2, s0, b0, h71, hR, hB⟩ := h
  have h42 : f 42 = nI d := (q_f hT).1.trans s0
  exact ⟨N, d, h6, d1, d2, s0, h42, b0, h71, hR, hB, RG_of h6 d1 d2 h71 h42 hR hB⟩
/-- greatest voltages, both sides -/
theorem p_high {st f : Nat → Int32} {b : Nat → Nat → Int32} (h : RB st b f) (hT : RT st f) (p1 : Int32) : f_X4_greatestVoltage st b p1 = f_X7_highest f + f_X7_more f p1 ∧ ok_X4_greatestVoltage st b ∧ ok_X7_highest f ∧ ∃ m : Nat, 3000 ≤ m ∧ m ≤ 70000 ∧ f_X7_highest f = nI m := by
  obtain ⟨N, d, h6, d1, d2, s0, h42, b0, h71, hR, hB, hG⟩ := RB_G h hT
  obtain ⟨g1, g2⟩ := p_gvolt (st := st) p1 b0 h6 s0 d1 d2
  obtain ⟨i1, i2⟩ := p_highest hG
  have e : mx (b 1) N = mx (ch f) N := mx_congr N (fun c hc => by unfold ch; exact hR c 0 (by omega) (by omega))
  obtain ⟨a, ha, ea⟩ := mx_nI (M := d) (by omega) N hG.2.2.2.2.2
  have l := bs_lt (d := d) (show a ≤ 5000 by omega) d1
  refine ⟨?_, g2, i2, 3000 + 1200 * a / d, Nat.le_add_right _ _, by omega, ?_⟩
  · rw [g1, i1, e, (q_f hT).1]
    unfold f_X7_more
    rw [(q_f hT).2.1]
  · rw [i1, ea, h42, bs_nI (by omega) d1 d2]
theorem p_held {st f : Nat → Int32} {b pf : Nat → Nat → Int32} {S k : Nat} (hk : k < S) (h : (∀ w, w < 4 → pf (1 + w) k = f (51 + 4 * k + w))) (hS : S ≤ 5) (hT : RT st f) (hB : RB st b f) (hV : RV (pf 1 k) (pf 2 k) (pf 3 k) (pf 4 k)) (e1 : pf 1 k = 1) (h74 : f 74 = nI k) :
    f_X4_heldCurrent st (f_X4_limitOfNow st pf (nI k) - f_X4_greatestVoltage st b 0) = f_X7_held f ∧ ok_X4_heldCurrent st (f_X4_limitOfNow st pf (nI k) - f_X4_greatestVoltage st b 0) ∧ ok_X7_held f ∧ ∃ q : Nat, q ≤ 2000 ∧ f_X7_held f = nI q := by
  obtain ⟨l1, l2, l3, l4⟩ := p_limit hk h hS hT (Or.inr e1)
  obtain ⟨g1, g2, g3, m, m1, m2, em⟩ := p_high hB hT 0
  obtain ⟨r, e, c, th, bl, hr, -, -, -, -, er, -⟩ := q_set hT
  obtain ⟨-, h43, -⟩ := q_f hT
  obtain ⟨c1, c2⟩ := q_comp hT
  have hmore : f_X7_more f 0 = 0 := by unfold f_X7_more; exact q_0m _
  have eg : f_X4_greatestVoltage st b 0 = f_X7_highest f := by rw [g1, hmore, Int32.add_zero]
  have n10 : ¬ (1 : Int32) = 0 := by decide
  have n12 : ¬ (1 : Int32) = 2 := by decide
  have ht : 3000 ≤ (pf 2 k).toInt ∧ (pf 2 k).toInt ≤ 4500 := by
    rcases hV.1 with ⟨q, -⟩ | ⟨-, a, b, -⟩ | ⟨q, -⟩
    · rw [e1] at q; exact absurd q n10
    · exact ⟨Int32.le_iff_toInt_le.mp a, Int32.le_iff_toInt_le.mp b⟩
    · rw [e1] at q; exact absurd q n12
  have el : f_X7_limit f (nI k) = pf 2 k - st 4 * (st 3 - 25) := by rw [l2, e1, if_neg n10]
  have tl : (f_X7_limit f (nI k)).toInt = (pf 2 k).toInt - (st 4 * (st 3 - 25)).toInt := by rw [el]; exact q_tsub (by omega) (by omega)
  have th' : (f_X7_highest f).toInt = (m : Int) := by rw [em]; exact nI_toInt (by omega)
  have tv : (f_X7_limit f (nI k) - f_X7_highest f).toInt = (pf 2 k).toInt - (st 4 * (st 3 - 25)).toInt - (m : Int) := by rw [q_tsub (by omega) (by omega), tl, th']
  obtain ⟨v, ev⟩ : ∃ v, v = f_X7_limit f (nI k) - f_X7_highest f := ⟨_, rfl⟩
  rw [← ev] at tv
  have hv5 : v ≤ 5000 := Int32.le_iff_toInt_le.mpr (by rw [tv]; have : (5000 : Int32).toInt = 5000 := by decide
                                                       omega)
  have hold : ok_X7_held f := by
    unfold ok_X7_held
    rw [h74]
    refine ⟨l4, g_gLe (fun R1 _ => ⟨g3, g_gLe (fun R3 _ => g_gLe (fun v5 _ => ⟨fun _ => ⟨fun _ => trivial, fun q => ⟨q, trivial⟩⟩, fun _ => trivial⟩))⟩)⟩
  have eh : f_X7_held f = (if 0 ≤ v then (if st 1 = 0 then 2000 else (if (1000 * v + 999) / st 1 ≤ 2000 then (1000 * v + 999) / st 1 else 2000)) else 0) := by
    unfold f_X7_held
    rw [h74, q_gL, q_gL, q_gL, ← ev, h43]
    rfl
  have ec : f_X4_heldCurrent st v = f_X7_held f := by
    rw [eh]
    unfold f_X4_heldCurrent
    rw [q_gL]
    by_cases h0 : 0 ≤ v
    · rw [if_pos h0, if_pos h0]
      by_cases hr0 : r = 0
      · subst hr0
        have a1 : ¬ 0 < st 1 := by rw [er]; decide
        have a2 : st 1 = 0 := er
        rw [if_neg a1, if_pos a2]
      · have a1 : 0 < st 1 := by rw [er]; exact nI_lt (a := 0) (by omega) (by omega)
        have a2 : ¬ st 1 = 0 := by rw [er]; exact nI_ne0 (by omega) (by omega)
        rw [if_pos a1, if_neg a2, q_gmin2000, q_ring]
    · rw [if_neg h0, if_neg h0]
  rw [l1, eg, ← ev]
  refine ⟨ec, ?_, hold, ?_⟩
  · unfold ok_X4_heldCurrent
    refine g_gLe (fun v1 _ => ⟨fun _ => ⟨fun q => ⟨fun q2 => ?_, trivial⟩, fun _ => trivial⟩, fun _ => trivial⟩)
    rw [q2] at q
    exact absurd q (by decide)
  · rw [eh]
    by_cases h0 : 0 ≤ v
    · rw [if_pos h0]
      by_cases hr0 : r = 0
      · subst hr0
        have a2 : st 1 = 0 := er
        rw [if_pos a2]
        exact ⟨2000, by omega, rfl⟩
      · have a2 : ¬ st 1 = 0 := by rw [er]; exact nI_ne0 (by omega) (by omega)
        rw [if_neg a2]
        obtain ⟨j, j1, j2⟩ := q_rg (n := 5000) (by decide) h0 hv5
        have e9 : (1000 * v + 999) / st 1 = nI ((1000 * j + 999) / r) := by
          rw [j2, er, show (1000 : Int32) * nI j = nI (1000 * j) from pk_mul 1000 j, show nI (1000 * j) + 999 = nI (1000 * j + 999) from nI_add (1000 * j) 999, pk_div (by omega) (by omega) (by omega)]
        have l9 : (1000 * j + 999) / r ≤ 1000 * j + 999 := Nat.div_le_self _ _
        rw [e9]
        by_cases h9 : (1000 * j + 999) / r ≤ 2000
        · exact ⟨_, h9, if_pos (nI_le (b := 2000) h9 (by omega))⟩
        · exact ⟨2000, by omega, if_neg (nI_ge (a := 2000) (by omega) (by omega))⟩
    · rw [if_neg h0]
      exact ⟨0, by omega, rfl⟩
