/-! PURE: battery -/
theorem p_peL : ∀ n x (b : Nat → Nat → Int32), x ≤ 6 → 6 < x + n → ∃ b' : Nat → Nat → Int32, fl_X0_putEmpty_16 n (nI x) b = b' ∧ okl_X0_putEmpty_16 n (nI x) b ∧ b' 0 = b 0 ∧ ∀ w c, w < 7 → b' (1 + w) c = if x ≤ c ∧ c < 6 then 0 else b (1 + w) c := by
  intro n
  induction n with
  | zero => intro x b h1 h2; omega
  | succ n ih =>
    intro x b h1 h2
    rw [fl_X0_putEmpty_16, okl_X0_putEmpty_16]
    by_cases e : x = 6
    · subst e
      have hc : (6 : Int32) ≤ nI 6 := Int32.le_refl _
      rw [if_pos hc]
      exact ⟨b, rfl, ⟨fun _ => trivial, fun q => absurd hc q⟩, rfl, fun w c _ => by rw [if_neg (by omega)]⟩
    · have hc : ¬ (6 : Int32) ≤ nI x := nI_ge (b := 6) (by omega) (by omega)
      have hv : vp_in (nI x) 6 := vp_in_nI (by omega) (by omega)
      have cc : (nI x).toNatClampNeg = x := q_c (by omega)
      rw [if_neg hc, cc]
      obtain ⟨B, hB⟩ : ∃ B, B = (sF (sF (sF (sF (sF (sF (sF b 1 (upd (b 1) x 0)) 2 (upd (b 2) x 0)) 3 (upd (b 3) x 0)) 4 (upd (b 4) x 0)) 5 (upd (b 5) x 0)) 6 (upd (b 6) x 0)) 7 (upd (b 7) x 0)) := ⟨_, rfl⟩
      obtain ⟨b', i1, i2, i3, i4⟩ := ih (x + 1) B (by omega) (by omega)
      refine ⟨b', ?_, ⟨fun q => absurd q hc, fun _ => ?_⟩, ?_, ?_⟩
      · rw [q_gLp, q_gLp, q_gLp, q_gLp, q_gLp, q_gLp, q_gLp, q_gLp, ← hB, q_p1]; exact i1
      · refine ⟨hv, g_gLe (fun z9 e9 => ⟨hv, g_gLe (fun z11 e11 => ⟨hv, g_gLe (fun z13 e13 => ⟨hv, g_gLe (fun z15 e15 => ⟨hv, g_gLe (fun z17 e17 => ⟨hv, g_gLe (fun z19 e19 => ⟨hv, g_gLe (fun z21 e21 => ?_)⟩)⟩)⟩)⟩)⟩)⟩)⟩
        rw [q_gLp, e9, e11, e13, e15, e17, e19, e21, ← hB, q_p1]; exact i2
      · rw [i3, hB]; rfl
      · intro w c hw
        rw [i4 w c hw]
        have eB : B (1 + w) c = if c = x then 0 else b (1 + w) c := by
          rcases (show w = 0 ∨ w = 1 ∨ w = 2 ∨ w = 3 ∨ w = 4 ∨ w = 5 ∨ w = 6 by omega) with rfl | rfl | rfl | rfl | rfl | rfl | rfl <;> rw [hB] <;> rfl
        rw [eB]
        by_cases h3 : x + 1 ≤ c ∧ c < 6
        · rw [if_pos h3, if_pos (by omega)]
        · rw [if_neg h3]
          by_cases h4 : c = x
          · rw [if_pos h4, if_pos (by omega)]
          · rw [if_neg h4, if_neg (by omega)]
def zrA (w : Nat → Int32) (x : Nat) : Nat → Int32 := fun j => if x ≤ j ∧ j < 42 then 0 else w j
theorem zrA_step (w : Nat → Int32) (x : Nat) (hx : x < 42) : zrA (upd w x 0) (x + 1) = zrA w x := by
  funext j
  unfold zrA
  rw [q_up]
  by_cases h : j = x
  · subst h
    rw [if_neg (by omega), if_pos rfl, if_pos (by omega)]
  · by_cases h2 : x ≤ j ∧ j < 42
    · rw [if_pos (by omega), if_pos h2]
    · rw [if_neg (by omega), if_neg h, if_neg h2]
theorem p_btL (p1 : Int32) (R4 : (Nat → Int32) × (Nat → Int32)) (v6 : Int32) : ∀ n x (w : Nat → Int32), x ≤ 42 → 42 < x + n → fl_X7_battery_27 p1 R4 v6 n (nI x) w = (v6, R4.1, upd (upd (zrA w x) 71 p1) 73 0, R4.2) ∧ okl_X7_battery_27 n (nI x) w := by
  intro n
  induction n with
  | zero => intro x w h1 h2; omega
  | succ n ih =>
    intro x w h1 h2
    rw [fl_X7_battery_27, okl_X7_battery_27]
    by_cases e : x = 42
    · subst e
      have hc : (42 : Int32) ≤ nI 42 := Int32.le_refl _
      have es : zrA w 42 = w := by
        funext j
        unfold zrA
        rw [if_neg (by omega)]
      rw [if_pos hc, es, q_gLp, q_gLp]
      exact ⟨rfl, fun _ => trivial, fun q => absurd hc q⟩
    · have hc : ¬ (42 : Int32) ≤ nI x := nI_ge (b := 42) (by omega) (by omega)
      have hv : vp_in (nI x) 112 := q_in (by omega)
      obtain ⟨i1, i2⟩ := ih (x + 1) (upd w x 0) (by omega) (by omega)
      rw [zrA_step w x (by omega)] at i1
      rw [if_neg hc, q_c (by omega), q_gLp, q_gLp, q_gLp, q_gLp, q_p1]
      exact ⟨i1, fun q => absurd q hc, fun _ => ⟨hv, i2⟩⟩
theorem pu_battery (cx : (Nat → Int32)) (o : (Nat → Int32)) (st : (Nat → Int32)) (b : (Nat → Nat → Int32)) (pf : (Nat → Nat → Int32)) (g : (Nat → Nat → Int32)) (so : (Nat → Int32)) (sst : (Nat → Int32)) (sb : (Nat → Nat → Int32)) (sp : (Nat → Nat → Int32)) (sg : (Nat → Nat → Int32)) (hh : HVal) (t : (Nat → Nat → Int32)) (mo : (Nat → Int32)) (f : (Nat → Int32)) (fw : (Nat → Int32)) (fs : (Nat → Int32)) (tx : (Nat → Int32)) (a1 : Int32) (h : Rel cx o st b pf g so sst sb sp sg hh t mo f fw fs tx) : (ok_X6_battery o st b pf g hh a1) ∧ (ok_X7_battery mo f fw a1) ∧ (f_X6_battery o st b pf g hh a1).1 = (f_X7_battery mo f fw a1).1 ∧ Rel cx ((f_X6_battery o st b pf g hh a1).2.1) st ((f_X6_battery o st b pf g hh a1).2.2.1) pf g so sst sb sp sg ((f_X6_battery o st b pf g hh a1).2.2.2) t ((f_X7_battery mo f fw a1).2.1) ((f_X7_battery mo f fw a1).2.2.1) ((f_X7_battery mo f fw a1).2.2.2) fs tx := by
  obtain ⟨hS, k1, k2⟩ := Rel_now h
  obtain ⟨x0, x1, x2, x3, x4, x5, x6, x7, x8, x9⟩ := hS.2.2.2.1
  obtain ⟨N, d, h6, d1, d2, s0, h42, b0, h71, hR, hN, hG⟩ := RB_G hS.1 hS.2.1
  by_cases h1 : a1 < 1
  · have e := p_in1 (hi := 6) h1
    have v6 : f_X6_battery o st b pf g hh a1 = (-2, o, b, hh) := by unfold f_X6_battery; rw [if_pos h1]
    have v7 : f_X7_battery mo f fw a1 = (-2, mo, f, fw) := by unfold f_X7_battery; rw [q_gLp, if_pos e]
    refine ⟨?_, ?_, by rw [v6, v7]; exact ⟨rfl, h⟩⟩
    · unfold ok_X6_battery; exact ⟨fun _ => trivial, fun q => absurd h1 q⟩
    · unfold ok_X7_battery; exact ⟨fun _ => trivial, fun q => absurd e q⟩
  · by_cases h2 : a1 ≤ 6
    · have e := q_1no (p_in3 h1 h2)
      obtain ⟨A, hA, eA⟩ := q_rg (x := a1) (M := 6) (n := 6) (by decide) (Int32.le_trans (by decide) (Int32.not_lt.mp h1)) h2
      subst eA
      have hA1 : 1 ≤ A := by
        rcases Nat.eq_zero_or_pos A with q | q
        · subst q; exact absurd (show nI 0 < 1 by decide) h1
        · exact q
      obtain ⟨M, hM⟩ : ∃ M, A = M + 1 := ⟨A - 1, by omega⟩
      subst hM
      have eg : gmax 1 (gmin (nI (M + 1)) 6) = nI (M + 1) := by
        rw [show (6 : Int32) = nI 6 from rfl, gmin_nI _ _ (by omega) (by omega), Nat.min_eq_left hA, show (1 : Int32) = nI 1 from rfl, gmax_nI _ _ (by omega) (by omega), Nat.max_eq_right hA1]
      obtain ⟨b', i1, i2, i3, i4⟩ := p_peL 7 0 (sF b 0 (upd (b 0) 0 (nI (M + 1)))) (by omega) (by omega)
      have vp : f_X0_putEmpty b (nI (M + 1)) = b' := by unfold f_X0_putEmpty; rw [eg]; exact i1
      have vk : ok_X0_putEmpty b (nI (M + 1)) := by unfold ok_X0_putEmpty; rw [eg]; exact i2
      obtain ⟨t1, t2⟩ := p_btL (nI (M + 1)) (f_X7_records mo f fw) (f 71) 43 0 f (by omega) (by omega)
      have t1' : fl_X7_battery_27 (nI (M + 1)) (f_X7_records mo f fw) (f 71) 43 0 f = (f 71, (f_X7_records mo f fw).1, upd (upd (zrA f 0) 71 (nI (M + 1))) 73 0, (f_X7_records mo f fw).2) := t1
      have n01 : ¬ (0 : Int32) = 1 := by decide
      have hz : ∀ j, j < 42 → upd (upd (zrA f 0) 71 (nI (M + 1))) 73 0 j = 0 := fun j hj => by
        rw [q_up, if_neg (by omega), q_up, if_neg (by omega)]
        unfold zrA
        rw [if_pos (by omega)]
      have ho : ∀ j, 42 ≤ j → j ≠ 71 → j ≠ 73 → upd (upd (zrA f 0) 71 (nI (M + 1))) 73 0 j = f j := fun j hj h3 h4 => by
        rw [q_up, if_neg h4, q_up, if_neg h3]
        unfold zrA
        rw [if_neg (by omega)]
      have hnew : RS (upd o 0 0) st b' pf g (upd (upd (zrA f 0) 71 (nI (M + 1))) 73 0) := by
        refine ⟨?_, fun k hk => ⟨(hS.2.1 k hk).1.trans (ho _ (by omega) (by omega) (by omega)).symm, (hS.2.1 k hk).2⟩, ?_, ?_, RL_fr hS.2.2.2.2 (fun j hj => ho j (by omega) (by omega) (by omega))⟩
        · refine ⟨M, d, hA, d1, d2, s0, by rw [i3]; rfl, rfl, fun c w hc hw => ?_, fun c hc => ⟨0, 0, by omega, by omega, ?_, ?_⟩⟩
          · rw [i4 w c hw, if_pos (by omega), hz _ (by omega)]
          · have := i4 0 c (by omega)
            rw [if_pos (by omega)] at this
            exact this
          · have := i4 1 c (by omega)
            rw [if_pos (by omega)] at this
            exact this
        · obtain ⟨S, hS5, p0, f72, hst⟩ := hS.2.2.1
          exact ⟨S, hS5, p0, (ho 72 (by omega) (by omega) (by omega)).trans f72, fun k hk => ⟨fun w hw => ((hst k hk).1 w hw).trans (ho _ (by omega) (by omega) (by omega)).symm, (hst k hk).2⟩⟩
        · refine ⟨rfl, ?_, ?_, ?_, ?_, ?_, ?_, ?_, x8, fun q => absurd q n01⟩
          · exact x1.trans (ho 74 (by omega) (by omega) (by omega)).symm
          · exact x2.trans (ho 75 (by omega) (by omega) (by omega)).symm
          · exact x3.trans (ho 76 (by omega) (by omega) (by omega)).symm
          · exact x4.trans (ho 77 (by omega) (by omega) (by omega)).symm
          · exact x5.trans (ho 80 (by omega) (by omega) (by omega)).symm
          · exact x6.trans (ho 78 (by omega) (by omega) (by omega)).symm
          · exact x7.trans (ho 79 (by omega) (by omega) (by omega)).symm
      have v6 : f_X6_battery o st b pf g hh (nI (M + 1)) = (b 0 0, upd o 0 0, b', f_hadd o st b pf g hh) := by unfold f_X6_battery; rw [if_neg h1, if_pos h2, q_gLp, q_gLp, q_gLp, vp]
      have v7 : f_X7_battery mo f fw (nI (M + 1)) = (f 71, (f_X7_records mo f fw).1, upd (upd (zrA f 0) 71 (nI (M + 1))) 73 0, (f_X7_records mo f fw).2) := by unfold f_X7_battery; rw [q_gLp, if_neg e, q_gLp, q_gLp]; exact t1'
      have hr := Rel_rec h hnew
      refine ⟨?_, ?_, by rw [v6, v7]; exact ⟨b0.trans h71.symm, hr⟩⟩
      · unfold ok_X6_battery; exact ⟨fun q => absurd q h1, fun _ => ⟨fun _ => ⟨k1, vk, trivial⟩, fun q => absurd h2 q⟩⟩
      · unfold ok_X7_battery; exact ⟨fun q => absurd q e, fun _ => ⟨k2, t2⟩⟩
    · have e : f_X7_in a1 1 6 = 0 := p_in2 (Int32.not_le.mp h2)
      have v6 : f_X6_battery o st b pf g hh a1 = (-2, o, b, hh) := by unfold f_X6_battery; rw [if_neg h1, if_neg h2]
      have v7 : f_X7_battery mo f fw a1 = (-2, mo, f, fw) := by unfold f_X7_battery; rw [q_gLp, if_pos e]
      refine ⟨?_, ?_, by rw [v6, v7]; exact ⟨rfl, h⟩⟩
      · unfold ok_X6_battery; exact ⟨fun q => absurd q h1, fun _ => ⟨fun q => absurd q h2, fun _ => trivial⟩⟩
      · unfold ok_X7_battery; exact ⟨fun _ => trivial, fun q => absurd e q⟩
