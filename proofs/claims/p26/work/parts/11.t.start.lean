/-! PURE: start, stop, undo, keep, restore, texts, battery -/
theorem pu_start (cx : (Nat → Int32)) (o : (Nat → Int32)) (st : (Nat → Int32)) (b : (Nat → Nat → Int32)) (pf : (Nat → Nat → Int32)) (g : (Nat → Nat → Int32)) (so : (Nat → Int32)) (sst : (Nat → Int32)) (sb : (Nat → Nat → Int32)) (sp : (Nat → Nat → Int32)) (sg : (Nat → Nat → Int32)) (hh : HVal) (t : (Nat → Nat → Int32)) (mo : (Nat → Int32)) (f : (Nat → Int32)) (fw : (Nat → Int32)) (fs : (Nat → Int32)) (tx : (Nat → Int32)) (h : Rel cx o st b pf g so sst sb sp sg hh t mo f fw fs tx) : (ok_X6_start o st b pf g hh) ∧ (ok_X7_start mo f fw) ∧ (f_X6_start o st b pf g hh).1 = (f_X7_start mo f fw).1 ∧ Rel cx ((f_X6_start o st b pf g hh).2.1) st b pf ((f_X6_start o st b pf g hh).2.2.1) so sst sb sp sg ((f_X6_start o st b pf g hh).2.2.2) t ((f_X7_start mo f fw).2.1) ((f_X7_start mo f fw).2.2.1) ((f_X7_start mo f fw).2.2.2) fs tx := by
  obtain ⟨hS, k1, k2⟩ := Rel_now h
  obtain ⟨a0, a1, a2, a3, a4, a5, a6, a7, a8, a9⟩ := hS.2.2.2.1
  obtain ⟨S, hS5, p0, f72, hst⟩ := hS.2.2.1
  have ep : pf 0 0 = f 72 := p0.trans f72.symm
  by_cases h1 : o 0 = 1
  · have h1' : f 73 = 1 := a0.symm.trans h1
    have v6 : f_X6_start o st b pf g hh = (-4, o, g, hh) := by unfold f_X6_start; rw [if_pos h1]
    have v7 : f_X7_start mo f fw = (-4, mo, f, fw) := by unfold f_X7_start; rw [if_pos h1']
    refine ⟨?_, ?_, by rw [v6, v7]; exact ⟨rfl, h⟩⟩
    · unfold ok_X6_start; exact ⟨fun _ => trivial, fun q => absurd h1 q⟩
    · unfold ok_X7_start; exact ⟨fun _ => trivial, fun q => absurd h1' q⟩
  · have h1' : ¬ f 73 = 1 := fun q => h1 (a0.trans q)
    by_cases h2 : pf 0 0 = 0
    · have h2' : f 72 = 0 := ep.symm.trans h2
      have v6 : f_X6_start o st b pf g hh = (-4, o, g, hh) := by unfold f_X6_start; rw [if_neg h1, if_pos h2]
      have v7 : f_X7_start mo f fw = (-4, mo, f, fw) := by unfold f_X7_start; rw [if_neg h1', if_pos h2']
      refine ⟨?_, ?_, by rw [v6, v7]; exact ⟨rfl, h⟩⟩
      · unfold ok_X6_start; exact ⟨fun q => absurd q h1, fun _ => ⟨fun _ => trivial, fun q => absurd h2 q⟩⟩
      · unfold ok_X7_start; exact ⟨fun q => absurd q h1', fun _ => ⟨fun _ => trivial, fun q => absurd h2' q⟩⟩
    · have h2' : ¬ f 72 = 0 := fun q => h2 (ep.trans q)
      have hS0 : 0 < S := by
        rcases Nat.eq_zero_or_pos S with q | q
        · subst q; exact absurd p0 h2
        · exact q
      have hz : RS (upd (upd (upd (upd o 0 1) 5 0) 1 0) 2 0) st b pf g (upd (upd (upd (upd f 73 1) 74 0) 75 0) 80 0) := by
        refine RS_sc hS (fun j hj => ?_) ?_
        · rw [q_up, if_neg (by omega), q_up, if_neg (by omega), q_up, if_neg (by omega), q_up, if_neg (by omega)]
        · refine ⟨rfl, rfl, rfl, a3, a4, rfl, a6, a7, Or.inl rfl, fun _ => ⟨Int32.le_refl _, ?_⟩⟩
          rw [p0]; exact nI_lt (a := 0) hS0 (by omega)
      obtain ⟨l1, l2, l3, l4⟩ := RS_lg 0 (tk := o 3) (sg := 0) hz a3.symm rfl
      have vb : f_X4_beginCharging o g = (upd (upd (upd (upd o 0 1) 5 0) 1 0) 2 0, f_X2_add g 0 (o 3) 0) := by unfold f_X4_beginCharging f_X4_begin; rw [q_gLp, q_gLp]; rfl
      have vk : ok_X4_beginCharging o g := by unfold ok_X4_beginCharging ok_X4_begin; exact ⟨⟨l2, trivial⟩, trivial⟩
      have v6 : f_X6_start o st b pf g hh = (o 0, upd (upd (upd (upd o 0 1) 5 0) 1 0) 2 0, f_X2_add g 0 (o 3) 0, f_hadd o st b pf g hh) := by unfold f_X6_start; rw [if_neg h1, if_neg h2, q_gLp, q_gLp, q_gLp, vb]
      have v7 : f_X7_start mo f fw = (f 73, (f_X7_records mo f fw).1, f_X7_logs (upd (upd (upd (upd f 73 1) 74 0) 75 0) 80 0) 0, (f_X7_records mo f fw).2) := by unfold f_X7_start; rw [if_neg h1', if_neg h2', q_gLp, q_gLp, q_gLp, q_gLp, q_gLp, q_gLp, q_gLp]
      refine ⟨?_, ?_, by rw [v6, v7]; exact ⟨a0, Rel_rec h l1⟩⟩
      · unfold ok_X6_start; exact ⟨fun q => absurd q h1, fun _ => ⟨fun q => absurd q h2, fun _ => ⟨k1, vk, trivial⟩⟩⟩
      · unfold ok_X7_start; exact ⟨fun q => absurd q h1', fun _ => ⟨fun q => absurd q h2', fun _ => ⟨k2, l3, trivial⟩⟩⟩
theorem pu_stop (cx : (Nat → Int32)) (o : (Nat → Int32)) (st : (Nat → Int32)) (b : (Nat → Nat → Int32)) (pf : (Nat → Nat → Int32)) (g : (Nat → Nat → Int32)) (so : (Nat → Int32)) (sst : (Nat → Int32)) (sb : (Nat → Nat → Int32)) (sp : (Nat → Nat → Int32)) (sg : (Nat → Nat → Int32)) (hh : HVal) (t : (Nat → Nat → Int32)) (mo : (Nat → Int32)) (f : (Nat → Int32)) (fw : (Nat → Int32)) (fs : (Nat → Int32)) (tx : (Nat → Int32)) (h : Rel cx o st b pf g so sst sb sp sg hh t mo f fw fs tx) : (ok_X6_stop o hh) ∧ (ok_X7_stop mo f fw) ∧ (f_X6_stop o st b pf g hh).1 = (f_X7_stop mo f fw).1 ∧ Rel cx ((f_X6_stop o st b pf g hh).2.1) st b pf g so sst sb sp sg ((f_X6_stop o st b pf g hh).2.2) t ((f_X7_stop mo f fw).2.1) ((f_X7_stop mo f fw).2.2.1) ((f_X7_stop mo f fw).2.2.2) fs tx := by
  obtain ⟨hS, k1, k2⟩ := Rel_now h
  obtain ⟨a0, a1, a2, a3, a4, a5, a6, a7, a8, a9⟩ := hS.2.2.2.1
  by_cases h1 : o 0 = 0
  · have h1' : f 73 = 0 := a0.symm.trans h1
    have v6 : f_X6_stop o st b pf g hh = (-5, o, hh) := by unfold f_X6_stop; rw [q_gLp, if_pos h1]
    have v7 : f_X7_stop mo f fw = (-5, mo, f, fw) := by unfold f_X7_stop; rw [q_gLp, if_pos h1']
    refine ⟨?_, ?_, by rw [v6, v7]; exact ⟨rfl, h⟩⟩
    · unfold ok_X6_stop; exact ⟨fun _ => trivial, fun q => absurd h1 q⟩
    · unfold ok_X7_stop; exact ⟨fun _ => trivial, fun q => absurd h1' q⟩
  · have h1' : ¬ f 73 = 0 := fun q => h1 (a0.trans q)
    have n01 : ¬ (0 : Int32) = 1 := by decide
    have hz : RS (upd o 0 0) st b pf g (upd f 73 0) := RS_sc hS (fun j hj => by rw [q_up, if_neg (by omega)]) ⟨rfl, a1, a2, a3, a4, a5, a6, a7, a8, fun q => absurd q n01⟩
    have v6 : f_X6_stop o st b pf g hh = (o 0, upd o 0 0, f_hadd o st b pf g hh) := by unfold f_X6_stop; rw [q_gLp, if_neg h1, q_gLp]
    have v7 : f_X7_stop mo f fw = (f 73, (f_X7_records mo f fw).1, upd f 73 0, (f_X7_records mo f fw).2) := by unfold f_X7_stop; rw [q_gLp, if_neg h1', q_gLp, q_gLp]
    refine ⟨?_, ?_, by rw [v6, v7]; exact ⟨a0, Rel_rec h hz⟩⟩
    · unfold ok_X6_stop; exact ⟨fun q => absurd q h1, fun _ => ⟨k1, trivial⟩⟩
    · unfold ok_X7_stop; exact ⟨fun q => absurd q h1', fun _ => ⟨k2, trivial⟩⟩
theorem pu_type (cx : (Nat → Int32)) (o : (Nat → Int32)) (st : (Nat → Int32)) (b : (Nat → Nat → Int32)) (pf : (Nat → Nat → Int32)) (g : (Nat → Nat → Int32)) (so : (Nat → Int32)) (sst : (Nat → Int32)) (sb : (Nat → Nat → Int32)) (sp : (Nat → Nat → Int32)) (sg : (Nat → Nat → Int32)) (hh : HVal) (t : (Nat → Nat → Int32)) (mo : (Nat → Int32)) (f : (Nat → Int32)) (fw : (Nat → Int32)) (fs : (Nat → Int32)) (tx : (Nat → Int32)) (ch : Int32) (h : Rel cx o st b pf g so sst sb sp sg hh t mo f fw fs tx) : (ok_X6_type t) ∧ (ok_X7_type mo) ∧ (f_X6_type t ch).1 = (f_X7_type mo tx ch).1 ∧ Rel cx o st b pf g so sst sb sp sg hh ((f_X6_type t ch).2) ((f_X7_type mo tx ch).2.1) f fw fs ((f_X7_type mo tx ch).2.2) := by
  obtain ⟨hS, hH, hN, n, n1, n2, n3, n4⟩ := h
  have hRel : ∀ t' mo' tx', mo' 0 = mo 0 → mo' 1 = mo 1 → RX t' mo' tx' → Rel cx o st b pf g so sst sb sp sg hh t' mo' f fw fs tx' := fun t' mo' tx' e0 e1 hx => ⟨hS, ⟨hH.1, hH.2.1, e0.trans hH.2.2.1, hH.2.2.2⟩, ⟨hN.1, e1.trans hN.2.1, hN.2.2⟩, hx⟩
  by_cases h1 : n = 60
  · subst h1
    have c6 : ¬ t 0 0 < 60 := by rw [n2]; exact nI_nlt (b := 60) (Nat.le_refl _) (by omega)
    have c7 : mo 2 = 60 := n3
    have v6 : f_X6_type t ch = (-3, t) := by unfold f_X6_type; rw [if_neg c6]
    have v7 : f_X7_type mo tx ch = (-3, mo, tx) := by unfold f_X7_type; rw [if_pos c7]
    refine ⟨?_, ?_, by rw [v6, v7]; exact ⟨rfl, hRel _ _ _ rfl rfl ⟨60, n1, n2, n3, n4⟩⟩⟩
    · unfold ok_X6_type; exact ⟨fun q => absurd q c6, fun _ => trivial⟩
    · unfold ok_X7_type; exact ⟨fun _ => trivial, fun q => absurd c7 q⟩
  · have c6 : t 0 0 < 60 := by rw [n2]; exact nI_lt (b := 60) (by omega) (by omega)
    have c5 : ¬ (60 : Int32) ≤ t 0 0 := by rw [n2]; exact nI_ge (b := 60) (by omega) (by omega)
    have c7 : ¬ mo 2 = 60 := by
      rw [n3]
      intro q
      exact h1 ((nI_eq (b := 60) (by omega) (by omega)).mp q)
    have hv : vp_in (nI n) 60 := vp_in_nI (by omega) (by omega)
    have cc : (nI n).toNatClampNeg = n := q_c (by omega)
    have v5 : f_X5_add t ch = sF (sF t 0 (upd (t 0) 0 (nI (n + 1)))) 1 (upd (t 1) n (vp_nar .char ch)) := by unfold f_X5_add; rw [if_neg c5, q_gLp, n2, cc, q_p1]
    have v6 : f_X6_type t ch = (nI (n + 1), sF (sF t 0 (upd (t 0) 0 (nI (n + 1)))) 1 (upd (t 1) n (vp_nar .char ch))) := by unfold f_X6_type; rw [if_pos c6, q_gLp, v5]; rfl
    have v7 : f_X7_type mo tx ch = (nI (n + 1), upd mo 2 (nI (n + 1)), upd tx n (vp_nar .char ch)) := by unfold f_X7_type; rw [if_neg c7, q_gLp, n3, cc, q_p1]
    refine ⟨?_, ?_, ?_⟩
    · unfold ok_X6_type ok_X5_add; rw [n2]; rw [n2] at c6 c5; exact ⟨fun _ => ⟨⟨fun q => absurd q c5, fun _ => ⟨hv, trivial⟩⟩, trivial⟩, fun q => absurd c6 q⟩
    · unfold ok_X7_type; rw [n3]; rw [n3] at c7; exact ⟨fun q => absurd q c7, fun _ => ⟨hv, trivial⟩⟩
    · rw [v6, v7]
      refine ⟨rfl, hRel _ _ _ rfl rfl ⟨n + 1, by omega, rfl, rfl, fun j hj => ?_⟩⟩
      show upd (t 1) n (vp_nar .char ch) j = upd tx n (vp_nar .char ch) j
      rw [q_up, q_up]
      by_cases e : j = n
      · rw [if_pos e, if_pos e]
      · rw [if_neg e, if_neg e]; exact n4 j (by omega)
theorem pu_clearText (cx : (Nat → Int32)) (o : (Nat → Int32)) (st : (Nat → Int32)) (b : (Nat → Nat → Int32)) (pf : (Nat → Nat → Int32)) (g : (Nat → Nat → Int32)) (so : (Nat → Int32)) (sst : (Nat → Int32)) (sb : (Nat → Nat → Int32)) (sp : (Nat → Nat → Int32)) (sg : (Nat → Nat → Int32)) (hh : HVal) (t : (Nat → Nat → Int32)) (mo : (Nat → Int32)) (f : (Nat → Int32)) (fw : (Nat → Int32)) (fs : (Nat → Int32)) (tx : (Nat → Int32)) (h : Rel cx o st b pf g so sst sb sp sg hh t mo f fw fs tx) : (f_X6_clearText t).1 = (f_X7_clearText mo).1 ∧ Rel cx o st b pf g so sst sb sp sg hh ((f_X6_clearText t).2) ((f_X7_clearText mo).2) f fw fs tx := by
  obtain ⟨hS, hH, hN, n, n1, n2, n3, n4⟩ := h
  have v6 : f_X6_clearText t = (t 0 0, sF t 0 (upd (t 0) 0 0)) := by unfold f_X6_clearText; rw [q_gLp]
  have v7 : f_X7_clearText mo = (mo 2, upd mo 2 0) := by unfold f_X7_clearText; rw [q_gLp]
  rw [v6, v7]
  exact ⟨n2.trans n3.symm, hS, hH, hN, 0, by omega, rfl, rfl, fun j hj => absurd hj (by omega)⟩
theorem p_undoL {mo fw : Nat → Int32} {n0 : Nat} (h0 : mo 0 = nI (n0 + 1)) (h4 : n0 < 4) : ∀ n x (w : Nat → Int32), x ≤ 112 → 112 < x + n → fl_X7_undo_22 mo fw n (nI x) w = (nI n0, upd mo 0 (nI n0), cpA (fun k => fw (112 * n0 + k)) w 0 x) ∧ okl_X7_undo_22 mo fw n (nI x) w := by
  have em : mo 0 - 1 = nI n0 := by rw [h0]; exact q_sub (a := n0 + 1) (b := 1) (by omega)
  intro n
  induction n with
  | zero => intro x w h1 h2; omega
  | succ n ih =>
    intro x w h1 h2
    rw [fl_X7_undo_22, okl_X7_undo_22]
    by_cases e : x = 112
    · subst e
      have hc : (112 : Int32) ≤ nI 112 := Int32.le_refl _
      have es : cpA (fun k => fw (112 * n0 + k)) w 0 112 = w := by
        funext j
        unfold cpA
        rw [if_neg (by omega)]
      rw [if_pos hc, em, es]
      exact ⟨rfl, fun _ => trivial, fun q => absurd hc q⟩
    · have hc : ¬ (112 : Int32) ≤ nI x := nI_ge (b := 112) (by omega) (by omega)
      have hv : vp_in (nI x) 112 := q_in (by omega)
      have ei : (112 : Int32) * (mo 0 - 1) + nI x = nI (112 * n0 + x) := by rw [em, show (112 : Int32) * nI n0 = nI (112 * n0) from pk_mul 112 n0, nI_add]
      have hv2 : vp_in (nI (112 * n0 + x)) 448 := vp_in_nI (by omega) (by omega)
      obtain ⟨i1, i2⟩ := ih (x + 1) (upd w x (fw (112 * n0 + x))) (by omega) (by omega)
      have es := cpA_step (fun k => fw (112 * n0 + k)) w 0 x (by omega)
      rw [Nat.zero_add] at es
      rw [if_neg hc, ei, q_c (by omega), q_c (by omega), q_gLp, q_gLp, q_gLp, q_gLp, q_p1]
      refine ⟨i1.trans ?_, fun q => absurd q hc, fun _ => ⟨hv2, hv, i2⟩⟩
      rw [← es]
theorem pu_undo (cx : (Nat → Int32)) (o : (Nat → Int32)) (st : (Nat → Int32)) (b : (Nat → Nat → Int32)) (pf : (Nat → Nat → Int32)) (g : (Nat → Nat → Int32)) (so : (Nat → Int32)) (sst : (Nat → Int32)) (sb : (Nat → Nat → Int32)) (sp : (Nat → Nat → Int32)) (sg : (Nat → Nat → Int32)) (hh : HVal) (t : (Nat → Nat → Int32)) (mo : (Nat → Int32)) (f : (Nat → Int32)) (fw : (Nat → Int32)) (fs : (Nat → Int32)) (tx : (Nat → Int32)) (h : Rel cx o st b pf g so sst sb sp sg hh t mo f fw fs tx) : (ok_X6_undo hh) ∧ (ok_X7_undo mo f fw) ∧ (f_X6_undo o st b pf g hh).1 = (f_X7_undo mo f fw).1 ∧ Rel cx ((f_X6_undo o st b pf g hh).2.1) ((f_X6_undo o st b pf g hh).2.2.1) ((f_X6_undo o st b pf g hh).2.2.2.1) ((f_X6_undo o st b pf g hh).2.2.2.2.1) ((f_X6_undo o st b pf g hh).2.2.2.2.2.1) so sst sb sp sg ((f_X6_undo o st b pf g hh).2.2.2.2.2.2) t ((f_X7_undo mo f fw).2.1) ((f_X7_undo mo f fw).2.2) fw fs tx := by
  obtain ⟨hS, ⟨h4, hz, hm, hj⟩, hN, n, n1, n2, n3, n4⟩ := h
  by_cases e : hh.1 = 0
  · have c6 : nI hh.1 = 0 := by rw [e]; rfl
    have c7 : mo 0 = 0 := by rw [hm]; exact c6
    have v6 : f_X6_undo o st b pf g hh = (-5, o, st, b, pf, g, hh) := by unfold f_X6_undo; rw [if_pos c6]
    have v7 : f_X7_undo mo f fw = (-5, mo, f) := by unfold f_X7_undo; rw [if_pos c7]
    refine ⟨?_, ?_, by rw [v6, v7]; exact ⟨rfl, hS, ⟨h4, hz, hm, hj⟩, hN, n, n1, n2, n3, n4⟩⟩
    · unfold ok_X6_undo; exact ⟨fun _ => trivial, fun q => absurd c6 q⟩
    · unfold ok_X7_undo; exact ⟨fun _ => trivial, fun q => absurd c7 q⟩
  · obtain ⟨n0, hn0⟩ : ∃ n0, hh.1 = n0 + 1 := ⟨hh.1 - 1, by omega⟩
    have c6 : ¬ nI hh.1 = 0 := nI_ne0 (by omega) (by omega)
    have c7 : ¬ mo 0 = 0 := by rw [hm]; exact c6
    have hm' : mo 0 = nI (n0 + 1) := by rw [hm, hn0]
    obtain ⟨i1, i2⟩ := p_undoL (fw := fw) hm' (by omega) 113 0 f (by omega) (by omega)
    have i1' : fl_X7_undo_22 mo fw 113 0 f = (nI n0, upd mo 0 (nI n0), cpA (fun k => fw (112 * n0 + k)) f 0 0) := i1
    have en : hh.1 - 1 = n0 := by omega
    have v6 : f_X6_undo o st b pf g hh = (nI n0, (hh.2.2 n0).1, (hh.2.2 n0).2.1, (hh.2.2 n0).2.2.1, (hh.2.2 n0).2.2.2.1, (hh.2.2 n0).2.2.2.2, (n0, hh.2.1, hh.2.2)) := by unfold f_X6_undo f_htake; rw [if_neg c6, q_gLp, en]
    have v7 : f_X7_undo mo f fw = (nI n0, upd mo 0 (nI n0), cpA (fun k => fw (112 * n0 + k)) f 0 0) := by unfold f_X7_undo; rw [if_neg c7]; exact i1'
    have hs : RSv (hh.2.2 n0) (fun k => fw (112 * n0 + k)) := hj n0 (by omega)
    have hnew : RSv (hh.2.2 n0) (cpA (fun k => fw (112 * n0 + k)) f 0 0) := RS_112 hs (fun k hk => cpA_lo0 _ f hk)
    refine ⟨?_, ?_, ?_⟩
    · unfold ok_X6_undo ok_htake; rw [en]; exact ⟨fun q => absurd q c6, fun _ => ⟨⟨by omega, h4, hz, hs.2.2.2.1.2.2.2.2.2.2.2.2.1, trivial⟩, trivial⟩⟩
    · unfold ok_X7_undo; exact ⟨fun q => absurd q c7, fun _ => i2⟩
    · rw [v6, v7]
      exact ⟨rfl, hnew, ⟨by show n0 ≤ 4; omega, hz, rfl, fun j hj' => hj j (by have : j < n0 := hj'; omega)⟩, hN, n, n1, n2, n3, n4⟩
theorem pu_keep (cx : (Nat → Int32)) (o : (Nat → Int32)) (st : (Nat → Int32)) (b : (Nat → Nat → Int32)) (pf : (Nat → Nat → Int32)) (g : (Nat → Nat → Int32)) (so : (Nat → Int32)) (sst : (Nat → Int32)) (sb : (Nat → Nat → Int32)) (sp : (Nat → Nat → Int32)) (sg : (Nat → Nat → Int32)) (hh : HVal) (t : (Nat → Nat → Int32)) (mo : (Nat → Int32)) (f : (Nat → Int32)) (fw : (Nat → Int32)) (fs : (Nat → Int32)) (tx : (Nat → Int32)) (h : Rel cx o st b pf g so sst sb sp sg hh t mo f fw fs tx) : (ok_X6_keep o) ∧ (ok_X7_keep f fs) ∧ (f_X6_keep cx o st b pf g).1 = (f_X7_keep mo f fs).1 ∧ Rel ((f_X6_keep cx o st b pf g).2.1) o st b pf g ((f_X6_keep cx o st b pf g).2.2.1) ((f_X6_keep cx o st b pf g).2.2.2.1) ((f_X6_keep cx o st b pf g).2.2.2.2.1) ((f_X6_keep cx o st b pf g).2.2.2.2.2.1) ((f_X6_keep cx o st b pf g).2.2.2.2.2.2) hh t ((f_X7_keep mo f fs).2.1) f fw ((f_X7_keep mo f fs).2.2) tx := by
  obtain ⟨hS, hH, hN, n, n1, n2, n3, n4⟩ := h
  obtain ⟨c1, c2⟩ := p_copy112 f fs
  have hcp : ok_X4_copyFrom o := ⟨hS.2.2.2.1.2.2.2.2.2.2.2.2.1, trivial⟩
  have v6 : f_X6_keep cx o st b pf g = (o 3, (upd cx 0 1), o, st, b, pf, g) := rfl
  have v7 : f_X7_keep mo f fs = (f 76, upd mo 1 1, f_X7_copies112 f fs 0) := by unfold f_X7_keep; rw [q_gLp]
  refine ⟨⟨hcp, trivial⟩, ⟨c2, trivial⟩, ?_⟩
  rw [v6, v7, c1]
  exact ⟨hS.2.2.2.1.2.2.2.1, hS, hH, ⟨Or.inr rfl, rfl, fun _ => RS_112 hS (fun k hk => cpA_lo0 f fs hk)⟩, n, n1, n2, n3, n4⟩
theorem pu_restore (cx : (Nat → Int32)) (o : (Nat → Int32)) (st : (Nat → Int32)) (b : (Nat → Nat → Int32)) (pf : (Nat → Nat → Int32)) (g : (Nat → Nat → Int32)) (so : (Nat → Int32)) (sst : (Nat → Int32)) (sb : (Nat → Nat → Int32)) (sp : (Nat → Nat → Int32)) (sg : (Nat → Nat → Int32)) (hh : HVal) (t : (Nat → Nat → Int32)) (mo : (Nat → Int32)) (f : (Nat → Int32)) (fw : (Nat → Int32)) (fs : (Nat → Int32)) (tx : (Nat → Int32)) (h : Rel cx o st b pf g so sst sb sp sg hh t mo f fw fs tx) : (ok_X6_restore cx o st b pf g so hh) ∧ (ok_X7_restore mo f fw fs) ∧ (f_X6_restore cx o st b pf g so sst sb sp sg hh).1 = (f_X7_restore mo f fw fs).1 ∧ Rel cx ((f_X6_restore cx o st b pf g so sst sb sp sg hh).2.1) ((f_X6_restore cx o st b pf g so sst sb sp sg hh).2.2.1) ((f_X6_restore cx o st b pf g so sst sb sp sg hh).2.2.2.1) ((f_X6_restore cx o st b pf g so sst sb sp sg hh).2.2.2.2.1) ((f_X6_restore cx o st b pf g so sst sb sp sg hh).2.2.2.2.2.1) so sst sb sp sg ((f_X6_restore cx o st b pf g so sst sb sp sg hh).2.2.2.2.2.2) t ((f_X7_restore mo f fw fs).2.1) ((f_X7_restore mo f fw fs).2.2.1) ((f_X7_restore mo f fw fs).2.2.2) fs tx := by
  obtain ⟨hS, k1, k2⟩ := Rel_now h
  obtain ⟨-, hH, hN, n, n1, n2, n3, n4⟩ := id h
  by_cases e : cx 0 = 0
  · have e7 : mo 1 = 0 := hN.2.1.trans e
    have v6 : f_X6_restore cx o st b pf g so sst sb sp sg hh = (-5, o, st, b, pf, g, hh) := by unfold f_X6_restore; rw [if_pos e]
    have v7 : f_X7_restore mo f fw fs = (-5, mo, f, fw) := by unfold f_X7_restore; rw [if_pos e7]
    refine ⟨?_, ?_, by rw [v6, v7]; exact ⟨rfl, h⟩⟩
    · unfold ok_X6_restore; exact ⟨fun _ => trivial, fun q => absurd e q⟩
    · unfold ok_X7_restore; exact ⟨fun _ => trivial, fun q => absurd e7 q⟩
  · have e7 : ¬ mo 1 = 0 := fun q => e (hN.2.1.symm.trans q)
    have e1 : cx 0 = 1 := by
      rcases hN.1 with q | q
      · exact absurd q e
      · exact q
    have hs := hN.2.2 e1
    obtain ⟨c1, c2⟩ := p_copy112 fs f
    obtain ⟨F, hF⟩ : ∃ F, F = f_X7_copies112 fs f 0 := ⟨_, rfl⟩
    have hnew : RS so sst sb sp sg F := by rw [hF, c1]; exact RS_112 hs (fun k hk => cpA_lo0 fs f hk)
    have v6 : f_X6_restore cx o st b pf g so sst sb sp sg hh = (so 3, so, sst, sb, sp, sg, f_hadd o st b pf g hh) := by unfold f_X6_restore; rw [if_neg e, q_gLp]
    have v7 : f_X7_restore mo f fw fs = (F 76, (f_X7_records mo f fw).1, F, (f_X7_records mo f fw).2) := by unfold f_X7_restore; rw [if_neg e7, q_gLp, q_gLp, hF]
    have hr := Rel_rec h hnew
    refine ⟨?_, ?_, by rw [v6, v7]; exact ⟨hnew.2.2.2.1.2.2.2.1, hr⟩⟩
    · unfold ok_X6_restore; exact ⟨fun q => absurd q e, fun _ => ⟨k1, ⟨hs.2.2.2.1.2.2.2.2.2.2.2.2.1, trivial⟩, trivial⟩⟩
    · unfold ok_X7_restore; exact ⟨fun q => absurd q e7, fun _ => ⟨k2, c2, trivial⟩⟩
