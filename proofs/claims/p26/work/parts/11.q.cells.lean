/-! PURE: setCharge, use, battery, chargeIn -/
theorem RS_lo {o st f f' : Nat → Int32} {b b' pf g : Nat → Nat → Int32} (h : RS o st b pf g f) (e : ∀ j, 42 ≤ j → j < 112 → f' j = f j) (hb : RB st b' f') : RS o st b' pf g f' := by
  refine ⟨hb, fun k hk => ⟨(h.2.1 k hk).1.trans (e _ (by omega) (by omega)).symm, (h.2.1 k hk).2⟩, ?_, RO_fr h.2.2.2.1 (fun j h1 h2 => e j (by omega) (by omega)), ?_⟩
  · obtain ⟨S, hS, p0, f72, hst⟩ := h.2.2.1
    exact ⟨S, hS, p0, (e 72 (by omega) (by omega)).trans f72, fun k hk => ⟨fun w hw => ((hst k hk).1 w hw).trans (e _ (by omega) (by omega)).symm, (hst k hk).2⟩⟩
  · obtain ⟨E, X, hE, hX, g0, g1, f81, hj⟩ := h.2.2.2.2
    exact ⟨E, X, hE, hX, g0, g1, (e 81 (by omega) (by omega)).trans f81, fun j w a b => (hj j w a b).trans (e _ (by omega) (by omega)).symm⟩
theorem RC_upd {b : Nat → Nat → Int32} {f : Nat → Int32} (h : RC b f) {c w : Nat} (hw : w < 7) (x : Int32) : RC (sF b (1 + w) (upd (b (1 + w)) c x)) (upd f (7 * c + w) x) := by
  intro c' w' hc' hw'
  rw [q_sF, q_up]
  by_cases e : w' = w
  · subst e
    rw [if_pos rfl, q_up]
    by_cases e2 : c' = c
    · rw [if_pos e2, if_pos (by omega)]
    · rw [if_neg e2, if_neg (by omega), h c' w' hc' hw']
  · rw [if_neg (by omega), if_neg (by omega), h c' w' hc' hw']
theorem pu_chargeIn (cx : (Nat → Int32)) (o : (Nat → Int32)) (st : (Nat → Int32)) (b : (Nat → Nat → Int32)) (pf : (Nat → Nat → Int32)) (g : (Nat → Nat → Int32)) (fo : (Nat → Int32)) (fst : (Nat → Int32)) (fb : (Nat → Nat → Int32)) (fp : (Nat → Nat → Int32)) (fg : (Nat → Nat → Int32)) (so : (Nat → Int32)) (sst : (Nat → Int32)) (sb : (Nat → Nat → Int32)) (sp : (Nat → Nat → Int32)) (sg : (Nat → Nat → Int32)) (hh : HVal) (t : (Nat → Nat → Int32)) (mo : (Nat → Int32)) (f : (Nat → Int32)) (ft : (Nat → Int32)) (fw : (Nat → Int32)) (fs : (Nat → Int32)) (tx : (Nat → Int32)) (a1 : Int32) (a2 : Int32) (h : Rel cx o st b pf g so sst sb sp sg hh t mo f fw fs tx) : (ok_X6_chargeIn o st b pf g a1 a2) ∧ (ok_X7_chargeIn f ft a1 a2) ∧ (f_X6_chargeIn o st b pf g fo fst fb fp fg a1 a2).1 = (f_X7_chargeIn f ft a1 a2).1 ∧ Rel cx o st b pf g so sst sb sp sg hh t mo f fw fs tx := by
  obtain ⟨hS, k1, k2⟩ := Rel_now h
  have hcp : ok_X4_copyFrom o := k1.2.2
  obtain ⟨c1, c2⟩ := p_copy112 f ft
  have hz : RS o st b pf g (f_X7_copies112 f ft 0) := by rw [c1]; exact RS_112 hS (fun j hj => cpA_lo0 f ft hj)
  obtain ⟨hi, hcase⟩ := p_isCell hS.1 a1
  suffices hh : ok_X6_chargeIn o st b pf g a1 a2 ∧ ok_X7_chargeIn f ft a1 a2 ∧ (f_X6_chargeIn o st b pf g fo fst fb fp fg a1 a2).1 = (f_X7_chargeIn f ft a1 a2).1 from ⟨hh.1, hh.2.1, hh.2.2, h⟩
  rcases hcase with ⟨e6, e7⟩ | ⟨e6, e7, N, c, h6, hc, ea, b0, h71⟩
  · have v6 : f_X6_chargeIn o st b pf g fo fst fb fp fg a1 a2 = (-1, fo, fst, fb, fp, fg) := by unfold f_X6_chargeIn; rw [q_gLp, if_pos e6]
    have v7 : f_X7_chargeIn f ft a1 a2 = (-1, ft) := by unfold f_X7_chargeIn; rw [q_gLp, if_pos e7]
    refine ⟨?_, ?_, by rw [v6, v7]⟩
    · unfold ok_X6_chargeIn; exact ⟨fun _ => trivial, fun q => absurd e6 q⟩
    · unfold ok_X7_chargeIn; exact ⟨hi, fun _ => trivial, fun q => absurd e7 q⟩
  · subst ea
    have r6 := q_1no e6
    have r7 := q_1no e7
    have hv : vp_in (nI c) 6 := vp_in_nI (by omega) (by omega)
    have cc : (nI c).toNatClampNeg = c := q_c (by omega)
    by_cases h1 : a2 < 0
    · have e := p_in1 (hi := 200) h1
      have v6 : f_X6_chargeIn o st b pf g fo fst fb fp fg (nI c) a2 = (-2, fo, fst, fb, fp, fg) := by unfold f_X6_chargeIn; rw [q_gLp, if_neg r6, if_pos h1]
      have v7 : f_X7_chargeIn f ft (nI c) a2 = (-2, ft) := by unfold f_X7_chargeIn; rw [q_gLp, if_neg r7, q_gLp, if_pos e]
      refine ⟨?_, ?_, by rw [v6, v7]⟩
      · unfold ok_X6_chargeIn; exact ⟨fun q => absurd q r6, fun _ => ⟨fun _ => trivial, fun q => absurd h1 q⟩⟩
      · unfold ok_X7_chargeIn; exact ⟨hi, fun q => absurd q r7, fun _ => ⟨fun _ => trivial, fun q => absurd e q⟩⟩
    · by_cases h2 : a2 ≤ 200
      · have e := q_1no (p_in3 h1 h2)
        obtain ⟨P, hP, eP⟩ := q_rg (x := a2) (M := 200) (n := 200) (by decide) (Int32.not_lt.mp h1) h2
        subst eP
        obtain ⟨i1, f', -, -, i4, i5, i6⟩ := p_passLoop hP (f, f) (nI c) 201 0 o b g _ (by omega) (by omega) hz
        have w0 := p_ofW f' (show c < 6 by omega) (show 0 < 7 by omega)
        have v6 : (f_X6_chargeIn o st b pf g fo fst fb fp fg (nI c) (nI P)).1 = (f_X4_passTicks o st b pf g (nI P)).2.1 1 c := by unfold f_X6_chargeIn; rw [q_gLp, if_neg r6, if_neg h1, if_pos h2, q_gLp, cc]
        have v7 : f_X7_chargeIn f ft (nI c) (nI P) = (f_X7_of f' (nI c) 0, f') := by unfold f_X7_chargeIn; rw [q_gLp, if_neg r7, q_gLp, if_neg e, q_gLp]; exact i4
        have hR : RC (f_X4_passTicks o st b pf g (nI P)).2.1 f' := by
          have := i6.1
          obtain ⟨N, d, h6, d1, d2, s0, b0, h71, hR, hB⟩ := this
          exact hR
        refine ⟨?_, ?_, ?_⟩
        · unfold ok_X6_chargeIn; exact ⟨fun q => absurd q r6, fun _ => ⟨fun q => absurd q h1, fun _ => ⟨fun _ => ⟨hcp, i1, hv, trivial⟩, fun q => absurd h2 q⟩⟩⟩
        · unfold ok_X7_chargeIn; exact ⟨hi, fun q => absurd q r7, fun _ => ⟨fun q => absurd q e, fun _ => ⟨c2, i5 w0.2⟩⟩⟩
        · rw [v6, v7]
          exact (hR c 0 (by omega) (by omega)).trans w0.1.symm
      · have e : f_X7_in a2 0 200 = 0 := p_in2 (Int32.not_le.mp h2)
        have v6 : f_X6_chargeIn o st b pf g fo fst fb fp fg (nI c) a2 = (-2, fo, fst, fb, fp, fg) := by unfold f_X6_chargeIn; rw [q_gLp, if_neg r6, if_neg h1, if_neg h2]
        have v7 : f_X7_chargeIn f ft (nI c) a2 = (-2, ft) := by unfold f_X7_chargeIn; rw [q_gLp, if_neg r7, q_gLp, if_pos e]
        refine ⟨?_, ?_, by rw [v6, v7]⟩
        · unfold ok_X6_chargeIn; exact ⟨fun q => absurd q r6, fun _ => ⟨fun q => absurd q h1, fun _ => ⟨fun q => absurd q h2, fun _ => trivial⟩⟩⟩
        · unfold ok_X7_chargeIn; exact ⟨hi, fun q => absurd q r7, fun _ => ⟨fun _ => trivial, fun q => absurd e q⟩⟩
theorem pu_setCharge (cx : (Nat → Int32)) (o : (Nat → Int32)) (st : (Nat → Int32)) (b : (Nat → Nat → Int32)) (pf : (Nat → Nat → Int32)) (g : (Nat → Nat → Int32)) (so : (Nat → Int32)) (sst : (Nat → Int32)) (sb : (Nat → Nat → Int32)) (sp : (Nat → Nat → Int32)) (sg : (Nat → Nat → Int32)) (hh : HVal) (t : (Nat → Nat → Int32)) (mo : (Nat → Int32)) (f : (Nat → Int32)) (fw : (Nat → Int32)) (fs : (Nat → Int32)) (tx : (Nat → Int32)) (a1 : Int32) (a2 : Int32) (h : Rel cx o st b pf g so sst sb sp sg hh t mo f fw fs tx) : (ok_X6_setCharge o st b pf g hh a1 a2) ∧ (ok_X7_setCharge mo f fw a1 a2) ∧ (f_X6_setCharge o st b pf g hh a1 a2).1 = (f_X7_setCharge mo f fw a1 a2).1 ∧ Rel cx o st ((f_X6_setCharge o st b pf g hh a1 a2).2.1) pf g so sst sb sp sg ((f_X6_setCharge o st b pf g hh a1 a2).2.2) t ((f_X7_setCharge mo f fw a1 a2).2.1) ((f_X7_setCharge mo f fw a1 a2).2.2.1) ((f_X7_setCharge mo f fw a1 a2).2.2.2) fs tx := by
  obtain ⟨hS, k1, k2⟩ := Rel_now h
  obtain ⟨hi, hcase⟩ := p_isCell hS.1 a1
  rcases hcase with ⟨e6, e7⟩ | ⟨e6, e7, N, c, h6, hc, ea, b0, h71⟩
  · have v6 : f_X6_setCharge o st b pf g hh a1 a2 = (-1, b, hh) := by unfold f_X6_setCharge; rw [q_gLp, if_pos e6]
    have v7 : f_X7_setCharge mo f fw a1 a2 = (-1, mo, f, fw) := by unfold f_X7_setCharge; rw [q_gLp, if_pos e7]
    refine ⟨?_, ?_, by rw [v6, v7]; exact ⟨rfl, h⟩⟩
    · unfold ok_X6_setCharge; exact ⟨fun _ => trivial, fun q => absurd e6 q⟩
    · unfold ok_X7_setCharge; exact ⟨hi, fun _ => trivial, fun q => absurd e7 q⟩
  · subst ea
    have r6 := q_1no e6
    have r7 := q_1no e7
    have hv : vp_in (nI c) 6 := vp_in_nI (by omega) (by omega)
    have cc : (nI c).toNatClampNeg = c := q_c (by omega)
    have e42 : f 42 = st 0 := (q_f hS.2.1).1
    obtain ⟨N', d, h6', d1, d2, s0, h42, b0', h71', hR, hB, hG⟩ := RB_G hS.1 hS.2.1
    by_cases h1 : a2 < 0
    · have e := p_in1 (hi := f 42) h1
      have v6 : f_X6_setCharge o st b pf g hh (nI c) a2 = (-2, b, hh) := by unfold f_X6_setCharge; rw [q_gLp, if_neg r6, if_pos h1]
      have v7 : f_X7_setCharge mo f fw (nI c) a2 = (-2, mo, f, fw) := by unfold f_X7_setCharge; rw [q_gLp, if_neg r7, q_gLp, if_pos e]
      refine ⟨?_, ?_, by rw [v6, v7]; exact ⟨rfl, h⟩⟩
      · unfold ok_X6_setCharge; exact ⟨fun q => absurd q r6, fun _ => ⟨fun _ => trivial, fun q => absurd h1 q⟩⟩
      · unfold ok_X7_setCharge; exact ⟨hi, fun q => absurd q r7, fun _ => ⟨fun _ => trivial, fun q => absurd e q⟩⟩
    · by_cases h2 : a2 ≤ st 0
      · have e := q_1no (p_in3 (hi := f 42) h1 (by rw [e42]; exact h2))
        have w0 := p_ofW f (show c < 6 by omega) (show 0 < 7 by omega)
        have w1 := p_ofW f (show c < 6 by omega) (show 1 < 7 by omega)
        have m0 : f_X7_of f (nI c) 0 = b 1 c := w0.1.trans (hR c 0 (by omega) (by omega)).symm
        have m1 : f_X7_of f (nI c) 1 = b 2 c := w1.1.trans (hR c 1 (by omega) (by omega)).symm
        have i0 : ((7 * nI c) + 0 : Int32).toNatClampNeg = 7 * c := by rw [q_7, q_p0]; exact q_c (by omega)
        have i1 : ((7 * nI c) + 1 : Int32).toNatClampNeg = 7 * c + 1 := by rw [q_7, q_p1]; exact q_c (by omega)
        have j0 : vp_in ((7 * nI c) + 0) 112 := by rw [q_7, q_p0]; exact q_in (by omega)
        have j1 : vp_in ((7 * nI c) + 1) 112 := by rw [q_7, q_p1]; exact q_in (by omega)
        have hnew : RS o st (sF (sF b 1 (upd (b 1) c a2)) 2 (upd (b 2) c 0)) pf g (upd (upd f (7 * c) a2) (7 * c + 1) 0) := by
          obtain ⟨x, x1, x2⟩ := q_rg (x := a2) (M := nI d) (n := d) (nI_toInt (by omega)) (Int32.not_lt.mp h1) (by rw [← s0]; exact h2)
          refine RS_lo hS (fun j hj hj2 => by rw [q_up, if_neg (by omega), q_up, if_neg (by omega)]) ?_
          refine ⟨N', d, h6', d1, d2, s0, b0', by rw [q_up, if_neg (by omega), q_up, if_neg (by omega)]; exact h71', ?_, fun c' hc' => ?_⟩
          · exact RC_upd (w := 1) (RC_upd (w := 0) hR (c := c) (by omega) a2) (c := c) (by omega) 0
          · obtain ⟨a, r, a1, r1, ea, er⟩ := hB c' hc'
            by_cases ec : c' = c
            · refine ⟨x, 0, x1, by omega, ?_, ?_⟩
              · show upd (b 1) c a2 c' = nI x
                rw [q_up, if_pos ec, x2]
              · show upd (b 2) c 0 c' = nI 0
                rw [q_up, if_pos ec]; rfl
            · refine ⟨a, r, a1, r1, ?_, ?_⟩
              · show upd (b 1) c a2 c' = nI a
                rw [q_up, if_neg ec, ea]
              · show upd (b 2) c 0 c' = nI r
                rw [q_up, if_neg ec, er]
        have fin : ∀ V6 V7, V6 = (b 1 c, (sF (sF b 1 (upd (b 1) c a2)) 2 (upd (b 2) c 0)), f_hadd o st b pf g hh) → V7 = (b 1 c, (f_X7_records mo f fw).1, upd (upd f (7 * c) a2) (7 * c + 1) 0, (f_X7_records mo f fw).2) → V6.1 = V7.1 ∧ Rel cx o st V6.2.1 pf g so sst sb sp sg V6.2.2 t V7.2.1 V7.2.2.1 V7.2.2.2 fs tx := by
          intro V6 V7 h6 h7
          subst h6 h7
          exact ⟨rfl, Rel_rec h hnew⟩
        by_cases h3 : b 1 c = a2
        · by_cases h4 : b 2 c = 0
          · have v6 : f_X6_setCharge o st b pf g hh (nI c) a2 = (-5, b, hh) := by unfold f_X6_setCharge; rw [q_gLp, if_neg r6, if_neg h1, if_pos h2, q_gLp, cc, if_pos h3, if_pos h4]
            have v7 : f_X7_setCharge mo f fw (nI c) a2 = (-5, mo, f, fw) := by unfold f_X7_setCharge; rw [q_gLp, if_neg r7, q_gLp, if_neg e, q_gLp, m0, if_pos h3, q_gLp, m1, if_pos h4]
            refine ⟨?_, ?_, by rw [v6, v7]; exact ⟨rfl, h⟩⟩
            · unfold ok_X6_setCharge; rw [cc]; exact ⟨fun q => absurd q r6, fun _ => ⟨fun q => absurd q h1, fun _ => ⟨fun _ => ⟨hv, fun _ => ⟨hv, fun _ => trivial, fun q => absurd h4 q⟩, fun q => absurd h3 q⟩, fun q => absurd h2 q⟩⟩⟩
            · unfold ok_X7_setCharge; rw [m0, m1]; exact ⟨hi, fun q => absurd q r7, fun _ => ⟨fun q => absurd q e, fun _ => ⟨w0.2, fun _ => ⟨w1.2, fun _ => trivial, fun q => absurd h4 q⟩, fun q => absurd h3 q⟩⟩⟩
          · have v6 : f_X6_setCharge o st b pf g hh (nI c) a2 = (b 1 c, (sF (sF b 1 (upd (b 1) c a2)) 2 (upd (b 2) c 0)), f_hadd o st b pf g hh) := by unfold f_X6_setCharge; rw [q_gLp, if_neg r6, if_neg h1, if_pos h2, q_gLp, cc, if_pos h3, if_neg h4, q_gLp, q_gLp, q_gLp]
            have v7 : f_X7_setCharge mo f fw (nI c) a2 = (b 1 c, (f_X7_records mo f fw).1, upd (upd f (7 * c) a2) (7 * c + 1) 0, (f_X7_records mo f fw).2) := by unfold f_X7_setCharge; rw [q_gLp, if_neg r7, q_gLp, if_neg e, q_gLp, m0, if_pos h3, q_gLp, m1, if_neg h4, q_gLp, q_gLp, q_gLp, i0, i1]
            refine ⟨?_, ?_, fin _ _ v6 v7⟩
            · unfold ok_X6_setCharge; rw [cc]; exact ⟨fun q => absurd q r6, fun _ => ⟨fun q => absurd q h1, fun _ => ⟨fun _ => ⟨hv, fun _ => ⟨hv, fun q => absurd q h4, fun _ => ⟨k1, hv, hv, trivial⟩⟩, fun q => absurd h3 q⟩, fun q => absurd h2 q⟩⟩⟩
            · unfold ok_X7_setCharge; rw [m0, m1]; exact ⟨hi, fun q => absurd q r7, fun _ => ⟨fun q => absurd q e, fun _ => ⟨w0.2, fun _ => ⟨w1.2, fun q => absurd q h4, fun _ => ⟨k2, j0, j1, trivial⟩⟩, fun q => absurd h3 q⟩⟩⟩
        · have v6 : f_X6_setCharge o st b pf g hh (nI c) a2 = (b 1 c, (sF (sF b 1 (upd (b 1) c a2)) 2 (upd (b 2) c 0)), f_hadd o st b pf g hh) := by unfold f_X6_setCharge; rw [q_gLp, if_neg r6, if_neg h1, if_pos h2, q_gLp, cc, if_neg h3, q_gLp, q_gLp, q_gLp]
          have v7 : f_X7_setCharge mo f fw (nI c) a2 = (b 1 c, (f_X7_records mo f fw).1, upd (upd f (7 * c) a2) (7 * c + 1) 0, (f_X7_records mo f fw).2) := by unfold f_X7_setCharge; rw [q_gLp, if_neg r7, q_gLp, if_neg e, q_gLp, m0, if_neg h3, q_gLp, q_gLp, q_gLp, i0, i1]
          refine ⟨?_, ?_, fin _ _ v6 v7⟩
          · unfold ok_X6_setCharge; rw [cc]; exact ⟨fun q => absurd q r6, fun _ => ⟨fun q => absurd q h1, fun _ => ⟨fun _ => ⟨hv, fun q => absurd q h3, fun _ => ⟨k1, hv, hv, trivial⟩⟩, fun q => absurd h2 q⟩⟩⟩
          · unfold ok_X7_setCharge; rw [m0]; exact ⟨hi, fun q => absurd q r7, fun _ => ⟨fun q => absurd q e, fun _ => ⟨w0.2, fun q => absurd q h3, fun _ => ⟨k2, j0, j1, trivial⟩⟩⟩⟩
      · have e : f_X7_in a2 0 (f 42) = 0 := p_in2 (by rw [e42]; exact Int32.not_le.mp h2)
        have v6 : f_X6_setCharge o st b pf g hh (nI c) a2 = (-2, b, hh) := by unfold f_X6_setCharge; rw [q_gLp, if_neg r6, if_neg h1, if_neg h2]
        have v7 : f_X7_setCharge mo f fw (nI c) a2 = (-2, mo, f, fw) := by unfold f_X7_setCharge; rw [q_gLp, if_neg r7, q_gLp, if_pos e]
        refine ⟨?_, ?_, by rw [v6, v7]; exact ⟨rfl, h⟩⟩
        · unfold ok_X6_setCharge; exact ⟨fun q => absurd q r6, fun _ => ⟨fun q => absurd q h1, fun _ => ⟨fun q => absurd q h2, fun _ => trivial⟩⟩⟩
        · unfold ok_X7_setCharge; exact ⟨hi, fun q => absurd q r7, fun _ => ⟨fun _ => trivial, fun q => absurd e q⟩⟩
