/-! facts for the end of the law -/
theorem bat4 (cx : (Nat → Int32)) (o : (Nat → Int32)) (st : (Nat → Int32)) (b : (Nat → Nat → Int32)) (pf : (Nat → Nat → Int32)) (g : (Nat → Nat → Int32)) (so : (Nat → Int32)) (sst : (Nat → Int32)) (sb : (Nat → Nat → Int32)) (sp : (Nat → Nat → Int32)) (sg : (Nat → Nat → Int32)) (hh : HVal) (t : (Nat → Nat → Int32)) (hI : Iv cx o st b pf g so sst sb sp sg hh t) : ∃ R : Int32 × (Nat → Int32) × (Nat → Nat → Int32) × HVal, R = f_X6_battery o st b pf g hh 4 ∧ ¬ R.1 < 1 ∧ R.2.1 0 = 0 ∧ R.2.1 3 = o 3 ∧ R.2.2.1 0 0 = 4 ∧ R.2.2.1 1 3 = 0 ∧ R.2.2.2 = hadd (o, st, b, pf, g) hh := by
  obtain ⟨mo, f, fw, fs, tx, hS, -, -, -⟩ := id hI
  obtain ⟨N, d, h6, d1, d2, e0, eb, ef, hC, hch⟩ := id hS.1
  obtain ⟨b', i1, i2, i3, i4⟩ := p_peL 7 0 (sF b 0 (upd (b 0) 0 (gmax 1 (gmin 4 6)))) (by omega) (by omega)
  have v6 : f_X6_battery o st b pf g hh 4 = (b 0 0, upd o 0 0, b', f_hadd o st b pf g hh) := by
    unfold f_X6_battery
    rw [if_neg (by decide), if_pos (by decide), q_gLp, q_gLp, q_gLp, ← i1]
    rfl
  refine ⟨_, v6.symm, ?_, rfl, rfl, ?_, ?_, rfl⟩
  · show ¬ b 0 0 < 1
    rw [eb]; exact Int32.not_lt.mpr (show nI 1 ≤ nI (N + 1) from nI_le (by omega) (by omega))
  · show b' 0 0 = 4
    rw [i3]; show gmax 1 (gmin 4 6) = 4; decide
  · show b' (1 + 0) 3 = 0
    rw [i4 0 3 (by omega), if_pos (by omega)]
theorem sc7 (cx : (Nat → Int32)) (o : (Nat → Int32)) (st : (Nat → Int32)) (b : (Nat → Nat → Int32)) (pf : (Nat → Nat → Int32)) (g : (Nat → Nat → Int32)) (so : (Nat → Int32)) (sst : (Nat → Int32)) (sb : (Nat → Nat → Int32)) (sp : (Nat → Nat → Int32)) (sg : (Nat → Nat → Int32)) (hh : HVal) (t : (Nat → Nat → Int32)) (hI : Iv cx o st b pf g so sst sb sp sg hh t) (h0 : b 0 0 = 4) (h1 : b 1 3 = 0) : ∃ R : Int32 × (Nat → Nat → Int32) × HVal, R = f_X6_setCharge o st b pf g hh 3 7 ∧ R.1 = 0 ∧ R.2.1 0 0 = 4 ∧ R.2.1 1 3 = 7 ∧ R.2.2 = hadd (o, st, b, pf, g) hh := by
  obtain ⟨mo, f, fw, fs, tx, hS, -, -, -⟩ := id hI
  obtain ⟨N, d, h6, d1, d2, e0, eb, ef, hC, hch⟩ := id hS.1
  have eh : f_X0_has b 3 = 1 := by unfold f_X0_has; rw [h0]; decide
  have hc : (7 : Int32) ≤ st 0 := by rw [e0]; exact (show nI 7 ≤ nI d from nI_le (by omega) (by omega))
  have v6 : f_X6_setCharge o st b pf g hh 3 7 = (b 1 3, sF (sF b 1 (upd (b 1) 3 7)) 2 (upd (b 2) 3 0), f_hadd o st b pf g hh) := by
    unfold f_X6_setCharge
    rw [eh, q_gLp, if_neg (by decide), if_neg (by decide), if_pos hc, q_gLp, show (3 : Int32).toNatClampNeg = 3 from rfl, if_neg (by rw [h1]; decide), q_gLp, q_gLp, q_gLp]
  exact ⟨_, v6.symm, h1, h0, rfl, rfl⟩
theorem ty_ok {t : Nat → Nat → Int32} {i : Nat} (h : t 0 0 = nI i) (hi : i < 60) (ch : Int32) : (f_X6_type t ch).1 = nI (i + 1) ∧ (f_X6_type t ch).2 0 0 = nI (i + 1) := by
  have e : f_X5_add t ch = sF (sF t 0 (upd (t 0) 0 (t 0 0 + 1))) 1 (upd (t 1) ((t 0 0).toNatClampNeg) (vp_nar .char ch)) := by
    unfold f_X5_add
    rw [if_neg (by rw [h]; exact nI_ge (b := 60) hi (by decide)), q_gLp]
  unfold f_X6_type
  rw [if_pos (by rw [h]; exact (show nI i < nI 60 from nI_lt (b := 60) hi (by decide))), q_gLp, e]
  have q : t 0 0 + 1 = nI (i + 1) := by rw [h, q_p1]
  exact ⟨q, q⟩
theorem ty_full {t : Nat → Nat → Int32} (h : t 0 0 = nI 60) (ch : Int32) : f_X6_type t ch = (-3, t) := by
  unfold f_X6_type
  rw [if_neg (by rw [h]; decide)]
theorem rest_ok {cx : Nat → Int32} (h : cx 0 = 1) (o st : Nat → Int32) (b pf g : Nat → Nat → Int32) (so sst : Nat → Int32) (sb sp sg : Nat → Nat → Int32) (hh : HVal) : f_X6_restore cx o st b pf g so sst sb sp sg hh = (so 3, so, sst, sb, sp, sg, hadd (o, st, b, pf, g) hh) := by
  unfold f_X6_restore
  rw [h, if_neg (by decide), q_gLp]
  rfl
theorem cell30 {b : Nat → Nat → Int32} (st : Nat → Int32) (h0 : b 0 0 = 4) : f_X6_cell st b 3 0 = b 1 3 := by
  have eh : f_X0_has b 3 = 1 := by unfold f_X0_has; rw [h0]; decide
  unfold f_X6_cell
  rw [eh, q_gLp, if_neg (by decide), if_pos rfl]
  rfl
def rok_undoN (hh : HVal) : Prop := ok_X6_undo hh ∧ (hh.1 = 0)
theorem re_undoN (o : (Nat → Int32)) (st : (Nat → Int32)) (b : (Nat → Nat → Int32)) (pf : (Nat → Nat → Int32)) (g : (Nat → Nat → Int32)) (hh : HVal) (h : hh.1 = 0) : f_X6_undo o st b pf g hh = ((-5), o, st, b, pf, g, hh) := by
  unfold f_X6_undo
  rw [if_pos (by rw [h]; rfl)]
theorem cr_undoN (l : Launch) (G : gG) (x : Nat → Nat) (cx : (Nat → Int32)) (o : (Nat → Int32)) (st : (Nat → Int32)) (b : (Nat → Nat → Int32)) (pf : (Nat → Nat → Int32)) (g : (Nat → Nat → Int32)) (hh : HVal) (hok : rok_undoN hh) : CT l G yX6_undo wsX6_undo 4 81 [.ref (x 0)] [CW G x cx, OW G (fun k => x (k + 1)) o, AW G (x 2) 9 st, BW G (fun k => x (k + 3)) b, PW G (fun k => x (k + 11)) pf, LW G (fun k => x (k + 16)) g, HGW G (fun k => x (k + 58)) hh] (some (.int (-5))) [CW G x cx, OW G (fun k => x (k + 1)) o, AW G (x 2) 9 st, BW G (fun k => x (k + 3)) b, PW G (fun k => x (k + 11)) pf, LW G (fun k => x (k + 16)) g, HGW G (fun k => x (k + 58)) hh] := by
  exact c_X6_undo l G x cx o st b pf g hh _ (re_undoN o st b pf g hh hok.2).symm hok.1
/-- what holds of the law's numbers between two acts: acts done so far, the state, the history, the text, the digests kept -/
def LI (B : Nat) (s : SVal) (hh : HVal) (t : Nat → Nat → Int32) (wf : Nat → Int64) : Prop := M4 (s.1 0) ∧ s.2.1 5 ≤ s.2.1 6 ∧ t 0 0 = nI 11 ∧ HI hh B wf
theorem LI_no {B : Nat} {s s' : SVal} {hh hh' : HVal} {t t' : Nat → Nat → Int32} {wf : Nat → Int64} {v : Int64} (h : LI B s hh t wf) (e1 : s' = s) (e2 : hh' = hh) (e3 : t' 0 0 = t 0 0) : LI B s' hh' t' (vp_updL wf B v) := by
  subst e1; subst e2
  exact ⟨h.1, h.2.1, e3.trans h.2.2.1, HI_fr h.2.2.2 (fun j hj => if_neg (by omega))⟩
theorem LI_do {B : Nat} {s s' : SVal} {hh hh' : HVal} {t t' : Nat → Nat → Int32} {wf : Nat → Int64} (h : LI B s hh t wf) (e2 : hh' = hadd s hh) (h1 : M4 (s'.1 0)) (h2 : s'.2.1 5 ≤ s'.2.1 6) (e3 : t' 0 0 = t 0 0) : LI (B + 1) s' hh' t' (vp_updL wf B (Fsn s)) := by
  subst e2
  exact ⟨h1, h2, e3.trans h.2.2.1, HI_add (HI_fr h.2.2.2 (fun j hj => if_neg (by omega))) (if_pos rfl).symm⟩
