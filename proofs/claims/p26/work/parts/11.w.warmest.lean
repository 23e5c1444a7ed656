/-! PURE: warmest -/
theorem q_dec {x : Int32} (h1 : -100 ≤ x.toInt) (h2 : x.toInt ≤ 100) : (x + (-1)).toInt = x.toInt - 1 := by
  rw [Int32.toInt_add, show (-1 : Int32).toInt = -1 by decide]
  rw [Int.bmod_eq_of_le (by omega) (by omega)]
  rfl
theorem p_warmL {o st f : Nat → Int32} {b pf g : Nat → Nat → Int32} (h : RS o st b pf g f) : ∀ (n n' : Nat) (x : Int32) (fo fst : Nat → Int32) (fb fp fg : Nat → Nat → Int32) (ft : Nat → Int32), -31 ≤ x.toInt → x.toInt ≤ 80 → x.toInt + 31 < n → x.toInt + 31 < n' →
    (fl_X6_warmest_35 o st b pf g (st 5) n x fo fst fb fp fg).1 = (fl_X7_warmest_22 f n' x ft).1 ∧ okl_X6_warmest_35 o st b pf g (st 5) n x fo fst fb fp fg ∧ okl_X7_warmest_22 f n' x ft := by
  have h47 : f 47 = st 5 := (h.2.1 5 (by omega)).1.symm
  have h5 : -30 ≤ st 5 := (h.2.1 5 (by omega)).2.1
  have hcp : ok_X4_copyFrom o := ⟨h.2.2.2.1.2.2.2.2.2.2.2.2.1, trivial⟩
  intro n
  induction n with
  | zero => intro n' x fo fst fb fp fg ft h1 h2 h3 h4; omega
  | succ n ih =>
    intro n' x fo fst fb fp fg ft h1 h2 h3 h4
    obtain ⟨n', rfl⟩ : ∃ m, n' = m + 1 := ⟨n' - 1, by omega⟩
    rw [fl_X6_warmest_35, okl_X6_warmest_35, fl_X7_warmest_22, okl_X7_warmest_22, h47]
    by_cases hc : x < st 5
    · rw [if_pos hc, if_pos hc]
      exact ⟨rfl, ⟨fun _ => trivial, fun q => absurd hc q⟩, ⟨fun _ => trivial, fun q => absurd hc q⟩⟩
    · have hx1 : -30 ≤ x := Int32.le_trans h5 (Int32.not_lt.mp hc)
      have hx2 : x ≤ 80 := Int32.le_iff_toInt_le.mpr h2
      have hx3 : -30 ≤ x.toInt := Int32.le_iff_toInt_le.mp hx1
      obtain ⟨c1, c2⟩ := p_copy112 f ft
      have hz0 : RS o st b pf g (f_X7_copies112 f ft 0) := by rw [c1]; exact RS_112 h (fun j hj => cpA_lo0 f ft hj)
      have hz : RS o (upd st 3 x) b pf g (upd (f_X7_copies112 f ft 0) 45 x) := RS_set (w := 3) hz0 (by omega) hx1 hx2 (fun q => absurd q (by omega))
      obtain ⟨r1, r2, r3, r4⟩ := p_runs (P := 500) (by omega) 2001 1 o b g _ (by omega) (by omega) (by omega) hz
      have r1' : (f_X4_runUntilDone o (upd st 3 x) b pf g 500).1 = (f_X7_doneBy (upd (f_X7_copies112 f ft 0) 45 x) 500).1 := r1
      have r2' : ok_X4_runUntilDone o (upd st 3 x) b pf g 500 := r2
      have r3' : ok_X7_doneBy (upd (f_X7_copies112 f ft 0) 45 x) 500 := r3
      have r4' : (f_X7_doneBy (upd (f_X7_copies112 f ft 0) 45 x) 500).1 = -5 ∨ ∃ y : Nat, 1 ≤ y ∧ y ≤ 2000 ∧ (f_X7_doneBy (upd (f_X7_copies112 f ft 0) 45 x) 500).1 = nI y := r4
      rw [if_neg hc, if_neg hc, q_gLp, q_gLp, q_gLp, q_gLp, q_gLp]
      rcases r4' with e | ⟨y, y1, y2, e⟩
      · have d1 : (f_X4_runUntilDone o (upd st 3 x) b pf g 500).1 = -5 := r1'.trans e
        have d2 : (f_X7_doneBy (upd (f_X7_copies112 f ft 0) 45 x) 500).1 ≤ 0 := by rw [e]; decide
        have dx := q_dec (x := x) (by omega) (by omega)
        obtain ⟨i1, i2, i3⟩ := ih n' (x + (-1)) (f_X4_runUntilDone o (upd st 3 x) b pf g 500).2.1 (upd st 3 x) (f_X4_runUntilDone o (upd st 3 x) b pf g 500).2.2.1 pf (f_X4_runUntilDone o (upd st 3 x) b pf g 500).2.2.2 (f_X7_doneBy (upd (f_X7_copies112 f ft 0) 45 x) 500).2 (by omega) (by omega) (by omega) (by omega)
        rw [if_pos d1, q_gLp, if_pos d2, q_gLp]
        exact ⟨i1, ⟨fun q => absurd q hc, fun _ => ⟨hcp, r2', fun _ => i2, fun q => absurd d1 q⟩⟩, ⟨fun q => absurd q hc, fun _ => ⟨c2, r3', fun _ => i3, fun q => absurd d2 q⟩⟩⟩
      · have d1 : ¬ (f_X4_runUntilDone o (upd st 3 x) b pf g 500).1 = -5 := by
          rw [r1', e]
          intro hh
          have := congrArg Int32.toInt hh
          rw [nI_toInt (by omega)] at this
          have e9 : (-5 : Int32).toInt = -5 := by decide
          omega
        have d2 : ¬ (f_X7_doneBy (upd (f_X7_copies112 f ft 0) 45 x) 500).1 ≤ 0 := by rw [e]; exact nI_nle (by omega) (by omega)
        rw [if_neg d1, q_gLp, if_neg d2]
        exact ⟨rfl, ⟨fun q => absurd q hc, fun _ => ⟨hcp, r2', fun q => absurd q d1, fun _ => trivial⟩⟩, ⟨fun q => absurd q hc, fun _ => ⟨c2, r3', fun q => absurd q d2, fun _ => trivial⟩⟩⟩
theorem pu_warmest (cx : (Nat → Int32)) (o : (Nat → Int32)) (st : (Nat → Int32)) (b : (Nat → Nat → Int32)) (pf : (Nat → Nat → Int32)) (g : (Nat → Nat → Int32)) (fo : (Nat → Int32)) (fst : (Nat → Int32)) (fb : (Nat → Nat → Int32)) (fp : (Nat → Nat → Int32)) (fg : (Nat → Nat → Int32)) (so : (Nat → Int32)) (sst : (Nat → Int32)) (sb : (Nat → Nat → Int32)) (sp : (Nat → Nat → Int32)) (sg : (Nat → Nat → Int32)) (hh : HVal) (t : (Nat → Nat → Int32)) (mo : (Nat → Int32)) (f : (Nat → Int32)) (ft : (Nat → Int32)) (fw : (Nat → Int32)) (fs : (Nat → Int32)) (tx : (Nat → Int32)) (h : Rel cx o st b pf g so sst sb sp sg hh t mo f fw fs tx) : (ok_X6_warmest o st b pf g fo fst fb fp fg) ∧ (ok_X7_warmest f ft) ∧ (f_X6_warmest o st b pf g fo fst fb fp fg).1 = (f_X7_warmest f ft).1 ∧ Rel cx o st b pf g so sst sb sp sg hh t mo f fw fs tx := by
  obtain ⟨hS, k1, k2⟩ := Rel_now h
  have e0 : o 0 = f 73 := hS.2.2.2.1.1
  suffices hh' : ok_X6_warmest o st b pf g fo fst fb fp fg ∧ ok_X7_warmest f ft ∧ (f_X6_warmest o st b pf g fo fst fb fp fg).1 = (f_X7_warmest f ft).1 from ⟨hh'.1, hh'.2.1, hh'.2.2, h⟩
  unfold ok_X6_warmest ok_X7_warmest f_X6_warmest f_X7_warmest
  by_cases h1 : o 0 = 1
  · have h1' : f 73 = 1 := e0.symm.trans h1
    obtain ⟨e48, b1, b2⟩ := hS.2.1 6 (by omega)
    have t1 : (-30 : Int) ≤ (st 6).toInt := Int32.le_iff_toInt_le.mp b1
    have t2 : (st 6).toInt ≤ 80 := Int32.le_iff_toInt_le.mp b2
    obtain ⟨i1, i2, i3⟩ := p_warmL hS 113 112 (st 6) fo fst fb fp fg ft (by omega) (by omega) (by omega) (by omega)
    have e48' : f 48 = st 6 := e48.symm
    rw [if_pos h1, if_pos h1', q_gLp, q_gLp, e48', q_gLp, q_gLp, q_gLp, q_gLp]
    exact ⟨⟨fun _ => i2, fun q => absurd h1 q⟩, ⟨fun _ => i3, fun q => absurd h1' q⟩, i1⟩
  · have h1' : ¬ f 73 = 1 := fun q => h1 (e0.trans q)
    rw [if_neg h1, if_neg h1']
    exact ⟨⟨fun q => absurd q h1, fun _ => trivial⟩, ⟨fun q => absurd q h1', fun _ => trivial⟩, rfl⟩
