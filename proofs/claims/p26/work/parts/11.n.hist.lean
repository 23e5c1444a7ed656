/-! PURE: copies and the history -/
theorem RL_fr2 {g : Nat → Nat → Int32} {f f' : Nat → Int32} (h : RL_ g f) (e : ∀ j, j < 112 → f' j = f j) : RL_ g f' := by
  obtain ⟨E, X, hE, hX, g0, g1, f81, hj⟩ := h
  exact ⟨E, X, hE, hX, g0, g1, (e 81 (by omega)).trans f81, fun j w a b => (hj j w a b).trans (e _ (by omega)).symm⟩
theorem RS_112 {o st f f' : Nat → Int32} {b pf g : Nat → Nat → Int32} (h : RS o st b pf g f) (e : ∀ j, j < 112 → f' j = f j) : RS o st b pf g f' :=
  ⟨RB_fr h.1 (fun j hj => e j (by omega)), RT_fr h.2.1 (fun j hj => e j (by omega)), RP_fr h.2.2.1 (fun j hj => e j (by omega)), RO_fr h.2.2.2.1 (fun j _ hj => e j (by omega)), RL_fr2 h.2.2.2.2 e⟩
def cpA (f w : Nat → Int32) (at_ x : Nat) : Nat → Int32 := fun j => if at_ + x ≤ j ∧ j < at_ + 112 then f (j - at_) else w j
theorem cpA_step (f w : Nat → Int32) (at_ x : Nat) (hx : x < 112) : cpA f (upd w (at_ + x) (f x)) at_ (x + 1) = cpA f w at_ x := by
  funext j
  unfold cpA
  rw [q_up]
  by_cases h : j = at_ + x
  · subst h
    rw [if_neg (by omega), if_pos rfl, if_pos (by omega), show at_ + x - at_ = x by omega]
  · by_cases h2 : at_ + x ≤ j ∧ j < at_ + 112
    · rw [if_pos (by omega), if_pos h2]
    · rw [if_neg (by omega), if_neg h, if_neg h2]
theorem p_copy112L {f : Nat → Int32} : ∀ n x (w : Nat → Int32), x ≤ 112 → 112 < x + n → fl_X7_copies112_2 0 f n (nI x) w = cpA f w 0 x ∧ okl_X7_copies112_2 0 f n (nI x) w := by
  intro n
  induction n with
  | zero => intro x w h1 h2; omega
  | succ n ih =>
    intro x w h1 h2
    rw [fl_X7_copies112_2, okl_X7_copies112_2]
    by_cases e : x = 112
    · subst e
      have hc : (112 : Int32) ≤ nI 112 := Int32.le_refl _
      rw [if_pos hc]
      refine ⟨?_, fun _ => trivial, fun q => absurd hc q⟩
      funext j
      unfold cpA
      rw [if_neg (by omega)]
    · have hc : ¬ (112 : Int32) ≤ nI x := nI_ge (b := 112) (by omega) (by omega)
      have hv : vp_in (nI x) 112 := q_in (by omega)
      have ez : (0 : Int32) + nI x = nI x := Int32.zero_add _
      obtain ⟨i1, i2⟩ := ih (x + 1) (upd w x (f x)) (by omega) (by omega)
      have es := cpA_step f w 0 x (by omega)
      rw [Nat.zero_add] at es
      rw [if_neg hc, ez, q_c (by omega), q_gLp, q_gLp, q_gLp, q_gLp, q_p1]
      exact ⟨i1.trans es, fun q => absurd q hc, fun _ => ⟨hv, hv, i2⟩⟩
theorem p_copy112 (f w : Nat → Int32) : f_X7_copies112 f w 0 = cpA f w 0 0 ∧ ok_X7_copies112 f w 0 := p_copy112L 113 0 w (by omega) (by omega)
theorem cpA_lo (f w : Nat → Int32) {at_ k : Nat} (h : k < 112) : cpA f w at_ 0 (at_ + k) = f k := by
  unfold cpA
  rw [if_pos (by omega), show at_ + k - at_ = k by omega]
theorem cpA_lo0 (f w : Nat → Int32) {k : Nat} (h : k < 112) : cpA f w 0 0 k = f k := by
  have := cpA_lo f w (at_ := 0) h
  rwa [Nat.zero_add] at this
theorem cpA_out (f w : Nat → Int32) {at_ j : Nat} (h : j < at_ ∨ at_ + 112 ≤ j) : cpA f w at_ 0 j = w j := by
  unfold cpA
  rw [if_neg (by omega)]
theorem p_copy448L {f : Nat → Int32} {a : Nat} (ha : a ≤ 336) : ∀ n x (w : Nat → Int32), x ≤ 112 → 112 < x + n → fl_X7_copies448_2 (nI a) f n (nI x) w = cpA f w a x ∧ okl_X7_copies448_2 (nI a) f n (nI x) w := by
  intro n
  induction n with
  | zero => intro x w h1 h2; omega
  | succ n ih =>
    intro x w h1 h2
    rw [fl_X7_copies448_2, okl_X7_copies448_2]
    by_cases e : x = 112
    · subst e
      have hc : (112 : Int32) ≤ nI 112 := Int32.le_refl _
      rw [if_pos hc]
      refine ⟨?_, fun _ => trivial, fun q => absurd hc q⟩
      funext j
      unfold cpA
      rw [if_neg (by omega)]
    · have hc : ¬ (112 : Int32) ≤ nI x := nI_ge (b := 112) (by omega) (by omega)
      have hv : vp_in (nI x) 112 := q_in (by omega)
      have hv2 : vp_in (nI (a + x)) 448 := vp_in_nI (by omega) (by omega)
      obtain ⟨i1, i2⟩ := ih (x + 1) (upd w (a + x) (f x)) (by omega) (by omega)
      have es := cpA_step f w a x (by omega)
      rw [if_neg hc, nI_add, q_c (by omega), q_c (by omega), q_gLp, q_gLp, q_gLp, q_gLp, q_p1]
      exact ⟨i1.trans es, fun q => absurd q hc, fun _ => ⟨hv, hv2, i2⟩⟩
theorem p_copy448 (f w : Nat → Int32) {a : Nat} (ha : a ≤ 336) : f_X7_copies448 f w (nI a) = cpA f w a 0 ∧ ok_X7_copies448 f w (nI a) := p_copy448L ha 113 0 w (by omega) (by omega)
def shA (w : Nat → Int32) (x : Nat) : Nat → Int32 := fun j => if x ≤ j ∧ j < 336 then w (j + 112) else w j
theorem shA_step (w : Nat → Int32) (x : Nat) (hx : x < 336) : shA (upd w x (w (x + 112))) (x + 1) = shA w x := by
  funext j
  unfold shA
  rw [q_up, q_up]
  by_cases h : j = x
  · subst h
    rw [if_neg (by omega), if_pos rfl, if_pos (by omega)]
  · by_cases h2 : x ≤ j ∧ j < 336
    · rw [if_pos (by omega), if_neg (by omega), if_pos h2]
    · rw [if_neg (by omega), if_neg h, if_neg h2]
theorem p_recL {mo f : Nat → Int32} (h0 : mo 0 = nI 4) : ∀ n x (w : Nat → Int32), x ≤ 336 → 336 < x + n → fl_X7_records_10 mo f n (nI x) w = (upd mo 0 (nI 4), cpA f (shA w x) 336 0) ∧ okl_X7_records_10 mo f n (nI x) w := by
  intro n
  induction n with
  | zero => intro x w h1 h2; omega
  | succ n ih =>
    intro x w h1 h2
    rw [fl_X7_records_10, okl_X7_records_10]
    by_cases e : x = 336
    · subst e
      have hc : (336 : Int32) ≤ nI 336 := Int32.le_refl _
      have e1 : (112 : Int32) * (mo 0 - 1) = nI 336 := by rw [h0]; rfl
      have e2 : mo 0 - 1 + 1 = nI 4 := by rw [h0]; rfl
      have es : shA w 336 = w := by
        funext j
        unfold shA
        rw [if_neg (by omega)]
      obtain ⟨i1, i2⟩ := p_copy448 f w (a := 336) (by omega)
      rw [if_pos hc, q_gLp, e1, e2, i1, es]
      exact ⟨rfl, fun _ => ⟨i2, trivial⟩, fun q => absurd hc q⟩
    · have hc : ¬ (336 : Int32) ≤ nI x := nI_ge (b := 336) (by omega) (by omega)
      have hv : vp_in (nI x) 448 := vp_in_nI (by omega) (by omega)
      have hv2 : vp_in (nI (x + 112)) 448 := vp_in_nI (by omega) (by omega)
      have ex : nI x + 112 = nI (x + 112) := nI_add x 112
      obtain ⟨i1, i2⟩ := ih (x + 1) (upd w x (w (x + 112))) (by omega) (by omega)
      rw [shA_step w x (by omega)] at i1
      rw [if_neg hc, ex, q_c (by omega), q_c (by omega), q_gLp, q_gLp, q_gLp, q_gLp, q_p1]
      exact ⟨i1, fun q => absurd q hc, fun _ => ⟨hv2, hv, i2⟩⟩
theorem p_records {o st f mo fw : Nat → Int32} {b pf g : Nat → Nat → Int32} {hh : HVal} (h : RS o st b pf g f) (hH : RH hh mo fw) : RH (f_hadd o st b pf g hh) (f_X7_records mo f fw).1 (f_X7_records mo f fw).2 ∧ ok_hadd o hh ∧ ok_X7_records mo f fw ∧ (f_X7_records mo f fw).1 1 = mo 1 ∧ (f_X7_records mo f fw).1 2 = mo 2 := by
  obtain ⟨h4, hz, hm, hj⟩ := hH
  have hok : ok_hadd o hh := ⟨h4, hz, h.2.2.2.1.2.2.2.2.2.2.2.2.1, trivial⟩
  by_cases e : hh.1 = 4
  · have hm4 : mo 0 = nI 4 := by rw [hm, e]
    have hc : mo 0 = 4 := hm4
    obtain ⟨i1, i2⟩ := p_recL (f := f) hm4 337 0 fw (by omega) (by omega)
    have er : f_X7_records mo f fw = (upd mo 0 (nI 4), cpA f (shA fw 0) 336 0) := by
      unfold f_X7_records
      rw [if_pos hc]
      exact i1
    refine ⟨?_, hok, ⟨fun _ => i2, fun q => absurd hc q⟩, by rw [er]; rfl, by rw [er]; rfl⟩
    rw [er]
    unfold f_hadd
    rw [if_pos e]
    refine ⟨by show 4 ≤ 4; omega, Nat.mod_lt _ (by omega), rfl, fun j hj4 => ?_⟩
    have hj4' : j < 4 := hj4
    by_cases j3 : j = 3
    · subst j3
      show RSv (if 3 = 3 then (o, st, b, pf, g) else hh.2.2 (3 + 1)) _
      rw [if_pos rfl]
      exact RS_112 h (fun k hk => cpA_lo f _ hk)
    · show RSv (if j = 3 then (o, st, b, pf, g) else hh.2.2 (j + 1)) _
      rw [if_neg j3]
      refine RS_112 (hj (j + 1) (by omega)) (fun k hk => ?_)
      show cpA f (shA fw 0) 336 0 (112 * j + k) = fw (112 * (j + 1) + k)
      rw [cpA_out _ _ (by omega)]
      unfold shA
      rw [if_pos (by omega), show 112 * j + k + 112 = 112 * (j + 1) + k by omega]
  · have hc : ¬ mo 0 = 4 := by
      rw [hm]
      intro q
      exact e ((nI_eq (b := 4) (by omega) (by omega)).mp q)
    obtain ⟨i1, i2⟩ := p_copy448 f fw (a := 112 * hh.1) (by omega)
    have em : (112 : Int32) * mo 0 = nI (112 * hh.1) := by rw [hm]; exact pk_mul 112 hh.1
    have er : f_X7_records mo f fw = (upd mo 0 (nI (hh.1 + 1)), cpA f fw (112 * hh.1) 0) := by
      unfold f_X7_records
      rw [if_neg hc, q_gLp, em, i1, hm, q_p1]
    refine ⟨?_, hok, ⟨fun q => absurd q hc, fun _ => ⟨by rw [em]; exact i2, trivial⟩⟩, by rw [er]; rfl, by rw [er]; rfl⟩
    rw [er]
    unfold f_hadd
    rw [if_neg e]
    refine ⟨by show hh.1 + 1 ≤ 4; omega, hz, rfl, fun j hj4 => ?_⟩
    have hj4' : j < hh.1 + 1 := hj4
    by_cases j3 : j = hh.1
    · show RSv (if j = hh.1 then (o, st, b, pf, g) else hh.2.2 j) _
      rw [if_pos j3]
      refine RS_112 h (fun k hk => ?_)
      rw [j3]
      exact cpA_lo f _ hk
    · show RSv (if j = hh.1 then (o, st, b, pf, g) else hh.2.2 j) _
      rw [if_neg j3]
      refine RS_112 (hj j (by omega)) (fun k hk => ?_)
      exact cpA_out _ _ (by omega)
theorem Rel_rec {cx o st : Nat → Int32} {b pf g : Nat → Nat → Int32} {so sst : Nat → Int32} {sb sp sg : Nat → Nat → Int32} {hh : HVal} {t : Nat → Nat → Int32} {mo f fw fs tx : Nat → Int32} {o' st' : Nat → Int32} {b' pf' g' : Nat → Nat → Int32} {f' : Nat → Int32} (h : Rel cx o st b pf g so sst sb sp sg hh t mo f fw fs tx) (h' : RS o' st' b' pf' g' f') : Rel cx o' st' b' pf' g' so sst sb sp sg (f_hadd o st b pf g hh) t (f_X7_records mo f fw).1 f' (f_X7_records mo f fw).2 fs tx := by
  obtain ⟨hS, hH, hN, n, n1, n2, n3, n4⟩ := h
  obtain ⟨i1, i2, i3, i4, i5⟩ := p_records hS hH
  exact ⟨h', i1, ⟨hN.1, i4.trans hN.2.1, hN.2.2⟩, ⟨n, n1, n2, i5.trans n3, n4⟩⟩
theorem Rel_now {cx o st : Nat → Int32} {b pf g : Nat → Nat → Int32} {so sst : Nat → Int32} {sb sp sg : Nat → Nat → Int32} {hh : HVal} {t : Nat → Nat → Int32} {mo f fw fs tx : Nat → Int32} (h : Rel cx o st b pf g so sst sb sp sg hh t mo f fw fs tx) : RS o st b pf g f ∧ ok_hadd o hh ∧ ok_X7_records mo f fw := by
  obtain ⟨i1, i2, i3, i4, i5⟩ := p_records h.1 h.2.1
  exact ⟨h.1, i2, i3⟩
