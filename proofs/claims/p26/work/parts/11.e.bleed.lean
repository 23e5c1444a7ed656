/-! PURE: bleeding -/
def blS (f : Nat → Int32) (c : Nat) (x : Int32) : Nat → Int32 := upd (upd f (7 * c) (f (7 * c) - x)) (7 * c + 5) (f (7 * c + 5) + x)
def blX (f : Nat → Int32) (c : Nat) (R1 : Int32) : Int32 := if bs (ch f c) (f 42) - R1 ≤ f 49 then 0 else if ch f c ≤ f 50 then ch f c else f 50
theorem p_bleedStep {f : Nat → Int32} {N d c : Nat} (R1 : Int32) (n : Nat) (hG : RG f N d) (hc : c ≤ N) : fl_X7_bleeds_7 R1 (n + 1) (nI c) f = fl_X7_bleeds_7 R1 n (nI (c + 1)) (blS f c (blX f c R1)) ∧ (okl_X7_bleeds_7 R1 n (nI (c + 1)) (blS f c (blX f c R1)) → okl_X7_bleeds_7 R1 (n + 1) (nI c) f) := by
  have h6 := hG.2.1
  have h : ¬ nI (N + 1) ≤ nI c := nI_ge (by omega) (by omega)
  obtain ⟨a1, a2⟩ := p_of (f := f) (show c < 6 by omega)
  obtain ⟨b1, b2⟩ := p_base hG (show c < 6 by omega)
  have c0 : (nI (7 * c)).toNatClampNeg = 7 * c := q_c (by omega)
  have c5 : (nI (7 * c + 5)).toNatClampNeg = 7 * c + 5 := q_c (by omega)
  have g0 : vp_in (nI (7 * c)) 112 := q_in (by omega)
  have g5 : vp_in (nI (7 * c + 5)) 112 := q_in (by omega)
  have e5 : ¬ 7 * c + 5 = 7 * c := by omega
  have key : ∀ x : Int32, upd (upd f (7 * c) (f (7 * c) - x)) (7 * c + 5) (upd f (7 * c) (f (7 * c) - x) (7 * c + 5) + x) = blS f c x := by
    intro x
    unfold blS
    rw [q_up f (7 * c) (f (7 * c) - x) (7 * c + 5), if_neg e5]
  rw [fl_X7_bleeds_7, okl_X7_bleeds_7, hG.1, if_neg h]
  simp only [q_7, q_p0, q_p5, c0, c5, a1, b1]
  simp only [q_gL, key, q_p1]
  unfold blX
  by_cases h1 : bs (ch f c) (f 42) - R1 ≤ f 49
  · simp only [if_pos h1]
    exact ⟨trivial, fun k => ⟨fun q => absurd q h, fun _ => ⟨a2, b2, fun _ => ⟨g0, g0, g5, g5, k⟩, fun q => absurd h1 q⟩⟩⟩
  · simp only [if_neg h1]
    by_cases h2 : ch f c ≤ f 50
    · simp only [if_pos h2]
      exact ⟨trivial, fun k => ⟨fun q => absurd q h, fun _ => ⟨a2, b2, fun q => absurd q h1, fun _ => ⟨fun _ => ⟨g0, g0, g5, g5, k⟩, fun q => absurd h2 q⟩⟩⟩⟩
    · simp only [if_neg h2]
      exact ⟨trivial, fun k => ⟨fun q => absurd q h, fun _ => ⟨a2, b2, fun q => absurd q h1, fun _ => ⟨fun q => absurd q h2, fun _ => ⟨g0, g0, g5, g5, k⟩⟩⟩⟩⟩
def blB (b : Nat → Nat → Int32) (c : Nat) (x : Int32) : Nat → Nat → Int32 := sF (sF b 1 (upd (b 1) c (b 1 c - x))) 6 (upd (b 6) c (b 6 c + x))
def blN (b : Nat → Nat → Int32) (c : Nat) (p1 p3 v5 : Int32) : Nat → Nat → Int32 := if bs (b 1 c) p3 ≤ v5 then b else blB b c (gmin p1 (b 1 c))
theorem p_loseStep {b : Nat → Nat → Int32} {N d c : Nat} (p1 v5 : Int32) (n : Nat) (h0 : b 0 0 = nI (N + 1)) (h6 : N + 1 ≤ 6) (d1 : 100 ≤ d) (d2 : d ≤ 5000) (hc : c ≤ N) : fl_X0_loseTo_15 p1 (nI d) v5 (n + 1) (nI c) b = fl_X0_loseTo_15 p1 (nI d) v5 n (nI (c + 1)) (blN b c p1 (nI d) v5) ∧ (okl_X0_loseTo_15 p1 (nI d) v5 n (nI (c + 1)) (blN b c p1 (nI d) v5) → okl_X0_loseTo_15 p1 (nI d) v5 (n + 1) (nI c) b) := by
  have h : ¬ nI (N + 1) ≤ nI c := nI_ge (by omega) (by omega)
  have hv : vp_in (nI c) 6 := vp_in_nI (by omega) (by omega)
  obtain ⟨b1, b2⟩ := p_baseX (x := b 1 c) d1 d2
  rw [fl_X0_loseTo_15, okl_X0_loseTo_15, h0, if_neg h]
  simp only [q_gL, q_c (show c < 2 ^ 31 by omega), q_p1, b1]
  unfold blN
  by_cases h1 : bs (b 1 c) (nI d) ≤ v5
  · simp only [if_pos h1]
    exact ⟨trivial, fun k => ⟨fun q => absurd q h, fun _ => ⟨hv, b2, fun _ => k, fun q => absurd h1 q⟩⟩⟩
  · simp only [if_neg h1]
    exact ⟨rfl, fun k => ⟨fun q => absurd q h, fun _ => ⟨hv, b2, fun q => absurd q h1, fun _ => ⟨hv, hv, hv, hv, hv, k⟩⟩⟩⟩
theorem gmin_comm (a b : Nat) (ha : a < 2 ^ 31) (hb : b < 2 ^ 31) : gmin (nI a) (nI b) = gmin (nI b) (nI a) := by rw [gmin_nI a b ha hb, gmin_nI b a hb ha, Nat.min_comm]
theorem q_thr {x m t : Nat} (hx : x < 2 ^ 29) (hm : m < 2 ^ 29) (ht : t < 2 ^ 29) : nI x - nI m ≤ nI t ↔ nI x ≤ nI (m + t) := by
  rw [Int32.le_iff_toInt_le, pk_sub_toInt (by omega) (by omega), nI_toInt (by omega), nI_leI (by omega) (by omega)]
  omega
theorem blS_j (f : Nat → Int32) (c : Nat) (x : Int32) (j : Nat) : blS f c x j = if j = 7 * c + 5 then f (7 * c + 5) + x else if j = 7 * c then f (7 * c) - x else f j := rfl
theorem p_bleed1 {b : Nat → Nat → Int32} {f : Nat → Int32} {N d m t lb c : Nat} (hG : RG f N d) (hR : RC b f) (hB : RN_ b N d) (hm : m ≤ 70000) (ht : t ≤ 500) (hl : lb ≤ 50) (h49 : f 49 = nI t) (h50 : f 50 = nI lb) (hc : c ≤ N) :
    RC (blN b c (nI lb) (nI d) (nI (m + t))) (blS f c (blX f c (nI m))) ∧ RN_ (blN b c (nI lb) (nI d) (nI (m + t))) N d ∧ (blN b c (nI lb) (nI d) (nI (m + t))) 0 = b 0 ∧ (∀ j, 42 ≤ j → blS f c (blX f c (nI m)) j = f j) ∧ (lb = 0 → RC b (blS f c (blX f c (nI m)))) := by
  obtain ⟨hN, h6, h42, d1, d2, hch⟩ := hG
  obtain ⟨a, r, ha, hr, ea, er⟩ := hB c hc
  have f0 : ch f c = nI a := by unfold ch; rw [← ea]; exact (hR c 0 (by omega) (by omega)).symm
  have l1 := bs_lt (d := d) (show a ≤ 5000 by omega) d1
  have hcond : bs (ch f c) (f 42) - nI m ≤ f 49 ↔ bs (b 1 c) (nI d) ≤ nI (m + t) := by
    rw [f0, h42, ea, h49, bs_nI (by omega) d1 d2, q_thr (by omega) (by omega) (by omega)]
  have hX : blX f c (nI m) = if bs (b 1 c) (nI d) ≤ nI (m + t) then 0 else gmin (nI lb) (b 1 c) := by
    unfold blX
    by_cases h : bs (b 1 c) (nI d) ≤ nI (m + t)
    · rw [if_pos h, if_pos (hcond.mpr h)]
    · rw [if_neg h, if_neg (fun q => h (hcond.mp q)), g_min, f0, h50, ea, gmin_comm a lb (by omega) (by omega)]
  have hlz : lb = 0 → blX f c (nI m) = 0 := by
    intro z
    rw [hX, ea, z, gmin_nI 0 a (by omega) (by omega), Nat.zero_min]
    by_cases h : bs (nI a) (nI d) ≤ nI (m + t)
    · rw [if_pos h]
    · rw [if_neg h]; rfl
  have hbig : ∀ j, 42 ≤ j → blS f c (blX f c (nI m)) j = f j := fun j hj => by
    rw [blS_j, if_neg (show ¬ j = 7 * c + 5 by omega), if_neg (show ¬ j = 7 * c by omega)]
  have hzero : blX f c (nI m) = 0 → RC b (blS f c (blX f c (nI m))) := by
    intro z c' w hc' hw
    rw [z, blS_j, Int32.add_zero, Int32.sub_zero, hR c' w hc' hw]
    by_cases e1 : 7 * c' + w = 7 * c + 5
    · rw [if_pos e1, e1]
    · rw [if_neg e1]
      by_cases e2 : 7 * c' + w = 7 * c
      · rw [if_pos e2, e2]
      · rw [if_neg e2]
  refine ⟨?_, ?_, ?_, hbig, fun z => hzero (hlz z)⟩
  · by_cases h : bs (b 1 c) (nI d) ≤ nI (m + t)
    · have e : blN b c (nI lb) (nI d) (nI (m + t)) = b := by unfold blN; rw [if_pos h]
      rw [e]
      exact hzero (by rw [hX, if_pos h])
    · have e : blN b c (nI lb) (nI d) (nI (m + t)) = blB b c (blX f c (nI m)) := by unfold blN; rw [if_neg h, hX, if_neg h]
      rw [e]
      intro c' w hc' hw
      by_cases e1 : c' = c
      · subst e1
        have R0 := hR c' 0 hc' (by omega)
        have R5 := hR c' 5 hc' (by omega)
        have R := hR c' w hc' hw
        rw [blS_j]
        rcases (show w = 0 ∨ w = 1 ∨ w = 2 ∨ w = 3 ∨ w = 4 ∨ w = 5 ∨ w = 6 by omega) with rfl | rfl | rfl | rfl | rfl | rfl | rfl
        · have R0' : b 1 c' = f (7 * c') := R0
          simp [blB, q_sF, q_up, R0']
        · simp [blB, q_sF, q_up]; exact R
        · simp [blB, q_sF, q_up]; exact R
        · simp [blB, q_sF, q_up]; exact R
        · simp [blB, q_sF, q_up]; exact R
        · have R5' : b 6 c' = f (7 * c' + 5) := R5
          simp [blB, q_sF, q_up, R5']
        · simp [blB, q_sF, q_up]; exact R
      · rw [blS_j, if_neg (show ¬ 7 * c' + w = 7 * c + 5 by omega), if_neg (show ¬ 7 * c' + w = 7 * c by omega), ← hR c' w hc' hw]
        rcases (show w = 0 ∨ w = 1 ∨ w = 2 ∨ w = 3 ∨ w = 4 ∨ w = 5 ∨ w = 6 by omega) with rfl | rfl | rfl | rfl | rfl | rfl | rfl <;> simp [blB, q_sF, q_up, e1]
  · intro c' hc'
    obtain ⟨a', r', g1, g2, g3, g4⟩ := hB c' hc'
    unfold blN
    by_cases h : bs (b 1 c) (nI d) ≤ nI (m + t)
    · rw [if_pos h]; exact ⟨a', r', g1, g2, g3, g4⟩
    · rw [if_neg h]
      by_cases e1 : c' = c
      · subst e1
        refine ⟨a - min lb a, r, by omega, by omega, ?_, ?_⟩
        · have e2 : blB b c' (gmin (nI lb) (b 1 c')) 1 c' = b 1 c' - gmin (nI lb) (b 1 c') := by simp [blB, q_sF, q_up]
          rw [e2, ea, gmin_nI lb a (by omega) (by omega), q_sub (Nat.min_le_right _ _)]
        · have e2 : blB b c' (gmin (nI lb) (b 1 c')) 2 c' = b 2 c' := by simp [blB, q_sF, q_up]
          rw [e2]; exact er
      · refine ⟨a', r', g1, g2, ?_, ?_⟩
        · rw [← g3]; simp [blB, q_sF, q_up, e1]
        · rw [← g4]; simp [blB, q_sF, q_up]
  · unfold blN
    by_cases h : bs (b 1 c) (nI d) ≤ nI (m + t)
    · rw [if_pos h]
    · rw [if_neg h]; rfl
theorem RG_of {b : Nat → Nat → Int32} {f : Nat → Int32} {N d : Nat} (h6 : N + 1 ≤ 6) (d1 : 100 ≤ d) (d2 : d ≤ 5000) (h71 : f 71 = nI (N + 1)) (h42 : f 42 = nI d) (hR : RC b f) (hB : RN_ b N d) : RG f N d := by
  refine ⟨h71, h6, h42, d1, d2, fun c hc => ?_⟩
  obtain ⟨a, r, ha, -, ea, -⟩ := hB c hc
  exact ⟨a, ha, by unfold ch; rw [← ea]; exact (hR c 0 (by omega) (by omega)).symm⟩
theorem p_bleedLoop {N d m t lb : Nat} (d1 : 100 ≤ d) (d2 : d ≤ 5000) (hm : m ≤ 70000) (ht : t ≤ 500) (hl : lb ≤ 50) (h6 : N + 1 ≤ 6) : ∀ (k c n n' : Nat) (b : Nat → Nat → Int32) (f : Nat → Int32), c + k = N + 1 → k < n → k < n' → b 0 0 = nI (N + 1) → f 71 = nI (N + 1) → f 42 = nI d → RC b f → RN_ b N d → f 49 = nI t → f 50 = nI lb →
    ∃ (b' : Nat → Nat → Int32) (f' : Nat → Int32), fl_X0_loseTo_15 (nI lb) (nI d) (nI (m + t)) n (nI c) b = b' ∧ okl_X0_loseTo_15 (nI lb) (nI d) (nI (m + t)) n (nI c) b ∧ fl_X7_bleeds_7 (nI m) n' (nI c) f = f' ∧ okl_X7_bleeds_7 (nI m) n' (nI c) f ∧ RC b' f' ∧ RN_ b' N d ∧ b' 0 = b 0 ∧ ∀ j, 42 ≤ j → f' j = f j := by
  intro k
  induction k with
  | zero =>
    intro c n n' b f hc hn hn' h0 h71 h42 hR hB h49 h50
    obtain ⟨n, rfl⟩ : ∃ m, n = m + 1 := ⟨n - 1, by omega⟩
    obtain ⟨n', rfl⟩ : ∃ m, n' = m + 1 := ⟨n' - 1, by omega⟩
    have hcN : c = N + 1 := by omega
    subst hcN
    have h : b 0 0 ≤ nI (N + 1) := by rw [h0]; exact Int32.le_refl _
    have h' : f 71 ≤ nI (N + 1) := by rw [h71]; exact Int32.le_refl _
    refine ⟨b, f, ?_, ?_, ?_, ?_, hR, hB, rfl, fun _ _ => rfl⟩
    · rw [fl_X0_loseTo_15, if_pos h]
    · rw [okl_X0_loseTo_15]; exact ⟨fun _ => trivial, fun q => absurd h q⟩
    · rw [fl_X7_bleeds_7, if_pos h']
    · rw [okl_X7_bleeds_7]; exact ⟨fun _ => trivial, fun q => absurd h' q⟩
  | succ k ih =>
    intro c n n' b f hc hn hn' h0 h71 h42 hR hB h49 h50
    obtain ⟨n, rfl⟩ : ∃ m, n = m + 1 := ⟨n - 1, by omega⟩
    obtain ⟨n', rfl⟩ : ∃ m, n' = m + 1 := ⟨n' - 1, by omega⟩
    have hG := RG_of h6 d1 d2 h71 h42 hR hB
    obtain ⟨s1, s2⟩ := p_loseStep (nI lb) (nI (m + t)) n h0 h6 d1 d2 (show c ≤ N by omega)
    obtain ⟨t1, t2⟩ := p_bleedStep (nI m) n' hG (show c ≤ N by omega)
    obtain ⟨r1, r2, r3, r4, -⟩ := p_bleed1 hG hR hB hm ht hl h49 h50 (show c ≤ N by omega)
    obtain ⟨b', f', i1, i2, i3, i4, i5, i6, i7, i8⟩ := ih (c + 1) n n' _ _ (by omega) (by omega) (by omega) (by rw [r3]; exact h0) (by rw [r4 71 (by omega)]; exact h71) (by rw [r4 42 (by omega)]; exact h42) r1 r2 (by rw [r4 49 (by omega)]; exact h49) (by rw [r4 50 (by omega)]; exact h50)
    exact ⟨b', f', by rw [s1]; exact i1, s2 i2, by rw [t1]; exact i3, t2 i4, i5, i6, by rw [i7, r3], fun j hj => by rw [i8 j hj, r4 j hj]⟩
/-- no bleeding: the reference's rows stay -/
theorem p_bleedNone {N d m t : Nat} (d1 : 100 ≤ d) (d2 : d ≤ 5000) (hm : m ≤ 70000) (ht : t ≤ 500) (h6 : N + 1 ≤ 6) (b : Nat → Nat → Int32) (hB : RN_ b N d) : ∀ (k c n' : Nat) (f : Nat → Int32), c + k = N + 1 → k < n' → f 71 = nI (N + 1) → f 42 = nI d → RC b f → f 49 = nI t → f 50 = nI 0 →
    ∃ f' : Nat → Int32, fl_X7_bleeds_7 (nI m) n' (nI c) f = f' ∧ okl_X7_bleeds_7 (nI m) n' (nI c) f ∧ RC b f' ∧ ∀ j, 42 ≤ j → f' j = f j := by
  intro k
  induction k with
  | zero =>
    intro c n' f hc hn' h71 h42 hR h49 h50
    obtain ⟨n', rfl⟩ : ∃ m, n' = m + 1 := ⟨n' - 1, by omega⟩
    have hcN : c = N + 1 := by omega
    subst hcN
    have h' : f 71 ≤ nI (N + 1) := by rw [h71]; exact Int32.le_refl _
    refine ⟨f, ?_, ?_, hR, fun _ _ => rfl⟩
    · rw [fl_X7_bleeds_7, if_pos h']
    · rw [okl_X7_bleeds_7]; exact ⟨fun _ => trivial, fun q => absurd h' q⟩
  | succ k ih =>
    intro c n' f hc hn' h71 h42 hR h49 h50
    obtain ⟨n', rfl⟩ : ∃ m, n' = m + 1 := ⟨n' - 1, by omega⟩
    have hG := RG_of h6 d1 d2 h71 h42 hR hB
    obtain ⟨t1, t2⟩ := p_bleedStep (nI m) n' hG (show c ≤ N by omega)
    obtain ⟨-, -, -, r4, r5⟩ := p_bleed1 hG hR hB hm ht (show 0 ≤ 50 by omega) h49 h50 (show c ≤ N by omega)
    obtain ⟨f', i3, i4, i5, i8⟩ := ih (c + 1) n' _ (by omega) (by omega) (by rw [r4 71 (by omega)]; exact h71) (by rw [r4 42 (by omega)]; exact h42) (r5 rfl) (by rw [r4 49 (by omega)]; exact h49) (by rw [r4 50 (by omega)]; exact h50)
    exact ⟨f', by rw [t1]; exact i3, t2 i4, i5, fun j hj => by rw [i8 j hj, r4 j hj]⟩
/-- bleeding, both sides: the class skips it when nothing is bled -/
theorem p_bleed {st : Nat → Int32} {b : Nat → Nat → Int32} {f : Nat → Int32} {N d t lb : Nat} (h6 : N + 1 ≤ 6) (d1 : 100 ≤ d) (d2 : d ≤ 5000) (ht : t ≤ 500) (hl : lb ≤ 50) (h0 : b 0 0 = nI (N + 1)) (h71 : f 71 = nI (N + 1)) (s0 : st 0 = nI d) (s7 : st 7 = nI t) (s8 : st 8 = nI lb) (h42 : f 42 = nI d) (h49 : f 49 = nI t) (h50 : f 50 = nI lb) (hR : RC b f) (hB : RN_ b N d) :
    ∃ b' : Nat → Nat → Int32, (st 8 ≤ 0 → b' = b) ∧ (¬ st 8 ≤ 0 → f_X0_loseTo b (st 8) (st 7) (st 0) = b' ∧ ok_X0_loseTo b (st 8) (st 7) (st 0)) ∧ ok_X7_bleeds f ∧ RC b' (f_X7_bleeds f) ∧ RN_ b' N d ∧ b' 0 = b 0 ∧ ∀ j, 42 ≤ j → f_X7_bleeds f j = f j := by
  have hG := RG_of h6 d1 d2 h71 h42 hR hB
  obtain ⟨w1, w2⟩ := p_lowest hG
  obtain ⟨a, ha, ea⟩ := mn_nI (M := d) (by omega) N hG.2.2.2.2.2
  have l1 := bs_lt (d := d) (show a ≤ 5000 by omega) d1
  have em : bs (mn (ch f) N) (f 42) = nI (3000 + 1200 * a / d) := by rw [ea, h42, bs_nI (by omega) d1 d2]
  rw [em] at w1
  unfold f_X7_bleeds ok_X7_bleeds
  rw [q_gL, q_gL, w1]
  by_cases hz : lb = 0
  · subst hz
    have hs : st 8 ≤ 0 := by rw [s8]; exact Int32.le_refl _
    obtain ⟨f', i3, i4, i5, i8⟩ := p_bleedNone d1 d2 (show 3000 + 1200 * a / d ≤ 70000 by omega) ht h6 b hB (N + 1) 0 7 f (by omega) (by omega) h71 h42 hR h49 h50
    have i3' : fl_X7_bleeds_7 (nI (3000 + 1200 * a / d)) 7 0 f = f' := i3
    rw [i3']
    exact ⟨b, fun _ => rfl, fun q => absurd hs q, ⟨w2, i4⟩, i5, hB, rfl, i8⟩
  · have hs : ¬ st 8 ≤ 0 := by rw [s8]; exact nI_nle (by omega) (by omega)
    obtain ⟨v1, v2⟩ := p_least h0 h6
    have hmn : mn (b 1) N = mn (ch f) N := mn_congr N (fun c hc => by unfold ch; exact hR c 0 (by omega) (by omega))
    obtain ⟨u1, u2⟩ := p_baseX (x := mn (b 1) N) d1 d2
    obtain ⟨b', f', i1, i2, i3, i4, i5, i6, i7, i8⟩ := p_bleedLoop d1 d2 (show 3000 + 1200 * a / d ≤ 70000 by omega) ht hl h6 (N + 1) 0 7 7 b f (by omega) (by omega) (by omega) h0 h71 h42 hR hB h49 h50
    have i3' : fl_X7_bleeds_7 (nI (3000 + 1200 * a / d)) 7 0 f = f' := i3
    have i1' : fl_X0_loseTo_15 (nI lb) (nI d) (nI (3000 + 1200 * a / d + t)) 7 0 b = b' := i1
    have ev : bs (mn (b 1) N) (nI d) + nI t = nI (3000 + 1200 * a / d + t) := by rw [hmn, ← h42, em, nI_add]
    rw [i3']
    refine ⟨b', fun q => absurd q hs, fun _ => ⟨?_, ?_⟩, ⟨w2, i4⟩, i5, i6, i7, i8⟩
    · unfold f_X0_loseTo
      rw [q_gL, q_gL, q_gL, v1, s0, s7, s8, u1, ev]
      exact i1'
    · unfold ok_X0_loseTo
      rw [q_gL, v1, s0, s7, s8]
      refine ⟨v2, u2, ?_⟩
      rw [q_gL, q_gL, u1, ev]
      exact i2
