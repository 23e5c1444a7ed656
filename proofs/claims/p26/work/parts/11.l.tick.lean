/-! PURE: one tick -/
theorem RS_fin {o st f : Nat → Int32} {b pf g : Nat → Nat → Int32} {v : Int32} (hv : gz v) (h : RS o st b pf g f) : ∃ b' : Nat → Nat → Int32, (st 8 ≤ 0 → b' = b) ∧ (¬ st 8 ≤ 0 → f_X0_loseTo b (st 8) (st 7) (st 0) = b' ∧ ok_X0_loseTo b (st 8) (st 7) (st 0)) ∧ ok_X7_bleeds (upd f 80 v) ∧
    RS (upd (upd o 5 v) 3 (o 3 + 1)) st b' pf g (upd (f_X7_bleeds (upd f 80 v)) 76 (f_X7_bleeds (upd f 80 v) 76 + 1)) := by
  obtain ⟨a0, a1, a2, a3, a4, a5, a6, a7, a8, a9⟩ := h.2.2.2.1
  have h' : RS (upd o 5 v) st b pf g (upd f 80 v) := RS_sc h (fun j hj => by rw [q_up, if_neg (by omega)]) ⟨a0, a1, a2, a3, a4, rfl, a6, a7, hv, a9⟩
  obtain ⟨b', i1, i2, i3, i4, i5⟩ := RS_bl h'
  obtain ⟨F, hF⟩ : ∃ F, F = f_X7_bleeds (upd f 80 v) := ⟨_, rfl⟩
  rw [← hF] at i4 i5 ⊢
  refine ⟨b', i1, i2, i3, RS_sc i4 (fun j hj => by rw [q_up, if_neg (by omega)]) ?_⟩
  obtain ⟨x0, x1, x2, x3, x4, x5, x6, x7, x8, x9⟩ := i4.2.2.2.1
  refine ⟨x0, x1, x2, ?_, x4, x5, x6, x7, x8, x9⟩
  show o 3 + 1 = F 76 + 1
  have : o 3 = F 76 := x3
  rw [this]
theorem p_out {o st f : Nat → Int32} (h : RT st f) (h1 : o 0 = 1) : f_X4_isPaused o st = f_X7_isOut f ∧ (f_X7_isOut f = 0 ∨ f_X7_isOut f = 1) := by
  obtain ⟨-, -, -, h45, -, h47, h48, -, -⟩ := q_f h
  have e : f_X7_isOut f = if f_X6_isIn (st 3) (st 5) (st 6) = 0 then 1 else 0 := by
    unfold f_X7_isOut
    rw [q_gLp, h45, h47, h48]
    rfl
  unfold f_X4_isPaused
  rw [if_pos h1, q_gLp, e]
  refine ⟨rfl, ?_⟩
  by_cases x : f_X6_isIn (st 3) (st 5) (st 6) = 0
  · rw [if_pos x]; exact Or.inr rfl
  · rw [if_neg x]; exact Or.inl rfl
theorem p_nout {o st : Nat → Int32} (h1 : ¬ o 0 = 1) : f_X4_isPaused o st = 0 := by
  unfold f_X4_isPaused
  rw [if_neg h1]
/-- the reference's tick in its three cases -/
theorem p_tickC {f : Nat → Int32} (h1 : f 73 = 1) (h2 : f_X7_isOut f = 0) : f_X7_tick f = upd (f_X7_bleeds (upd (f_X7_charges f) 80 0)) 76 (f_X7_bleeds (upd (f_X7_charges f) 80 0) 76 + 1) ∧ (ok_X7_charges f → ok_X7_bleeds (upd (f_X7_charges f) 80 0) → ok_X7_tick f) := by
  constructor
  · unfold f_X7_tick
    rw [if_pos h1, q_gLp, if_pos h2, if_pos h1, q_gLp, q_gLp, q_gLp, q_gLp]
  · intro a b
    unfold ok_X7_tick
    refine ⟨fun _ => g_gLe (fun R e => ⟨fun _ => ⟨fun _ => ⟨a, g_gLe (fun R2 e2 => g_gLe (fun R3 e3 => ⟨?_, trivial⟩))⟩, fun q => absurd h1 q⟩, fun q => absurd (e.trans h2) q⟩), fun q => absurd h1 q⟩
    rw [e3, e2]; exact b
theorem p_tickI {f : Nat → Int32} (h1 : ¬ f 73 = 1) : f_X7_tick f = upd (f_X7_bleeds (upd f 80 0)) 76 (f_X7_bleeds (upd f 80 0) 76 + 1) ∧ (ok_X7_bleeds (upd f 80 0) → ok_X7_tick f) := by
  constructor
  · unfold f_X7_tick
    rw [if_neg h1, if_neg h1, q_gLp, q_gLp, q_gLp]
  · intro b
    unfold ok_X7_tick
    refine ⟨fun q => absurd q h1, fun _ => ⟨fun q => absurd q h1, fun _ => g_gLe (fun R e => ⟨?_, trivial⟩)⟩⟩
    rw [e]; exact b
def pzF (f : Nat → Int32) : Nat → Int32 := if f 80 = 0 then f_X7_logs (upd f 77 (f 77 + 1)) 3 else upd f 77 (f 77 + 1)
theorem p_tickP {f : Nat → Int32} (h1 : f 73 = 1) (h2 : f_X7_isOut f = 1) : f_X7_tick f = upd (f_X7_bleeds (upd (pzF f) 80 1)) 76 (f_X7_bleeds (upd (pzF f) 80 1) 76 + 1) ∧ ((f 80 = 0 → ok_X7_logs (upd f 77 (f 77 + 1)) 3) → ok_X7_bleeds (upd (pzF f) 80 1) → ok_X7_tick f) := by
  have n10 : ¬ (1 : Int32) = 0 := by decide
  have h3 : ¬ f_X7_isOut f = 0 := by rw [h2]; exact n10
  have e80 : upd f 77 (f 77 + 1) 80 = f 80 := rfl
  obtain ⟨R, hR⟩ : ∃ R, R = f_X7_tick f := ⟨_, rfl⟩
  have hk : ok_X7_tick f = ok_X7_tick f := rfl
  unfold ok_X7_tick at hk
  constructor
  · rw [← hR]
    unfold f_X7_tick at hR
    rw [if_pos h1] at hR
    obtain ⟨R13, z13, hR⟩ := g_let hR
    rw [z13, if_neg h3] at hR
    obtain ⟨z27, z, hR⟩ := g_let hR
    have e : z27 80 = f 80 := by rw [z]; rfl
    unfold pzF
    rw [← z]
    by_cases h8 : f 80 = 0
    · rw [if_pos h8]
      rw [e, if_pos h8] at hR
      obtain ⟨y1, w1, hR⟩ := g_let hR
      obtain ⟨y2, w2, hR⟩ := g_let hR
      obtain ⟨y3, w3, hR⟩ := g_let hR
      obtain ⟨y4, w4, hR⟩ := g_let hR
      rw [hR, w4, w3, w2, w1]
    · rw [if_neg h8]
      rw [e, if_neg h8] at hR
      obtain ⟨y2, w2, hR⟩ := g_let hR
      obtain ⟨y3, w3, hR⟩ := g_let hR
      obtain ⟨y4, w4, hR⟩ := g_let hR
      rw [hR, w4, w3, w2]
  · intro a b
    unfold ok_X7_tick
    unfold pzF at b
    refine ⟨fun _ => g_gLe (fun R e => ⟨fun q => absurd (e.symm.trans q) h3, fun _ => g_gLe (fun z ez => ?_)⟩), fun q => absurd h1 q⟩
    subst ez
    rw [e80]
    by_cases h8 : f 80 = 0
    · rw [if_pos h8] at b
      refine ⟨fun _ => ⟨a h8, g_gLe (fun R3 e3 => g_gLe (fun R4 e4 => ⟨?_, trivial⟩))⟩, fun q => absurd h8 q⟩
      rw [e4, e3]; exact b
    · rw [if_neg h8] at b
      refine ⟨fun q => absurd q h8, fun _ => g_gLe (fun R4 e4 => ⟨?_, trivial⟩)⟩
      rw [e4]; exact b
theorem p_tick {o st f : Nat → Int32} {b pf g : Nat → Nat → Int32} (h : RS o st b pf g f) : ok_X4_passOneTick o st b pf g ∧ ok_X7_tick f ∧ RT3 (f_X4_passOneTick o st b pf g) st pf (f_X7_tick f) := by
  obtain ⟨a0, a1, a2, a3, a4, a5, a6, a7, a8, a9⟩ := h.2.2.2.1
  have n10 : ¬ (1 : Int32) = 0 := by decide
  unfold ok_X4_passOneTick f_X4_passOneTick
  by_cases h1 : o 0 = 1
  · have h73 : f 73 = 1 := a0.symm.trans h1
    obtain ⟨p1, p2⟩ := p_out (o := o) h.2.1 h1
    rcases p2 with p2 | p2
    · -- charging
      obtain ⟨c1, c2, c3⟩ := p_charge h h1
      obtain ⟨t1, t2⟩ := p_tickC h73 p2
      obtain ⟨b', i1, i2, i3, i4⟩ := RS_fin (v := 0) (Or.inl rfl) c3
      have hp : f_X4_isPaused o st = 0 := p1.trans p2
      rw [t1]
      refine ⟨?_, t2 c2 i3, ?_⟩
      · refine g_gLe (fun R e => ⟨fun _ => ⟨fun _ => ⟨c1, g_gLe (fun R9 e9 => ⟨Or.inl (e.trans hp), fun _ => trivial, fun q => ⟨?_, trivial⟩⟩)⟩, fun q => absurd h1 q⟩, fun q => absurd (e.trans hp) q⟩)
        rw [e9]; exact (i2 q).2
      · rw [q_gLp, if_pos hp, if_pos h1, q_gLp, hp]
        by_cases hs : st 8 ≤ 0
        · rw [if_pos hs]
          have := i1 hs
          subst this
          exact i4
        · rw [if_neg hs, q_gLp, (i2 hs).1]
          exact i4
    · -- paused
      obtain ⟨t1, t2⟩ := p_tickP h73 p2
      have hp : f_X4_isPaused o st = 1 := p1.trans p2
      have hp0 : ¬ f_X4_isPaused o st = 0 := by rw [hp]; exact n10
      have hw : RS (upd o 4 (o 4 + 1)) st b pf g (upd f 77 (f 77 + 1)) := by
        refine RS_sc h (fun j hj => by rw [q_up, if_neg (by omega)]) ⟨a0, a1, a2, a3, ?_, a5, a6, a7, a8, a9⟩
        show o 4 + 1 = f 77 + 1
        rw [a4]
      obtain ⟨l1, l2, l3, l4⟩ := RS_lg 3 (tk := o 3) (sg := o 1) hw a3.symm a1.symm
      have hz : RS (upd o 4 (o 4 + 1)) st b pf (if o 5 = 0 then f_X2_add g 3 (o 3) (o 1) else g) (pzF f) := by
        unfold pzF
        rw [← a5]
        by_cases h8 : o 5 = 0
        · rw [if_pos h8, if_pos h8]; exact l1
        · rw [if_neg h8, if_neg h8]; exact hw
      have ec : f_X4_countPausedTick o g = (upd o 4 (o 4 + 1), if o 5 = 0 then f_X2_add g 3 (o 3) (o 1) else g) := by
        unfold f_X4_countPausedTick
        by_cases h8 : o 5 = 0
        · rw [if_pos h8, if_pos h8, q_gLp]
        · rw [if_neg h8, if_neg h8]
      obtain ⟨b', i1, i2, i3, i4⟩ := RS_fin (v := 1) (Or.inr rfl) hz
      rw [t1, ec]
      refine ⟨?_, t2 (fun _ => l3) i3, ?_⟩
      · refine g_gLe (fun R e => ⟨fun q => absurd (e.symm.trans q) hp0, fun _ => ⟨⟨fun _ => ⟨l2, trivial⟩, fun _ => trivial⟩, g_gLe (fun R15 e9 => ⟨Or.inr (e.trans hp), fun _ => trivial, fun q => ⟨(i2 q).2, trivial⟩⟩)⟩⟩)
      · rw [q_gLp, if_neg hp0, q_gLp, hp]
        by_cases hs : st 8 ≤ 0
        · rw [if_pos hs]
          have := i1 hs
          subst this
          exact i4
        · rw [if_neg hs, q_gLp, (i2 hs).1]
          exact i4
  · have h73 : ¬ f 73 = 1 := fun q => h1 (a0.trans q)
    have hp : f_X4_isPaused o st = 0 := p_nout h1
    obtain ⟨t1, t2⟩ := p_tickI h73
    obtain ⟨b', i1, i2, i3, i4⟩ := RS_fin (v := 0) (Or.inl rfl) h
    rw [t1]
    refine ⟨?_, t2 i3, ?_⟩
    · refine g_gLe (fun R e => ⟨fun _ => ⟨fun q => absurd q h1, fun _ => ⟨Or.inl (e.trans hp), fun _ => trivial, fun q => ⟨(i2 q).2, trivial⟩⟩⟩, fun q => absurd (e.trans hp) q⟩)
    · rw [q_gLp, if_pos hp, if_neg h1, hp]
      by_cases hs : st 8 ≤ 0
      · rw [if_pos hs]
        have := i1 hs
        subst this
        exact i4
      · rw [if_neg hs, q_gLp, (i2 hs).1]
        exact i4
