/-! PURE: reading a text -/
theorem p_stageC {t pf : Nat → Nat → Int32} {m tx fr : Nat → Int32} {n p k : Nat} (hk : k < 5) (h : TR t m tx n p) (hp : pf 0 0 = nI k) (hq : SQ pf fr k) (h5 : m 5 = nI k)
    (A1 : Int32 × (Nat → Nat → Int32)) (K1 : Int32 × (Nat → Int32)) (A2 : Int32 × (Nat → Nat → Int32)) (K2 : Int32 × (Nat → Int32)) (A3 : Int32 × (Nat → Nat → Int32)) (K3 : Int32 × (Nat → Int32))
    (hA1 : f_X5_accepts t 99 = A1) (hK1 : f_X7_takes m tx 99 = K1) (hA2 : f_X5_accepts A1.2 118 = A2) (hK2 : f_X7_takes K1.2 tx 118 = K2) (hA3 : f_X5_accepts A2.2 114 = A3) (hK3 : f_X7_takes K2.2 tx 114 = K3) :
    ok_X5_readStage t pf ∧ ok_X7_takesStage m tx fr ∧ RES m tx n k (f_X5_readStage t pf) (f_X7_takesStage m tx fr) := by
  obtain ⟨a1, a2, a3, p1, a4, a5⟩ := p_acc 99 h
  rw [hK1] at a3
  rw [hA1, hK1] at a4 a5
  obtain ⟨b1, b2, b3, p2, b4, b5⟩ := p_acc 118 a4
  rw [hK2] at b3
  rw [hA2, hK2] at b4 b5
  obtain ⟨c1, c2, c3, p3, c4, c5⟩ := p_acc 114 b4
  rw [hK3] at c3
  rw [hA3, hK3] at c4 c5
  have ev : (4 : Int32) * m 5 = nI (4 * k) := by rw [h5, q_4]
  have e1 : K1.2 5 = nI k := a3.2.2.2.trans h5
  have e2 : K2.2 5 = nI k := b3.2.2.2.trans e1
  have e3 : K3.2 5 = nI k := c3.2.2.2.trans e2
  obtain ⟨g1, g2⟩ := p_add 0 hk hp
  obtain ⟨g3, g4⟩ := p_add 1 hk hp
  obtain ⟨g5, g6⟩ := p_add 2 hk hp
  obtain ⟨x1, x2, x3, x4⟩ := p_pair (kd := 0) (Or.inl rfl) hk a4 hq e1
  obtain ⟨y1, y2, y3, y4⟩ := p_pair (kd := 1) (Or.inr (Or.inl rfl)) hk b4 hq e2
  obtain ⟨z1, z2, z3, z4⟩ := p_rest hk c4 hq e3
  refine ⟨?_, ?_, ?_⟩
  · unfold ok_X5_readStage
    rw [hp]
    refine g_gLe (fun v1 ev1 => ?_)
    subst ev1
    refine ⟨a1, ?_⟩
    rw [hA1, g1, g3, g5]
    refine g_gLe (fun R2 e2 => ?_)
    subst e2
    refine ⟨fun _ => ⟨b1, ?_⟩, fun _ => ⟨g2, g_gLe (fun R29 e29 => ?_)⟩⟩
    · rw [hA2]
      refine g_gLe (fun R5 e5 => ?_)
      subst e5
      refine ⟨fun _ => ⟨c1, ?_⟩, fun _ => ⟨g4, g_gLe (fun R20 e20 => ?_)⟩⟩
      · rw [hA3]
        refine g_gLe (fun R8 e8 => ?_)
        subst e8
        refine ⟨fun _ => trivial, fun _ => ⟨g6, g_gLe (fun R11 e11 => ?_)⟩⟩
        subst e11
        exact ⟨fun _ => trivial, fun _ => ⟨z1, g_gLe (fun R14 e14 => ⟨fun _ => trivial, fun q => ⟨z2 R14 e14 q, trivial⟩⟩)⟩⟩
      · subst e20
        exact ⟨fun _ => trivial, fun _ => ⟨y1, g_gLe (fun R14 e14 => ⟨fun _ => trivial, fun q => ⟨y2 R14 e14 q, trivial⟩⟩)⟩⟩
    · subst e29
      exact ⟨fun _ => trivial, fun _ => ⟨x1, g_gLe (fun R14 e14 => ⟨fun _ => trivial, fun q => ⟨x2 R14 e14 q, trivial⟩⟩)⟩⟩
  · rw [okStage_eq, ev]
    refine g_gLe (fun v1 ev1 => ?_)
    subst ev1
    refine ⟨a2, ?_⟩
    rw [hK1]
    refine g_gLe (fun R2 e2 => ?_)
    subst e2
    refine ⟨fun _ => ⟨b2, ?_⟩, fun _ => x3⟩
    rw [hK2]
    refine g_gLe (fun R5 e5 => ?_)
    subst e5
    refine ⟨fun _ => ⟨c2, ?_⟩, fun _ => y3⟩
    rw [hK3]
    refine g_gLe (fun R8 e8 => ?_)
    subst e8
    exact ⟨fun _ => trivial, fun _ => z3⟩
  · obtain ⟨S, hS⟩ : ∃ S, S = f_X5_readStage t pf := ⟨_, rfl⟩
    obtain ⟨R, hR⟩ : ∃ R, R = f_X7_takesStage m tx fr := ⟨_, rfl⟩
    rw [← hS, ← hR]
    unfold f_X5_readStage at hS
    rw [rStage_eq, ev] at hR
    rw [hp, q_gLp, hA1, q_gLp, g1, g3, g5] at hS
    rw [q_gLp, hK1, q_gLp] at hR
    rcases a5 with ⟨d1, d2⟩ | ⟨d1, d2⟩
    · rw [if_pos d1, hA2, q_gLp] at hS
      rw [if_pos d2, hK2, q_gLp] at hR
      rcases b5 with ⟨f1, f2⟩ | ⟨f1, f2⟩
      · rw [if_pos f1, hA3, q_gLp] at hS
        rw [if_pos f2, hK3, q_gLp] at hR
        rcases c5 with ⟨i1, i2⟩ | ⟨i1, i2⟩
        · rw [if_pos i1] at hS
          rw [if_pos i2] at hR
          rw [hS, hR]
          exact ⟨p3, c4, ((a3.trans b3).trans c3).y, Or.inl ⟨rfl, rfl⟩⟩
        · rw [if_neg (q_1no i1), q_gLp, if_neg n10] at hS
          dsimp only at hS
          rw [if_neg (q_1no i2)] at hR
          rw [hS, hR]
          exact RES.pre ((a3.trans b3).trans c3).y z4
      · rw [if_neg (q_1no f1), q_gLp, if_neg n10] at hS
        dsimp only at hS
        rw [if_neg (q_1no f2)] at hR
        rw [hS, hR]
        exact RES.pre (a3.trans b3).y y4
    · rw [if_neg (q_1no d1), q_gLp, if_neg n10] at hS
      dsimp only at hS
      rw [if_neg (q_1no d2)] at hR
      rw [hS, hR]
      exact RES.pre a3.y x4
theorem p_stage {t pf : Nat → Nat → Int32} {m tx fr : Nat → Int32} {n p k : Nat} (hk : k < 5) (h : TR t m tx n p) (hp : pf 0 0 = nI k) (hq : SQ pf fr k) (h5 : m 5 = nI k) : ok_X5_readStage t pf ∧ ok_X7_takesStage m tx fr ∧ RES m tx n k (f_X5_readStage t pf) (f_X7_takesStage m tx fr) :=
  p_stageC hk h hp hq h5 _ _ _ _ _ _ rfl rfl rfl rfl rfl rfl
def OUT (m tx : Nat → Int32) (n : Nat) (S : Int32 × (Nat → Nat → Int32) × (Nat → Nat → Int32)) (R : Int32 × (Nat → Int32) × (Nat → Int32)) : Prop := ∃ p', TR S.2.1 R.2.1 tx n p' ∧ MY m R.2.1 ∧ ((S.1 = 0 ∧ R.1 = 0) ∨ (S.1 = 1 ∧ R.1 = 1 ∧ ∃ K : Nat, K ≤ 5 ∧ S.2.2 0 0 = nI K ∧ R.2.1 5 = nI K ∧ SQ S.2.2 R.2.2 K))
theorem OUT.pre {m m' tx : Nat → Int32} {n : Nat} {S : Int32 × (Nat → Nat → Int32) × (Nat → Nat → Int32)} {R : Int32 × (Nat → Int32) × (Nat → Int32)} (h1 : MY m m') (h : OUT m' tx n S R) : OUT m tx n S R := by
  obtain ⟨p', a, b, c⟩ := h
  exact ⟨p', a, h1.trans b, c⟩
theorem p_go0 {t : Nat → Nat → Int32} {m tx fr : Nat → Int32} {n p : Nat} (N : Nat) (hN : 1 ≤ N) (h : TR t m tx n p) : fl_X7_readsText_12 tx N 0 m fr = (if p = n then (1, m, fr) else (0, m, fr)) ∧ okl_X7_readsText_12 tx N 0 m fr := by
  obtain ⟨N, rfl⟩ : ∃ M, N = M + 1 := ⟨N - 1, by omega⟩
  obtain ⟨h1, h2, h3, h4, h5, h6, h7⟩ := h
  rw [fl_X7_readsText_12, okl_X7_readsText_12, if_pos rfl, h4, h6]
  refine ⟨?_, fun _ => trivial, fun q => absurd rfl q⟩
  by_cases e : p = n
  · rw [if_pos e, if_pos (by rw [e])]
  · rw [if_neg e, if_neg (fun q => e ((nI_eq (by omega) (by omega)).mp q))]
theorem p_into {tx : Nat → Int32} {n : Nat} : ∀ N k p (t pf : Nat → Nat → Int32) (m fr : Nat → Int32), k + N = 6 → k < 5 → TR t m tx n p → pf 0 0 = nI k → m 5 = nI k → SQ pf fr k →
    okl_X5_readInto_12 N (nI (k + 1)) t pf ∧ okl_X7_readsText_12 tx N 1 m fr ∧ OUT m tx n (fl_X5_readInto_12 N (nI (k + 1)) t pf) (fl_X7_readsText_12 tx N 1 m fr) := by
  intro N
  induction N with
  | zero => intro k p t pf m fr h1 h2; omega
  | succ N ih =>
    intro k p t pf m fr h1 h2 h hp h5 hq
    obtain ⟨s1, s2, s3⟩ := p_stage h2 h hp hq h5
    obtain ⟨S, hS⟩ : ∃ S, S = f_X5_readStage t pf := ⟨_, rfl⟩
    obtain ⟨R, hR⟩ : ∃ R, R = f_X7_takesStage m tx fr := ⟨_, rfl⟩
    rw [← hS, ← hR] at s3
    obtain ⟨p', r1, r2, r3⟩ := s3
    have hc : ¬ (5 : Int32) < nI (k + 1) := nI_nlt (a := 5) (by omega) (by omega)
    have okA : (¬ S.1 = 0 → ((S.2.1 0 1 = S.2.1 0 0 → True) ∧ (¬ S.2.1 0 1 = S.2.1 0 0 → ((nI (k + 1) = 5 → True) ∧ (¬ nI (k + 1) = 5 → (ok_X5_accepts S.2.1) ∧ (gL (f_X5_accepts S.2.1 59) (fun (R14 : Int32 × (Nat → Nat → Int32)) => ((R14.1 = 0 → True) ∧ (¬ R14.1 = 0 → okl_X5_readInto_12 N (nI (k + 1 + 1)) R14.2 S.2.2))))))))) → okl_X5_readInto_12 (N + 1) (nI (k + 1)) t pf := by
      intro q
      rw [okl_X5_readInto_12, ← hS, q_p1]
      refine ⟨fun q => absurd q hc, fun _ => ⟨s1, g_gLe (fun R9 e9 => ?_)⟩⟩
      subst e9
      exact ⟨fun _ => trivial, fun q1 => ⟨(q q1).1, fun q2 => ⟨((q q1).2 q2).1, fun q3 => (((q q1).2 q2).2 q3)⟩⟩⟩
    have okB : (¬ R.1 = 0 → ((5 ≤ R.2.1 5 → okl_X7_readsText_12 tx N 0 R.2.1 R.2.2) ∧ (¬ 5 ≤ R.2.1 5 → (ok_X7_takes R.2.1 tx 59) ∧ (gL (f_X7_takes R.2.1 tx 59) (fun (R14 : Int32 × (Nat → Int32)) => ((R14.1 = 0 → okl_X7_readsText_12 tx N 0 R14.2 R.2.2) ∧ (¬ R14.1 = 0 → okl_X7_readsText_12 tx N 1 R14.2 R.2.2))))))) → okl_X7_readsText_12 tx (N + 1) 1 m fr := by
      intro q
      rw [okl_X7_readsText_12, ← hR]
      refine ⟨fun q => absurd q n10, fun _ => ⟨s2, g_gLe (fun R10 e10 => ?_)⟩⟩
      subst e10
      exact ⟨fun _ => trivial, fun q1 => q q1⟩
    rcases r3 with ⟨d1, d2⟩ | ⟨d1, d2, d3, d4, d5⟩
    · have v5 : fl_X5_readInto_12 (N + 1) (nI (k + 1)) t pf = (0, S.2.1, S.2.2) := by rw [fl_X5_readInto_12, if_neg hc, ← hS, q_gLp, if_pos d1]
      have v7 : fl_X7_readsText_12 tx (N + 1) 1 m fr = (0, R.2.1, R.2.2) := by rw [fl_X7_readsText_12, if_neg n10, ← hR, q_gLp, if_pos d2]
      refine ⟨okA (fun q => absurd d1 q), okB (fun q => absurd d2 q), ?_⟩
      rw [v5, v7]
      exact ⟨p', r1, r2, Or.inl ⟨rfl, rfl⟩⟩
    · have d1' := q_1no d1
      have d2' := q_1no d2
      have r1' := r1
      obtain ⟨t1, t2, t3, t4, t5, t6, t7⟩ := r1
      obtain ⟨a1, a2, a3, p2, a4, a5⟩ := p_acc 59 r1'
      have e59 : p' = n → f_X5_accepts S.2.1 59 = (0, S.2.1) := by
        intro e
        unfold f_X5_accepts
        rw [if_pos (by rw [t3, t5, e]; exact Int32.le_refl _)]
      have hlen : (S.2.1 0 1 = S.2.1 0 0) ↔ p' = n := by
        rw [t3, t5]
        exact nI_eq (by omega) (by omega)
      by_cases hx : k + 1 = 5
      · -- the fifth stage
        have hx5 : nI (k + 1) = 5 := by rw [hx]; rfl
        have h55 : (5 : Int32) ≤ R.2.1 5 := by rw [d4, hx]; exact Int32.le_refl _
        obtain ⟨g1, g2⟩ := p_go0 (fr := R.2.2) N (by omega) r1'
        have v7 : fl_X7_readsText_12 tx (N + 1) 1 m fr = (if p' = n then (1, R.2.1, R.2.2) else (0, R.2.1, R.2.2)) := by rw [fl_X7_readsText_12, if_neg n10, ← hR, q_gLp, if_neg d2', if_pos h55, g1]
        refine ⟨okA (fun _ => ⟨fun _ => trivial, fun _ => ⟨fun _ => trivial, fun q => absurd hx5 q⟩⟩), okB (fun _ => ⟨fun _ => g2, fun q => absurd h55 q⟩), ?_⟩
        by_cases e : p' = n
        · have v5 : fl_X5_readInto_12 (N + 1) (nI (k + 1)) t pf = (1, S.2.1, S.2.2) := by rw [fl_X5_readInto_12, if_neg hc, ← hS, q_gLp, if_neg d1', if_pos (hlen.mpr e)]
          rw [v5, v7, if_pos e]
          exact ⟨p', r1', r2, Or.inr ⟨rfl, rfl, k + 1, by omega, d3, d4, d5⟩⟩
        · have v5 : fl_X5_readInto_12 (N + 1) (nI (k + 1)) t pf = (0, S.2.1, S.2.2) := by rw [fl_X5_readInto_12, if_neg hc, ← hS, q_gLp, if_neg d1', if_neg (fun q => e (hlen.mp q)), if_pos hx5]
          rw [v5, v7, if_neg e]
          exact ⟨p', r1', r2, Or.inl ⟨rfl, rfl⟩⟩
      · have hx5 : ¬ nI (k + 1) = 5 := fun q => hx ((nI_eq (b := 5) (by omega) (by omega)).mp q)
        have h55 : ¬ (5 : Int32) ≤ R.2.1 5 := by rw [d4]; exact nI_ge (b := 5) (by omega) (by omega)
        obtain ⟨A, hA⟩ : ∃ A, A = f_X5_accepts S.2.1 59 := ⟨_, rfl⟩
        obtain ⟨K, hK⟩ : ∃ K, K = f_X7_takes R.2.1 tx 59 := ⟨_, rfl⟩
        rw [← hA, ← hK] at a4 a5
        rw [← hK] at a3
        rw [← hA] at e59
        obtain ⟨g1, g2⟩ := p_go0 (fr := R.2.2) N (by omega) a4
        have e5K : K.2 5 = nI (k + 1) := a3.2.2.2.trans d4
        rcases a5 with ⟨f1, f2⟩ | ⟨f1, f2⟩
        · have okb : okl_X7_readsText_12 tx (N + 1) 1 m fr := okB (fun _ => ⟨fun q => absurd q h55, fun _ => ⟨a2, by
            rw [← hK]
            exact ⟨fun _ => g2, fun q => absurd f2 q⟩⟩⟩)
          have oka : okl_X5_readInto_12 (N + 1) (nI (k + 1)) t pf := okA (fun _ => ⟨fun _ => trivial, fun _ => ⟨fun q => absurd q hx5, fun _ => ⟨a1, by
            rw [← hA]
            exact ⟨fun _ => trivial, fun q => absurd f1 q⟩⟩⟩⟩)
          have v7 : fl_X7_readsText_12 tx (N + 1) 1 m fr = (if p2 = n then (1, K.2, R.2.2) else (0, K.2, R.2.2)) := by rw [fl_X7_readsText_12, if_neg n10, ← hR, q_gLp, if_neg d2', if_neg h55, ← hK, q_gLp, if_pos f2, g1]
          refine ⟨oka, okb, ?_⟩
          -- nothing was taken
          have eA : A = (0, S.2.1) := by
            rw [hA]
            rw [hA] at f1
            unfold f_X5_accepts at f1 ⊢
            by_cases q1 : S.2.1 0 0 ≤ S.2.1 0 1
            · rw [if_pos q1]
            · rw [if_neg q1] at f1 ⊢
              by_cases q2 : S.2.1 1 (S.2.1 0 1).toNatClampNeg = 59
              · rw [if_pos q2] at f1
                exact absurd f1 n10
              · rw [if_neg q2]
          have ep : p2 = p' := by
            have b1 : A.2 0 1 = nI p2 := a4.2.2.2.2.1
            rw [eA] at b1
            exact ((nI_eq (by omega) (by have := a4.2.1; omega)).mp (t5.symm.trans b1)).symm
          have a4' : TR S.2.1 K.2 tx n p' := by
            have := a4
            rw [eA, ep] at this
            exact this
          rw [ep] at v7
          by_cases e : p' = n
          · have v5 : fl_X5_readInto_12 (N + 1) (nI (k + 1)) t pf = (1, S.2.1, S.2.2) := by rw [fl_X5_readInto_12, if_neg hc, ← hS, q_gLp, if_neg d1', if_pos (hlen.mpr e)]
            rw [v5, v7, if_pos e]
            exact ⟨p', a4', r2.trans a3.y, Or.inr ⟨rfl, rfl, k + 1, by omega, d3, e5K, d5⟩⟩
          · have v5 : fl_X5_readInto_12 (N + 1) (nI (k + 1)) t pf = (0, A.2, S.2.2) := by rw [fl_X5_readInto_12, if_neg hc, ← hS, q_gLp, if_neg d1', if_neg (fun q => e (hlen.mp q)), if_neg hx5, ← hA, q_gLp, if_pos f1]
            rw [v5, v7, if_neg e, eA]
            exact ⟨p', a4', r2.trans a3.y, Or.inl ⟨rfl, rfl⟩⟩
        · have f1' := q_1no f1
          have f2' := q_1no f2
          have e : ¬ p' = n := fun q => f1' (by rw [e59 q])
          obtain ⟨i1, i2, i3⟩ := ih (k + 1) p2 A.2 S.2.2 K.2 R.2.2 (by omega) (by omega) a4 d3 e5K d5
          have okb : okl_X7_readsText_12 tx (N + 1) 1 m fr := okB (fun _ => ⟨fun q => absurd q h55, fun _ => ⟨a2, by
            rw [← hK]
            exact ⟨fun q => absurd q f2', fun _ => i2⟩⟩⟩)
          have oka : okl_X5_readInto_12 (N + 1) (nI (k + 1)) t pf := okA (fun _ => ⟨fun _ => trivial, fun _ => ⟨fun q => absurd q hx5, fun _ => ⟨a1, by
            rw [← hA]
            exact ⟨fun q => absurd q f1', fun _ => i1⟩⟩⟩⟩)
          have v5 : fl_X5_readInto_12 (N + 1) (nI (k + 1)) t pf = fl_X5_readInto_12 N (nI (k + 1 + 1)) A.2 S.2.2 := by rw [fl_X5_readInto_12, if_neg hc, ← hS, q_gLp, if_neg d1', if_neg (fun q => e (hlen.mp q)), if_neg hx5, ← hA, q_gLp, if_neg f1', q_gLp, q_p1]
          have v7 : fl_X7_readsText_12 tx (N + 1) 1 m fr = fl_X7_readsText_12 tx N 1 K.2 R.2.2 := by rw [fl_X7_readsText_12, if_neg n10, ← hR, q_gLp, if_neg d2', if_neg h55, ← hK, q_gLp, if_neg f2']
          refine ⟨oka, okb, ?_⟩
          rw [v5, v7]
          exact OUT.pre (r2.trans a3.y) i3
