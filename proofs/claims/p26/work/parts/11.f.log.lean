/-! PURE: the log -/
def lgPut (F : Nat → Int32) (E : Nat) (p1 : Int32) : Nat → Int32 := fun j => if j = 81 then nI (E + 1) else if j = 82 + 3 * E + 2 then F 74 else if j = 82 + 3 * E + 1 then F 76 else if j = 82 + 3 * E then p1 else F j
theorem p_putA {F z3 z5 z7 z9 : Nat → Int32} {E : Nat} (hE : E ≤ 9) (h81 : F 81 = nI E) (p1 : Int32) (e3 : z3 = upd F (82 + 3 * E) p1) (e5 : z5 = upd z3 (82 + 3 * E + 1) (z3 76)) (e7 : z7 = upd z5 (82 + 3 * E + 2) (z5 74)) (e9 : z9 = upd z7 81 (z7 81 + 1)) : z9 = lgPut F E p1 := by
  have a1 : z3 76 = F 76 := by rw [e3, q_up, if_neg (show ¬ 76 = 82 + 3 * E by omega)]
  have a2 : z5 74 = F 74 := by rw [e5, q_up, if_neg (show ¬ 74 = 82 + 3 * E + 1 by omega), e3, q_up, if_neg (show ¬ 74 = 82 + 3 * E by omega)]
  have a3 : z7 81 = nI E := by rw [e7, q_up, if_neg (show ¬ 81 = 82 + 3 * E + 2 by omega), e5, q_up, if_neg (show ¬ 81 = 82 + 3 * E + 1 by omega), e3, q_up, if_neg (show ¬ 81 = 82 + 3 * E by omega), h81]
  funext j
  unfold lgPut
  rw [e9, a3, q_p1, q_up]
  by_cases h1 : j = 81
  · rw [if_pos h1, if_pos h1]
  · rw [if_neg h1, if_neg h1, e7, a2, q_up]
    by_cases h2 : j = 82 + 3 * E + 2
    · rw [if_pos h2, if_pos h2]
    · rw [if_neg h2, if_neg h2, e5, a1, q_up]
      by_cases h3 : j = 82 + 3 * E + 1
      · rw [if_pos h3, if_pos h3]
      · rw [if_neg h3, if_neg h3, e3, q_up]
def lgSh (x : Nat) (f : Nat → Int32) : Nat → Int32 := fun i => if 82 ≤ i ∧ i < x then f (i + 3) else f i
theorem lgSh_step (x : Nat) (hx : 82 ≤ x) (f : Nat → Int32) : upd (lgSh x f) x (lgSh x f (x + 3)) = lgSh (x + 1) f := by
  funext i
  rw [q_up]
  unfold lgSh
  by_cases h : i = x
  · subst h
    rw [if_pos rfl, if_neg (by omega), if_pos (by omega)]
  · rw [if_neg h]
    by_cases h2 : 82 ≤ i ∧ i < x
    · rw [if_pos h2, if_pos (by omega)]
    · rw [if_neg h2, if_neg (by omega)]
theorem p_logLoop (p1 : Int32) (f : Nat → Int32) (h81 : f 81 = nI 10) : ∀ n x, 82 ≤ x → x ≤ 109 → 109 < x + n → fl_X7_logs_12 p1 n (nI x) (lgSh x f) = lgPut (upd (lgSh 109 f) 81 (nI 9)) 9 p1 ∧ okl_X7_logs_12 p1 n (nI x) (lgSh x f) := by
  intro n
  induction n with
  | zero => intro x h1 h2 h3; omega
  | succ n ih =>
    intro x h1 h2 h3
    have s81 : ∀ y, lgSh y f 81 = nI 10 := fun y => by unfold lgSh; rw [if_neg (by omega), h81]
    by_cases hx : x = 109
    · subst hx
      have h : (109 : Int32) ≤ nI 109 := Int32.le_refl _
      obtain ⟨R, hR⟩ : ∃ R, R = fl_X7_logs_12 p1 (n + 1) (nI 109) (lgSh 109 f) := ⟨_, rfl⟩
      rw [← hR]
      constructor
      · rw [fl_X7_logs_12, if_pos h] at hR
        obtain ⟨z12, e12, hR⟩ := g_let hR
        have e12' : z12 = upd (lgSh 109 f) 81 (nI 9) := by rw [e12, s81]; rfl
        have z81 : z12 81 = nI 9 := by rw [e12', q_up, if_pos rfl]
        obtain ⟨v13, e13, hR⟩ := g_let hR
        rw [z81] at e13
        have v1 : v13 = nI 109 := e13
        subst v1
        have c0 : (nI 109).toNatClampNeg = 109 := rfl
        have c1 : (nI 109 + 1).toNatClampNeg = 110 := rfl
        have c2 : (nI 109 + 2).toNatClampNeg = 111 := rfl
        rw [c0] at hR
        obtain ⟨z14, e14, hR⟩ := g_let hR
        rw [c1] at hR
        obtain ⟨z16, e16, hR⟩ := g_let hR
        rw [c2] at hR
        obtain ⟨z18, e18, hR⟩ := g_let hR
        obtain ⟨z20, e20, hR⟩ := g_let hR
        rw [hR]
        have := p_putA (F := z12) (E := 9) (by omega) z81 p1 e14 e16 e18 e20
        rw [this, e12']
      · rw [okl_X7_logs_12]
        refine ⟨fun _ => ?_, fun q => absurd h q⟩
        refine g_gLe (fun z12 e12 => ?_)
        have z81 : z12 81 = nI 9 := by rw [e12, q_up, if_pos rfl, s81]; rfl
        refine g_gLe (fun v13 e13 => ?_)
        rw [z81] at e13
        have v1 : v13 = nI 109 := e13
        subst v1
        have g0 : vp_in (nI 109) 112 := q_in (by omega)
        have g1 : vp_in (nI 109 + 1) 112 := q_in (c := 110) (by omega)
        have g2 : vp_in (nI 109 + 2) 112 := q_in (c := 111) (by omega)
        repeat' (first | (with_reducible refine g_gLe (fun _ _ => ?_)) | (with_reducible apply And.intro) | (with_reducible assumption) | (with_reducible exact True.intro) | intro _)
    · have h : ¬ (109 : Int32) ≤ nI x := nI_ge (a := x) (b := 109) (by omega) (by omega)
      obtain ⟨i1, i2⟩ := ih (x + 1) (by omega) (by omega) (by omega)
      have g0 : vp_in (nI x) 112 := q_in (by omega)
      have g3 : vp_in (nI (x + 3)) 112 := q_in (by omega)
      rw [fl_X7_logs_12, okl_X7_logs_12, if_neg h]
      simp only [q_gL, q_p3, q_p1, q_c (show x < 2 ^ 31 by omega), q_c (show x + 3 < 2 ^ 31 by omega), lgSh_step x h1 f]
      exact ⟨i1, fun q => absurd q h, fun _ => ⟨g3, g0, i2⟩⟩
theorem p_logs {f : Nat → Int32} {E : Nat} (p1 : Int32) (hE : E ≤ 10) (h81 : f 81 = nI E) : ok_X7_logs f p1 ∧ (E < 10 → f_X7_logs f p1 = lgPut f E p1) ∧ (E = 10 → f_X7_logs f p1 = lgPut (upd (lgSh 109 f) 81 (nI 9)) 9 p1) := by
  by_cases h : E = 10
  · subst h
    have hc : f 81 = 10 := h81
    have e82 : lgSh 82 f = f := by funext i; unfold lgSh; rw [if_neg (by omega)]
    obtain ⟨i1, i2⟩ := p_logLoop p1 f h81 28 82 (by omega) (by omega) (by omega)
    rw [e82] at i1 i2
    unfold f_X7_logs ok_X7_logs
    rw [if_pos hc]
    exact ⟨⟨fun _ => i2, fun q => absurd hc q⟩, fun q => by omega, fun _ => i1⟩
  · have hc : ¬ f 81 = 10 := by
      rw [h81]
      intro q
      exact h ((nI_eq (by omega) (by omega)).mp q)
    have c0 : (nI (82 + 3 * E)).toNatClampNeg = 82 + 3 * E := q_c (by omega)
    have c1 : (nI (82 + 3 * E + 1)).toNatClampNeg = 82 + 3 * E + 1 := q_c (by omega)
    have c2 : (nI (82 + 3 * E + 2)).toNatClampNeg = 82 + 3 * E + 2 := q_c (by omega)
    refine ⟨?_, fun _ => ?_, fun q => absurd q h⟩
    · unfold ok_X7_logs
      refine ⟨fun q => absurd q hc, fun _ => g_gLe (fun v2 e2 => ?_)⟩
      rw [h81, q_3, q_82] at e2
      subst e2
      have g0 : vp_in (nI (82 + 3 * E)) 112 := q_in (by omega)
      have g1 : vp_in (nI (82 + 3 * E) + 1) 112 := by rw [q_p1]; exact q_in (by omega)
      have g2 : vp_in (nI (82 + 3 * E) + 2) 112 := by rw [q_p2]; exact q_in (by omega)
      repeat' (first | (with_reducible refine g_gLe (fun _ _ => ?_)) | (with_reducible apply And.intro) | (with_reducible assumption) | (with_reducible exact True.intro) | intro _)
    · obtain ⟨R, hR⟩ : ∃ R, R = f_X7_logs f p1 := ⟨_, rfl⟩
      rw [← hR]
      unfold f_X7_logs at hR
      rw [if_neg hc] at hR
      obtain ⟨v2, e2, hR⟩ := g_let hR
      rw [h81, q_3, q_82] at e2
      subst e2
      rw [q_p1, q_p2, c0, c1, c2] at hR
      obtain ⟨z3, e3, hR⟩ := g_let hR
      obtain ⟨z5, e5, hR⟩ := g_let hR
      obtain ⟨z7, e7, hR⟩ := g_let hR
      obtain ⟨z9, e9, hR⟩ := g_let hR
      rw [hR]
      exact p_putA (by omega) h81 p1 e3 e5 e7 e9
theorem lgPut_lo (F : Nat → Int32) (E : Nat) (p1 : Int32) {j : Nat} (h : j < 81) : lgPut F E p1 j = F j := by
  unfold lgPut
  rw [if_neg (by omega), if_neg (by omega), if_neg (by omega), if_neg (by omega)]
theorem lgPut_new (F : Nat → Int32) (E : Nat) (p1 : Int32) : lgPut F E p1 81 = nI (E + 1) ∧ lgPut F E p1 (82 + 3 * E) = p1 ∧ lgPut F E p1 (82 + 3 * E + 1) = F 76 ∧ lgPut F E p1 (82 + 3 * E + 2) = F 74 := by
  unfold lgPut
  refine ⟨if_pos rfl, ?_, ?_, ?_⟩
  · rw [if_neg (by omega), if_neg (by omega), if_neg (by omega), if_pos rfl]
  · rw [if_neg (by omega), if_neg (by omega), if_pos rfl]
  · rw [if_neg (by omega), if_pos rfl]
theorem lgPut_old (F : Nat → Int32) (E : Nat) (p1 : Int32) {i w : Nat} (hi : i < E) (hw : w < 3) : lgPut F E p1 (82 + 3 * i + w) = F (82 + 3 * i + w) := by
  unfold lgPut
  rw [if_neg (by omega), if_neg (by omega), if_neg (by omega), if_neg (by omega)]
/-- an event is added, both sides -/
theorem p_log {g : Nat → Nat → Int32} {f : Nat → Int32} (k tk sg : Int32) (h : RL_ g f) (h76 : f 76 = tk) (h74 : f 74 = sg) : RL_ (f_X2_add g k tk sg) (f_X7_logs f k) ∧ ok_X2_add g k tk ∧ ok_X7_logs f k ∧ ∀ j, j < 81 → f_X7_logs f k j = f j := by
  obtain ⟨E, X, hE, hX, g0, g1, f81, hj⟩ := h
  obtain ⟨l1, l2, l3⟩ := p_logs k hE f81
  have hv : vp_in (nI X) 10 := vp_in_nI (by omega) (by omega)
  have cX : (nI X).toNatClampNeg = X := q_c (by omega)
  have eX : nI (X + 1) - nI (X + 1) / 10 * 10 = nI ((X + 1) % 10) := pk_rem (d := 10) (by omega) (by omega) (by omega)
  have hok : ok_X2_add g k tk := by
    unfold ok_X2_add
    simp only [q_gL, g1]
    simp only [hv, true_and, and_true, implies_true, and_self]
  have e0 : ∀ G : Nat → Nat → Int32, G = f_X2_add g k tk sg → G 1 = upd (g 1) X k ∧ G 2 = upd (g 2) X tk ∧ G 3 = upd (g 3) X sg ∧ G 0 1 = nI ((X + 1) % 10) ∧ G 0 0 = (if 10 ≤ nI E then nI E else nI (E + 1)) := by
    intro G hG
    subst hG
    unfold f_X2_add
    simp only [q_gL, g0, g1, cX, q_p1, eX]
    by_cases hc : 10 ≤ nI E
    · simp only [if_pos hc]
      refine ⟨by simp [q_sF], by simp [q_sF], by simp [q_sF], by simp [q_sF, q_up], by simp [q_sF, q_up, g0]⟩
    · simp only [if_neg hc]
      refine ⟨by simp [q_sF], by simp [q_sF], by simp [q_sF], by simp [q_sF, q_up], by simp [q_sF, q_up]⟩
  obtain ⟨r1, r2, r3, r4, r5⟩ := e0 _ rfl
  have main : ∀ (F : Nat → Int32) (M : Nat), M ≤ 9 → (∀ i, i < 81 → F i = f i) → f_X7_logs f k = lgPut F M k → (f_X2_add g k tk sg) 0 0 = nI (M + 1) → (∀ j w, j < M → w < 3 → F (82 + 3 * (M - 1 - j) + w) = g (1 + w) ((X + 9 - j) % 10)) → RL_ (f_X2_add g k tk sg) (f_X7_logs f k) ∧ ∀ j, j < 81 → f_X7_logs f k j = f j := by
    intro F M hM hlo hF hG hold
    rw [hF]
    refine ⟨⟨M + 1, (X + 1) % 10, by omega, by omega, hG, r4, (lgPut_new F M k).1, fun j w hj hw => ?_⟩, fun j hj => by rw [lgPut_lo F M k hj, hlo j hj]⟩
    by_cases j0 : j = 0
    · subst j0
      have ep : ((X + 1) % 10 + 9 - 0) % 10 = X := by omega
      have ei : 82 + 3 * (M + 1 - 1 - 0) + w = 82 + 3 * M + w := by omega
      rw [ep, ei]
      obtain ⟨-, n1, n2, n3⟩ := lgPut_new F M k
      rcases (show w = 0 ∨ w = 1 ∨ w = 2 by omega) with rfl | rfl | rfl
      · rw [show 1 + 0 = 1 from rfl, r1, q_up, if_pos rfl]; exact n1.symm
      · rw [show 1 + 1 = 2 from rfl, r2, q_up, if_pos rfl, n2, hlo 76 (by omega), h76]
      · rw [show 1 + 2 = 3 from rfl, r3, q_up, if_pos rfl, n3, hlo 74 (by omega), h74]
    · have ep : ((X + 1) % 10 + 9 - j) % 10 = (X + 9 - (j - 1)) % 10 := by omega
      have en : ¬ (X + 9 - (j - 1)) % 10 = X := by omega
      have ei : 82 + 3 * (M + 1 - 1 - j) + w = 82 + 3 * (M - 1 - (j - 1)) + w := by omega
      have eo : lgPut F M k (82 + 3 * (M - 1 - (j - 1)) + w) = F (82 + 3 * (M - 1 - (j - 1)) + w) := lgPut_old F M k (by omega) hw
      rw [ep, ei, eo, hold (j - 1) w (by omega) hw]
      rcases (show w = 0 ∨ w = 1 ∨ w = 2 by omega) with rfl | rfl | rfl
      · rw [show 1 + 0 = 1 from rfl, r1, q_up, if_neg en]
      · rw [show 1 + 1 = 2 from rfl, r2, q_up, if_neg en]
      · rw [show 1 + 2 = 3 from rfl, r3, q_up, if_neg en]
  by_cases hc : E = 10
  · subst hc
    have hge : (10 : Int32) ≤ nI 10 := Int32.le_refl _
    rw [if_pos hge] at r5
    obtain ⟨m1, m2⟩ := main (upd (lgSh 109 f) 81 (nI 9)) 9 (by omega) (fun i hi => by rw [q_up, if_neg (by omega)]; unfold lgSh; rw [if_neg (by omega)]) (l3 rfl) r5 (fun j w hj' hw => by
      rw [q_up, if_neg (by omega)]
      unfold lgSh
      rw [if_pos (by omega), hj j w (by omega) hw]
      congr 1
      omega)
    exact ⟨m1, hok, l1, m2⟩
  · have hlt : ¬ (10 : Int32) ≤ nI E := nI_ge (b := 10) (by omega) (by omega)
    rw [if_neg hlt] at r5
    obtain ⟨m1, m2⟩ := main f E (by omega) (fun i _ => rfl) (l2 (by omega)) r5 (fun j w hj' hw => (hj j w hj' hw).symm)
    exact ⟨m1, hok, l1, m2⟩
