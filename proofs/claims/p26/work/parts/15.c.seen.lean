theorem ok_seen131 (cx : (Nat → Int32)) (o : (Nat → Int32)) (st : (Nat → Int32)) (b : (Nat → Nat → Int32)) (pf : (Nat → Nat → Int32)) (g : (Nat → Nat → Int32)) (so : (Nat → Int32)) (sst : (Nat → Int32)) (sb : (Nat → Nat → Int32)) (sp : (Nat → Nat → Int32)) (sg : (Nat → Nat → Int32)) (hh : HVal) (t : (Nat → Nat → Int32)) (hI : Iv cx o st b pf g so sst sb sp sg hh t) : ∀ (n x : Nat) (h : Int64), x ≤ 9 → 9 < x + n → okl_L_seen_131 o st b pf g n h (nI x) := by
  intro n
  induction n with
  | zero => intro x h h1 h2; omega
  | succ n ih =>
    intro x h h1 h2
    rw [okl_L_seen_131]
    refine ⟨fun _ => ⟨(iv_current cx o st b pf g so sst sb sp sg hh t hI).1, g_gLe fun _ _ => ⟨(iv_doneIn cx o st b pf g n1 n1 n2 n2 n2 so sst sb sp sg hh t hI).1, trivial⟩⟩, fun c => ?_⟩
    have hx : x < 9 := Nat.lt_of_not_le fun q => c (nI_le q (by omega))
    refine ⟨(iv_setting cx o st b pf g so sst sb sp sg hh t (nI x) hI).1, g_gLe fun _ _ => g_gLe fun v _ => g_gLe fun w e => ?_⟩
    rw [e, q_p1]
    exact ih (x + 1) v (by omega) (by omega)
theorem ok_seen99 (cx : (Nat → Int32)) (o : (Nat → Int32)) (st : (Nat → Int32)) (b : (Nat → Nat → Int32)) (pf : (Nat → Nat → Int32)) (g : (Nat → Nat → Int32)) (so : (Nat → Int32)) (sst : (Nat → Int32)) (sb : (Nat → Nat → Int32)) (sp : (Nat → Nat → Int32)) (sg : (Nat → Nat → Int32)) (hh : HVal) (t : (Nat → Nat → Int32)) (hI : Iv cx o st b pf g so sst sb sp sg hh t) : ∀ (n x : Nat) (h : Int64), x ≤ 25 → 25 < x + n → okl_L_seen_99 o st b pf g n h (nI x) := by
  intro n
  induction n with
  | zero => intro x h h1 h2; omega
  | succ n ih =>
    intro x h h1 h2
    rw [okl_L_seen_99]
    refine ⟨fun _ => ok_seen131 cx o st b pf g so sst sb sp sg hh t hI 10 0 _ (by omega) (by omega), fun c => ?_⟩
    have hx : x < 25 := Nat.lt_of_not_le fun q => c (nI_le q (by omega))
    refine ⟨(iv_stage cx o st b pf g so sst sb sp sg hh t (nI x / 5) (nI x - nI x / 5 * 5) hI).1, g_gLe fun _ _ => g_gLe fun v _ => g_gLe fun w e => ?_⟩
    rw [e, q_p1]
    exact ih (x + 1) v (by omega) (by omega)
theorem ok_seen67 (cx : (Nat → Int32)) (o : (Nat → Int32)) (st : (Nat → Int32)) (b : (Nat → Nat → Int32)) (pf : (Nat → Nat → Int32)) (g : (Nat → Nat → Int32)) (so : (Nat → Int32)) (sst : (Nat → Int32)) (sb : (Nat → Nat → Int32)) (sp : (Nat → Nat → Int32)) (sg : (Nat → Nat → Int32)) (hh : HVal) (t : (Nat → Nat → Int32)) (hI : Iv cx o st b pf g so sst sb sp sg hh t) : ∀ (n x : Nat) (h : Int64), x ≤ 30 → 30 < x + n → okl_L_seen_67 o st b pf g n h (nI x) := by
  intro n
  induction n with
  | zero => intro x h h1 h2; omega
  | succ n ih =>
    intro x h h1 h2
    rw [okl_L_seen_67]
    refine ⟨fun _ => ok_seen99 cx o st b pf g so sst sb sp sg hh t hI 26 0 _ (by omega) (by omega), fun c => ?_⟩
    have hx : x < 30 := Nat.lt_of_not_le fun q => c (nI_le q (by omega))
    refine ⟨(iv_event cx o st b pf g so sst sb sp sg hh t (nI x / 3) (nI x - nI x / 3 * 3) hI).1, g_gLe fun _ _ => g_gLe fun v _ => g_gLe fun w e => ?_⟩
    rw [e, q_p1]
    exact ih (x + 1) v (by omega) (by omega)
theorem ok_seen40 (cx : (Nat → Int32)) (o : (Nat → Int32)) (st : (Nat → Int32)) (b : (Nat → Nat → Int32)) (pf : (Nat → Nat → Int32)) (g : (Nat → Nat → Int32)) (so : (Nat → Int32)) (sst : (Nat → Int32)) (sb : (Nat → Nat → Int32)) (sp : (Nat → Nat → Int32)) (sg : (Nat → Nat → Int32)) (hh : HVal) (t : (Nat → Nat → Int32)) (hI : Iv cx o st b pf g so sst sb sp sg hh t) : ∀ (n x : Nat) (h : Int64), x ≤ 12 → 12 < x + n → okl_L_seen_40 o st b pf g hh t n h (nI x) := by
  intro n
  induction n with
  | zero => intro x h h1 h2; omega
  | succ n ih =>
    intro x h h1 h2
    rw [okl_L_seen_40]
    refine ⟨fun _ => ok_seen67 cx o st b pf g so sst sb sp sg hh t hI 31 0 _ (by omega) (by omega), fun c => ?_⟩
    have hx : x < 12 := Nat.lt_of_not_le fun q => c (nI_le q (by omega))
    refine ⟨(iv_count cx o st b pf g so sst sb sp sg hh t (nI x) hI).1, g_gLe fun _ _ => g_gLe fun v _ => g_gLe fun w e => ?_⟩
    rw [e, q_p1]
    exact ih (x + 1) v (by omega) (by omega)
theorem ok_seen6 (cx : (Nat → Int32)) (o : (Nat → Int32)) (st : (Nat → Int32)) (b : (Nat → Nat → Int32)) (pf : (Nat → Nat → Int32)) (g : (Nat → Nat → Int32)) (so : (Nat → Int32)) (sst : (Nat → Int32)) (sb : (Nat → Nat → Int32)) (sp : (Nat → Nat → Int32)) (sg : (Nat → Nat → Int32)) (hh : HVal) (t : (Nat → Nat → Int32)) (hI : Iv cx o st b pf g so sst sb sp sg hh t) : ∀ (n x : Nat) (h : Int64), x ≤ 54 → 54 < x + n → okl_L_seen_6 o st b pf g hh t n h (nI x) := by
  intro n
  induction n with
  | zero => intro x h h1 h2; omega
  | succ n ih =>
    intro x h h1 h2
    rw [okl_L_seen_6]
    refine ⟨fun _ => ok_seen40 cx o st b pf g so sst sb sp sg hh t hI 13 0 _ (by omega) (by omega), fun c => ?_⟩
    have hx : x < 54 := Nat.lt_of_not_le fun q => c (nI_le q (by omega))
    refine ⟨(iv_cell cx o st b pf g so sst sb sp sg hh t (nI x / 9) (nI x - nI x / 9 * 9) hI).1, g_gLe fun _ _ => g_gLe fun v _ => g_gLe fun w e => ?_⟩
    rw [e, q_p1]
    exact ih (x + 1) v (by omega) (by omega)
theorem ok_seen (cx : (Nat → Int32)) (o : (Nat → Int32)) (st : (Nat → Int32)) (b : (Nat → Nat → Int32)) (pf : (Nat → Nat → Int32)) (g : (Nat → Nat → Int32)) (so : (Nat → Int32)) (sst : (Nat → Int32)) (sb : (Nat → Nat → Int32)) (sp : (Nat → Nat → Int32)) (sg : (Nat → Nat → Int32)) (hh : HVal) (t : (Nat → Nat → Int32)) (hI : Iv cx o st b pf g so sst sb sp sg hh t) : ok_L_seen o st b pf g hh t := by
  unfold ok_L_seen
  exact ok_seen6 cx o st b pf g so sst sb sp sg hh t hI 55 0 _ (by omega) (by omega)
theorem doneIn_eq (o st : Nat → Int32) (b pf g : Nat → Nat → Int32) (fo fst fo' fst' : Nat → Int32) (fb fp fg fb' fp' fg' : Nat → Nat → Int32) : (f_X6_doneIn o st b pf g fo fst fb fp fg).1 = (f_X6_doneIn o st b pf g fo' fst' fb' fp' fg').1 := by
  unfold f_X6_doneIn
  by_cases c : o 0 = 2
  · rw [if_pos c, if_pos c]
  · rw [if_neg c, if_neg c, q_gLp]
theorem count_eq (o st : Nat → Int32) (b pf : Nat → Nat → Int32) (hh hh' : HVal) (t t' : Nat → Nat → Int32) {x : Int32} (h : ¬ 12 ≤ x) : f_X6_count o st b pf hh t x = f_X6_count o st b pf hh' t' x := by
  have h1 : ¬ x = 12 := fun e => h (by rw [e]; decide)
  have h2 : ¬ x = 13 := fun e => h (by rw [e]; decide)
  unfold f_X6_count
  simp only [if_neg h1, if_neg h2]
theorem seen131_eq (o st : Nat → Int32) (b pf g : Nat → Nat → Int32) (fo fst fo' fst' : Nat → Int32) (fb fp fg fb' fp' fg' : Nat → Nat → Int32) : ∀ (n : Nat) (h : Int64) (x : Int32), (fl_L_seen_131 o st b pf g fo fst fb fp fg n h x).1 = (fl_L_seen_131 o st b pf g fo' fst' fb' fp' fg' n h x).1 := by
  intro n
  induction n with
  | zero => intro h x; rfl
  | succ n ih =>
    intro h x
    rw [fl_L_seen_131, fl_L_seen_131]
    by_cases c : 9 ≤ x
    · rw [if_pos c, if_pos c, q_gLp, q_gLp, q_gLp, q_gLp]
      show _ + _ = _ + _
      rw [doneIn_eq o st b pf g fo fst fo' fst' fb fp fg fb' fp' fg']
    · rw [if_neg c, if_neg c, q_gLp, q_gLp, q_gLp, q_gLp, q_gLp, q_gLp]
      exact ih _ _
theorem seen99_eq (o st : Nat → Int32) (b pf g : Nat → Nat → Int32) (fo fst fo' fst' : Nat → Int32) (fb fp fg fb' fp' fg' : Nat → Nat → Int32) : ∀ (n : Nat) (h : Int64) (x : Int32), (fl_L_seen_99 o st b pf g fo fst fb fp fg n h x).1 = (fl_L_seen_99 o st b pf g fo' fst' fb' fp' fg' n h x).1 := by
  intro n
  induction n with
  | zero => intro h x; rfl
  | succ n ih =>
    intro h x
    rw [fl_L_seen_99, fl_L_seen_99]
    by_cases c : 25 ≤ x
    · rw [if_pos c, if_pos c]
      exact seen131_eq o st b pf g fo fst fo' fst' fb fp fg fb' fp' fg' _ _ _
    · rw [if_neg c, if_neg c, q_gLp, q_gLp, q_gLp, q_gLp, q_gLp, q_gLp]
      exact ih _ _
theorem seen67_eq (o st : Nat → Int32) (b pf g : Nat → Nat → Int32) (fo fst fo' fst' : Nat → Int32) (fb fp fg fb' fp' fg' : Nat → Nat → Int32) : ∀ (n : Nat) (h : Int64) (x : Int32), (fl_L_seen_67 o st b pf g fo fst fb fp fg n h x).1 = (fl_L_seen_67 o st b pf g fo' fst' fb' fp' fg' n h x).1 := by
  intro n
  induction n with
  | zero => intro h x; rfl
  | succ n ih =>
    intro h x
    rw [fl_L_seen_67, fl_L_seen_67]
    by_cases c : 30 ≤ x
    · rw [if_pos c, if_pos c]
      exact seen99_eq o st b pf g fo fst fo' fst' fb fp fg fb' fp' fg' _ _ _
    · rw [if_neg c, if_neg c, q_gLp, q_gLp, q_gLp, q_gLp, q_gLp, q_gLp]
      exact ih _ _
theorem seen40_eq (o st : Nat → Int32) (b pf g : Nat → Nat → Int32) (fo fst fo' fst' : Nat → Int32) (fb fp fg fb' fp' fg' : Nat → Nat → Int32) (hh hh' : HVal) (t t' : Nat → Nat → Int32) : ∀ (n : Nat) (h : Int64) (x : Int32), (fl_L_seen_40 o st b pf g fo fst fb fp fg hh t n h x).1 = (fl_L_seen_40 o st b pf g fo' fst' fb' fp' fg' hh' t' n h x).1 := by
  intro n
  induction n with
  | zero => intro h x; rfl
  | succ n ih =>
    intro h x
    rw [fl_L_seen_40, fl_L_seen_40]
    by_cases c : 12 ≤ x
    · rw [if_pos c, if_pos c]
      exact seen67_eq o st b pf g fo fst fo' fst' fb fp fg fb' fp' fg' _ _ _
    · rw [if_neg c, if_neg c, q_gLp, q_gLp, q_gLp, q_gLp, q_gLp, q_gLp, count_eq o st b pf hh hh' t t' c]
      exact ih _ _
theorem seen6_eq (o st : Nat → Int32) (b pf g : Nat → Nat → Int32) (fo fst fo' fst' : Nat → Int32) (fb fp fg fb' fp' fg' : Nat → Nat → Int32) (hh hh' : HVal) (t t' : Nat → Nat → Int32) : ∀ (n : Nat) (h : Int64) (x : Int32), (fl_L_seen_6 o st b pf g fo fst fb fp fg hh t n h x).1 = (fl_L_seen_6 o st b pf g fo' fst' fb' fp' fg' hh' t' n h x).1 := by
  intro n
  induction n with
  | zero => intro h x; rfl
  | succ n ih =>
    intro h x
    rw [fl_L_seen_6, fl_L_seen_6]
    by_cases c : 54 ≤ x
    · rw [if_pos c, if_pos c]
      exact seen40_eq o st b pf g fo fst fo' fst' fb fp fg fb' fp' fg' hh hh' t t' _ _ _
    · rw [if_neg c, if_neg c, q_gLp, q_gLp, q_gLp, q_gLp, q_gLp, q_gLp]
      exact ih _ _
/-- what is seen of a state -/
def Fsn (v : SVal) : Int64 := (f_L_seen v.1 v.2.1 v.2.2.1 v.2.2.2.1 v.2.2.2.2 n1 n1 n2 n2 n2 (0, 0, fun _ => nS) n2).1
theorem seen_F (o st : Nat → Int32) (b pf g : Nat → Nat → Int32) (fo fst : Nat → Int32) (fb fp fg : Nat → Nat → Int32) (hh : HVal) (t : Nat → Nat → Int32) : (f_L_seen o st b pf g fo fst fb fp fg hh t).1 = Fsn (o, st, b, pf, g) := by
  unfold Fsn f_L_seen
  exact seen6_eq _ _ _ _ _ _ _ _ _ _ _ _ _ _ _ _ _ _ _ _ _ _
theorem lg_cmp_self (x : Int64) : lg_cmp x x = 0 := by
  unfold lg_cmp
  simp
theorem ok_refused (cx : (Nat → Int32)) (o : (Nat → Int32)) (st : (Nat → Int32)) (b : (Nat → Nat → Int32)) (pf : (Nat → Nat → Int32)) (g : (Nat → Nat → Int32)) (so : (Nat → Int32)) (sst : (Nat → Int32)) (sb : (Nat → Nat → Int32)) (sp : (Nat → Nat → Int32)) (sg : (Nat → Nat → Int32)) (hh : HVal) (t : (Nat → Nat → Int32)) (fo : (Nat → Int32)) (fst : (Nat → Int32)) (fb : (Nat → Nat → Int32)) (fp : (Nat → Nat → Int32)) (fg : (Nat → Nat → Int32)) (hI : Iv cx o st b pf g so sst sb sp sg hh t) (h0 : o 0 = 0) (h56 : st 5 ≤ st 6) : ok_L_refused o st b pf g fo fst fb fp fg hh t := by
  have hs := ok_seen cx o st b pf g so sst sb sp sg hh t hI
  unfold ok_L_refused
  exact ⟨hs, g_gLe fun R _ => g_gLe fun _ _ => ⟨And.intro (iv_count cx o st b pf g so sst sb sp sg hh t 12 hI).1 trivial, g_gLe fun _ _ => ⟨And.intro (iv_count cx o st b pf g so sst sb sp sg hh t 13 hI).1 trivial, g_gLe fun _ _ => ⟨ok_refuse0 cx o st b pf g so sst sb sp sg hh t _ _ _ _ _ hI h0 h56, ok_refuse1 cx o st b pf g so sst sb sp sg hh t _ _ _ _ _ hI h0 h56, hs, g_gLe fun _ _ => ⟨fun _ => ⟨And.intro (iv_count cx o st b pf g so sst sb sp sg hh t 12 hI).1 trivial, fun _ => ⟨And.intro (iv_count cx o st b pf g so sst sb sp sg hh t 13 hI).1 trivial, trivial⟩, fun _ => trivial⟩, fun _ => trivial⟩⟩⟩⟩⟩
theorem f_refused (o st : Nat → Int32) (b pf g : Nat → Nat → Int32) (fo fst : Nat → Int32) (fb fp fg : Nat → Nat → Int32) (hh : HVal) (t : Nat → Nat → Int32) : (f_L_refused o st b pf g fo fst fb fp fg hh t).1 = 1 := by
  unfold f_L_refused
  simp only [q_gLp, seen_F, lg_cmp_self, if_true]
theorem ok_puts_aux (cx o st : Nat → Int32) (b pf g : Nat → Nat → Int32) (so sst : Nat → Int32) (sb sp sg : Nat → Nat → Int32) (hh : HVal) (w : Int64) : ∀ (n j : Nat) (i k : Int32) (t : Nat → Nat → Int32), Iv cx o st b pf g so sst sb sp sg hh t → gz i → k = nI (8 * j) - 8 → j ≤ 8 → j < n → okl_L_puts_6 w n i k t ∧ Iv cx o st b pf g so sst sb sp sg hh (fl_L_puts_6 w n i k t).2 := by
  intro n
  induction n with
  | zero => intro j i k t hI hz hk h1 h2; omega
  | succ n ih =>
    intro j i k t hI hz hk h1 h2
    rw [okl_L_puts_6, fl_L_puts_6]
    simp only [q_gLp]
    have z0 : gz 0 := Or.inl rfl
    have z1 : gz 1 := Or.inr rfl
    by_cases c : k < 0
    · rw [if_pos c]
      exact ⟨⟨fun _ => ⟨hz, trivial⟩, fun q => absurd c q⟩, hI⟩
    · obtain ⟨j, rfl⟩ : ∃ i, j = i + 1 := ⟨j - 1, by
        rcases Nat.eq_zero_or_pos j with e | e
        · subst e; exact absurd (by rw [hk]; decide) c
        · omega⟩
      have hk8 : k + -8 = nI (8 * j) - 8 := by
        rw [hk, show 8 * (j + 1) = 8 * j + 8 by omega, ← nI_add]
        show nI (8 * j) + 8 - 8 + -8 = nI (8 * j) - 8
        grind
      rw [if_neg c]
      obtain ⟨v, ev⟩ : ∃ v, v = ((w >>> (k.toInt64 &&& 63)) &&& 255).toInt32 := ⟨_, rfl⟩
      rw [← ev]
      by_cases c2 : v ≤ 0
      · have q := ih j i (k + -8) t hI hz hk8 (by omega) (by omega)
        rw [if_pos c2]
        exact ⟨⟨fun r => absurd r c, fun _ => ⟨fun _ => q.1, fun r => absurd c2 r⟩⟩, q.2⟩
      · rw [if_neg c2]
        by_cases c3 : i = 0
        · have q := ih j 0 (k + -8) t hI z0 hk8 (by omega) (by omega)
          rw [if_pos c3]
          exact ⟨⟨fun r => absurd r c, fun _ => ⟨fun r => absurd r c2, fun _ => ⟨fun _ => q.1, fun r => absurd c3 r⟩⟩⟩, q.2⟩
        · rw [if_neg c3]
          have ht := iv_type cx o st b pf g so sst sb sp sg hh t ((v.toUInt32 % 65536).toInt32) hI
          obtain ⟨R, eR⟩ : ∃ R, R = f_X6_type t ((v.toUInt32 % 65536).toInt32) := ⟨_, rfl⟩
          rw [← eR] at ht ⊢
          by_cases c4 : R.1 ≤ 0
          · have q := ih j 0 (k + -8) R.2 ht.2 z0 hk8 (by omega) (by omega)
            rw [if_pos c4]
            exact ⟨⟨fun r => absurd r c, fun _ => ⟨fun r => absurd r c2, fun _ => ⟨fun r => absurd r c3, fun _ => ⟨ht.1, fun _ => q.1, fun r => absurd c4 r⟩⟩⟩⟩, q.2⟩
          · have q := ih j 1 (k + -8) R.2 ht.2 z1 hk8 (by omega) (by omega)
            rw [if_neg c4]
            exact ⟨⟨fun r => absurd r c, fun _ => ⟨fun r => absurd r c2, fun _ => ⟨fun r => absurd r c3, fun _ => ⟨ht.1, fun r => absurd r c4, fun _ => q.1⟩⟩⟩⟩, q.2⟩
theorem iv_puts (cx : (Nat → Int32)) (o : (Nat → Int32)) (st : (Nat → Int32)) (b : (Nat → Nat → Int32)) (pf : (Nat → Nat → Int32)) (g : (Nat → Nat → Int32)) (so : (Nat → Int32)) (sst : (Nat → Int32)) (sb : (Nat → Nat → Int32)) (sp : (Nat → Nat → Int32)) (sg : (Nat → Nat → Int32)) (hh : HVal) (t : (Nat → Nat → Int32)) (w : Int64) (hI : Iv cx o st b pf g so sst sb sp sg hh t) : ok_L_puts t w ∧ Iv cx o st b pf g so sst sb sp sg hh (f_L_puts t w).2 := by
  have q := ok_puts_aux cx o st b pf g so sst sb sp sg hh w 9 8 1 56 t hI (Or.inr rfl) (by decide) (by omega) (by omega)
  unfold ok_L_puts f_L_puts
  exact q
