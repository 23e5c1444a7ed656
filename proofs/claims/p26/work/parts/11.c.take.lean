/-! PURE: charge that is taken in -/
theorem g_gLe {α : Type} {x : α} {g : α → Prop} (h : ∀ z, z = x → g z) : gL x g := h x rfl
theorem q_in {c : Nat} (h : c < 112) : vp_in (nI c) 112 := vp_in_nI h (by omega)
def tkH (f : Nat → Int32) (c : Nat) (p2 : Int32) : Int32 := f (7 * c + 1) + p2 * f 44
def tkF (f : Nat → Int32) (c : Nat) (p2 : Int32) : Int32 := f (7 * c) + tkH f c p2 / 100
def tkO (f : Nat → Int32) (c : Nat) (p2 : Int32) : Int32 := if tkF f c p2 ≤ f 42 then 0 else tkF f c p2 - f 42
theorem p_takesIn (f : Nat → Int32) {c : Nat} (hc : c < 6) (p2 : Int32) : (f_X7_takesIn f (nI c) p2 = fun j => if j = 7 * c + 4 then f (7 * c + 4) + tkO f c p2 else if j = 7 * c then tkF f c p2 - tkO f c p2 else if j = 7 * c + 3 then f (7 * c + 3) + tkH f c p2 / 100 else if j = 7 * c + 1 then tkH f c p2 - tkH f c p2 / 100 * 100 else if j = 7 * c + 2 then f (7 * c + 2) + p2 else f j) ∧ ok_X7_takesIn f (nI c) p2 := by
  have c0 : (nI (7 * c)).toNatClampNeg = 7 * c := q_c (by omega)
  have c1 : (nI (7 * c + 1)).toNatClampNeg = 7 * c + 1 := q_c (by omega)
  have c2 : (nI (7 * c + 2)).toNatClampNeg = 7 * c + 2 := q_c (by omega)
  have c3 : (nI (7 * c + 3)).toNatClampNeg = 7 * c + 3 := q_c (by omega)
  have c4 : (nI (7 * c + 4)).toNatClampNeg = 7 * c + 4 := q_c (by omega)
  have n44 : ∀ k, k < 7 → ¬ 44 = 7 * c + k := fun k hk => by omega
  have n42 : ∀ k, k < 7 → ¬ 42 = 7 * c + k := fun k hk => by omega
  have e1 : ¬ 44 = 7 * c + 2 := n44 2 (by omega)
  have e2 : ¬ 42 = 7 * c + 1 := n42 1 (by omega)
  have e3 : ¬ 42 = 7 * c + 2 := n42 2 (by omega)
  have e4 : ¬ 42 = 7 * c + 3 := n42 3 (by omega)
  have e5 : ¬ 7 * c = 7 * c + 1 := by omega
  have e6 : ¬ 7 * c = 7 * c + 2 := by omega
  have e7 : ¬ 7 * c = 7 * c + 3 := by omega
  have e8 : ¬ 7 * c + 1 = 7 * c + 2 := by omega
  have e9 : ¬ 7 * c + 3 = 7 * c + 1 := by omega
  have f1 : ¬ 7 * c + 3 = 7 * c + 2 := by omega
  have f2 : ¬ 7 * c + 4 = 7 * c := by omega
  have f3 : ¬ 7 * c + 4 = 7 * c + 3 := by omega
  have f4 : ¬ 7 * c + 4 = 7 * c + 1 := by omega
  have f5 : ¬ 7 * c + 4 = 7 * c + 2 := by omega
  have g0 : vp_in (nI (7 * c)) 112 := q_in (by omega)
  have g1 : vp_in (nI (7 * c + 1)) 112 := q_in (by omega)
  have g2 : vp_in (nI (7 * c + 2)) 112 := q_in (by omega)
  have g3 : vp_in (nI (7 * c + 3)) 112 := q_in (by omega)
  have g4 : vp_in (nI (7 * c + 4)) 112 := q_in (by omega)
  constructor
  · obtain ⟨R, hR⟩ : ∃ R, R = f_X7_takesIn f (nI c) p2 := ⟨_, rfl⟩
    rw [← hR]
    unfold f_X7_takesIn at hR
    obtain ⟨v1, ev1, hR⟩ := g_let hR
    rw [q_7] at ev1
    subst ev1
    simp only [q_p0, q_p1, q_p2, q_p3, q_p4, c0, c1, c2, c3, c4] at hR
    obtain ⟨z3, ez3, hR⟩ := g_let hR
    obtain ⟨z6, ez6, hR⟩ := g_let hR
    obtain ⟨v9, ev9, hR⟩ := g_let hR
    obtain ⟨z11, ez11, hR⟩ := g_let hR
    obtain ⟨z14, ez14, hR⟩ := g_let hR
    obtain ⟨v17, ev17, hR⟩ := g_let hR
    have s1 : z6 (7 * c + 1) = tkH f c p2 := by
      rw [ez6, q_up, if_pos rfl, ez3, q_up, if_neg e8, q_up, if_neg e1]; rfl
    rw [s1] at ev9 ez11
    have s3 : z11 (7 * c + 3) = f (7 * c + 3) := by rw [ez11, q_up, if_neg e9, ez6, q_up, if_neg e9, ez3, q_up, if_neg f1]
    rw [s3] at ez14
    have s0 : z14 (7 * c) = f (7 * c) := by rw [ez14, q_up, if_neg e7, ez11, q_up, if_neg e5, ez6, q_up, if_neg e5, ez3, q_up, if_neg e6]
    have s42 : z14 42 = f 42 := by rw [ez14, q_up, if_neg e4, ez11, q_up, if_neg e2, ez6, q_up, if_neg e2, ez3, q_up, if_neg e3]
    have s4 : z14 (7 * c + 4) = f (7 * c + 4) := by rw [ez14, q_up, if_neg f3, ez11, q_up, if_neg f4, ez6, q_up, if_neg f4, ez3, q_up, if_neg f5]
    rw [s0, ev9] at ev17
    have s17 : v17 = tkF f c p2 := ev17
    rw [s42, s17] at hR
    have key : ∀ (O : Int32) (z y : Nat → Int32), z = upd z14 (7 * c) (tkF f c p2 - O) → y = upd z (7 * c + 4) (z (7 * c + 4) + O) → ∀ j, y j = if j = 7 * c + 4 then f (7 * c + 4) + O else if j = 7 * c then tkF f c p2 - O else if j = 7 * c + 3 then f (7 * c + 3) + tkH f c p2 / 100 else if j = 7 * c + 1 then tkH f c p2 - tkH f c p2 / 100 * 100 else if j = 7 * c + 2 then f (7 * c + 2) + p2 else f j := by
      intro O z y ez ey j
      have w4 : z (7 * c + 4) = f (7 * c + 4) := by rw [ez, q_up, if_neg f2, s4]
      rw [ey, w4, q_up]
      by_cases j4 : j = 7 * c + 4
      · rw [if_pos j4, if_pos j4]
      · rw [if_neg j4, if_neg j4, ez, q_up]
        by_cases j0 : j = 7 * c
        · rw [if_pos j0, if_pos j0]
        · rw [if_neg j0, if_neg j0, ez14, q_up, ev9]
          by_cases j3 : j = 7 * c + 3
          · rw [if_pos j3, if_pos j3]
          · rw [if_neg j3, if_neg j3, ez11, q_up]
            by_cases j1 : j = 7 * c + 1
            · rw [if_pos j1, if_pos j1]
            · rw [if_neg j1, if_neg j1, ez6, q_up, if_neg j1, ez3, q_up]
    unfold tkO
    by_cases h : tkF f c p2 ≤ f 42
    · rw [if_pos h] at hR ⊢
      obtain ⟨z19, ez19, hR⟩ := g_let hR
      obtain ⟨z22, ez22, hR⟩ := g_let hR
      rw [hR]
      funext j
      exact key 0 z19 z22 ez19 ez22 j
    · rw [if_neg h] at hR ⊢
      obtain ⟨v24, ev24, hR⟩ := g_let hR
      obtain ⟨z25, ez25, hR⟩ := g_let hR
      obtain ⟨z28, ez28, hR⟩ := g_let hR
      rw [hR, ← ev24]
      funext j
      exact key v24 z25 z28 ez25 ez28 j
  · unfold ok_X7_takesIn
    refine g_gLe (fun v1 ev1 => ?_)
    rw [q_7] at ev1
    subst ev1
    simp only [q_p0, q_p1, q_p2, q_p3, q_p4]
    repeat' (first | (with_reducible refine g_gLe (fun _ _ => ?_)) | (with_reducible apply And.intro) | (with_reducible assumption) | (with_reducible exact True.intro) | intro _)
