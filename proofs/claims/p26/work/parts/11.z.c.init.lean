/-! PURE: new objects -/
theorem pu_init : Rel n1 n1 cFirst nB n2 n2 n1 n1 nB n2 n2 (0, 0, fun _ => nS) n2 n1 nF n1 n1 n1 := by
  have n01 : ¬ (0 : Int32) = 1 := by decide
  refine ⟨⟨?_, ?_, ?_, ?_, ?_⟩, ⟨by decide, by decide, rfl, fun j hj => absurd hj (by omega)⟩, ⟨Or.inl rfl, rfl, fun q => absurd q n01⟩, 0, by omega, rfl, rfl, fun j hj => absurd hj (by omega)⟩
  · refine ⟨2, 1000, by omega, by omega, by omega, rfl, rfl, rfl, fun c w hc hw => ?_, fun c hc => ⟨0, 0, by omega, by omega, ?_, ?_⟩⟩
    · have e : nF (7 * c + w) = 0 := by
        unfold nF
        rw [q_up, if_neg (by omega), q_up, if_neg (by omega), q_up, if_neg (by omega), q_up, if_neg (by omega), q_up, if_neg (by omega), q_up, if_neg (by omega), q_up, if_neg (by omega), q_up, if_neg (by omega)]
      rw [e]
      rcases (show w = 0 ∨ w = 1 ∨ w = 2 ∨ w = 3 ∨ w = 4 ∨ w = 5 ∨ w = 6 by omega) with rfl | rfl | rfl | rfl | rfl | rfl | rfl <;> rfl
    · rfl
    · rfl
  · intro k hk
    rcases (show k = 0 ∨ k = 1 ∨ k = 2 ∨ k = 3 ∨ k = 4 ∨ k = 5 ∨ k = 6 ∨ k = 7 ∨ k = 8 by omega) with rfl | rfl | rfl | rfl | rfl | rfl | rfl | rfl | rfl <;> refine ⟨rfl, ?_, ?_⟩ <;> decide
  · exact ⟨0, by omega, rfl, rfl, fun k hk => absurd hk (by omega)⟩
  · exact ⟨rfl, rfl, rfl, rfl, rfl, rfl, rfl, rfl, Or.inl rfl, fun q => absurd q n01⟩
  · exact ⟨0, 0, by omega, by omega, rfl, rfl, rfl, fun j w hj => absurd hj (by omega)⟩
