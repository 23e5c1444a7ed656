def f_X7_cell (f : (Nat → Int32)) (p1 : Int32) (p2 : Int32) : Int32 := (gL (f_X7_isCell f p1) (fun (R1 : Int32) => (if R1 = 0 then (-1) else (if p2 = 0 then (gL (f_X7_of f p1 0) (fun (R5 : Int32) => R5)) else (if p2 = 1 then (gL (f_X7_base f p1) (fun (R8 : Int32) => R8)) else (if p2 = 2 then (gL (f_X7_of f p1 1) (fun (R11 : Int32) => R11)) else (if p2 = 3 then (gL (f_X7_of f p1 ((2 + p2) - 3)) (fun (R14 : Int32) => R14)) else (if p2 = 4 then (gL (f_X7_of f p1 ((2 + p2) - 3)) (fun (R17 : Int32) => R17)) else (if p2 = 5 then (gL (f_X7_of f p1 ((2 + p2) - 3)) (fun (R20 : Int32) => R20)) else (if p2 = 6 then (gL (f_X7_of f p1 ((2 + p2) - 3)) (fun (R23 : Int32) => R23)) else (if p2 = 7 then (gL (f_X7_of f p1 ((2 + p2) - 3)) (fun (R26 : Int32) => R26)) else (if p2 = 8 then (gL (f_X7_of f p1 2) (fun (R29 : Int32) => (gL (f_X7_of f p1 3) (fun (R31 : Int32) => (R29 - R31))))) else (-2)))))))))))))
def ok_X7_cell (f : (Nat → Int32)) (p1 : Int32) (p2 : Int32) : Prop := (ok_X7_isCell f p1) ∧ (gL (f_X7_isCell f p1) (fun (R1 : Int32) => ((R1 = 0 → True) ∧ (¬ R1 = 0 → ((p2 = 0 → (ok_X7_of p1 0) ∧ True) ∧ (¬ p2 = 0 → ((p2 = 1 → (ok_X7_base f p1) ∧ True) ∧ (¬ p2 = 1 → ((p2 = 2 → (ok_X7_of p1 1) ∧ True) ∧ (¬ p2 = 2 → ((p2 = 3 → (ok_X7_of p1 ((2 + p2) - 3)) ∧ True) ∧ (¬ p2 = 3 → ((p2 = 4 → (ok_X7_of p1 ((2 + p2) - 3)) ∧ True) ∧ (¬ p2 = 4 → ((p2 = 5 → (ok_X7_of p1 ((2 + p2) - 3)) ∧ True) ∧ (¬ p2 = 5 → ((p2 = 6 → (ok_X7_of p1 ((2 + p2) - 3)) ∧ True) ∧ (¬ p2 = 6 → ((p2 = 7 → (ok_X7_of p1 ((2 + p2) - 3)) ∧ True) ∧ (¬ p2 = 7 → ((p2 = 8 → (ok_X7_of p1 2) ∧ (gL (f_X7_of f p1 2) (fun (R29 : Int32) => (ok_X7_of p1 3) ∧ True))) ∧ (¬ p2 = 8 → True))))))))))))))))))))))
set_option maxHeartbeats 4000000 in
set_option maxRecDepth 100000 in
theorem c_X7_cell (l : Launch) (G : gG) (mm : Nat → Nat) (o : (Nat → Int32)) (f : (Nat → Int32)) (p1 : Int32) (p2 : Int32) (R : Int32) (hR : R = f_X7_cell f p1 p2) (hok : ok_X7_cell f p1 p2) : CT l G yX7_cell wsX7_cell 2 43 [.ref (mm 0), .int p1, .int p2] [MO G mm o, AW G (mm 1) 112 f] (some (.int R)) [MO G mm o, AW G (mm 1) 112 f] := by
  unfold f_X7_cell at hR
  unfold ok_X7_cell at hok
  refine CT.of (cc := cX7_cell) (maxL := 3) (ret := (some .int)) (plainFor_of_name (by decide +kernel)) rfl rfl (Nat.le_of_ble_eq_true rfl) ?_
  intro p e s m below meth c A ls hx hb hml hr hts hown hlocks hK hP hD hA hS hl
  have hown : s.vm.findClass RX7 = some m.cls := hown
  have hl : lv_has ls 3 [(0, .ref (mm 0)), (1, .int p1), (2, .int p2)] := hl
  have hinX7 : ∀ w ∈ wsX70, w ∈ wsX7_cell := fun w h => List.mem_cons_of_mem _ (List.mem_append_right _ h)
  refine lv_aload_n hx hb dX7_cell_0 rfl (lv_at hl 0 rfl) ?_
  refine lv_iload_n hx hb dX7_cell_1 rfl (lv_at hl 1 rfl) ?_
  obtain ⟨k2, hok⟩ := hok
  obtain ⟨R1, eR1, hR, hok⟩ := g_let2 hR hok
  refine g_callV (c_X7_isCell l G mm o f p1 R1 eR1 k2) hx hb hml hown hts hK hP hD hS hA gX7_cell_X7_isCell rfl (n := 1) (by decide +kernel) rfl ⟨Nat.le_of_ble_eq_true rfl, Nat.le_of_ble_eq_true rfl⟩ [0, 1] rfl (by decide) 0 rfl (ci := 7) rfl hl.1 rfl (Nat.le_of_ble_eq_true rfl) ⟨Nat.zero_le _, Nat.zero_le _⟩ dX7_cell_2 (fun H locs hP hD hS => ?_)
  have hP : va_P G.1 vwCl (List.flatten [MO G mm o, AW G (mm 1) 112 f]) H := hP
  have hD : va_D A (List.flatten [MO G mm o, AW G (mm 1) 112 f]) := hD
  refine lv_if_ne (tgt := 10) hx hb dX7_cell_5 (by decide) (fun c3 => ?_) (fun c3 => ?_)
  · rw [if_neg c3] at hR
    have hok := hok.2 c3
    refine lv_iload_n hx hb dX7_cell_10 rfl (lv_at hl 2 rfl) ?_
    by_cases c4 : p2 = 0
    · rw [if_pos c4] at hR
      have hok := hok.1 c4
      refine lv_tableIn (off := 49) (tgt := 60) hx hb dX7_cell_11 (by rw [c4]; decide) (by rw [c4]; decide) (by rw [c4]; rfl) (by decide) ?_
      refine lv_aload_n hx hb dX7_cell_60 rfl (lv_at hl 0 rfl) ?_
      refine g_get (ci := 7) (v := .ref (mm 1)) (C := RX7) (T := TX7) (N := 12) hx hb hts hinX7 hown hK hP 0 rfl rfl 0 (by decide) (hts (.fieldLink RX7 7 "ChargeStagesModel" "s" "[I") (List.mem_of_getElem? (i := 1) rfl)) rfl dX7_cell_61 ?_
      refine lv_iload_n hx hb dX7_cell_64 rfl (lv_at hl 1 rfl) ?_
      refine lv_iconst (v := 0) hx hb dX7_cell_65 (by decide) ?_
      obtain ⟨k6, hok⟩ := hok
      obtain ⟨R5, eR5, hR⟩ := g_let hR
      refine g_callS (c_X7_of l G (mm 1) f p1 0 R5 eR5 k6) hx hb hml hown hts hK hP hD hS hA gX7_cell_X7_of rfl (n := 3) (by decide +kernel) rfl ⟨Nat.le_of_ble_eq_true rfl, Nat.le_of_ble_eq_true rfl⟩ [1] rfl (by decide) hl.1 rfl (Nat.le_of_ble_eq_true rfl) ⟨Nat.zero_le _, Nat.zero_le _⟩ dX7_cell_66 (fun H locs hP hD hS => ?_)
      have hP : va_P G.1 vwCl (List.flatten [MO G mm o, AW G (mm 1) 112 f]) H := hP
      have hD : va_D A (List.flatten [MO G mm o, AW G (mm 1) 112 f]) := hD
      subst hR
      exact g_ret hx hb hr hlocks hS dX7_cell_69 rfl hP
    · rw [if_neg c4] at hR
      have hok := hok.2 c4
      by_cases c7 : p2 = 1
      · rw [if_pos c7] at hR
        have hok := hok.1 c7
        refine lv_tableIn (off := 59) (tgt := 70) hx hb dX7_cell_11 (by rw [c7]; decide) (by rw [c7]; decide) (by rw [c7]; rfl) (by decide) ?_
        refine lv_aload_n hx hb dX7_cell_70 rfl (lv_at hl 0 rfl) ?_
        refine g_get (ci := 7) (v := .ref (mm 1)) (C := RX7) (T := TX7) (N := 12) hx hb hts hinX7 hown hK hP 0 rfl rfl 0 (by decide) (hts (.fieldLink RX7 7 "ChargeStagesModel" "s" "[I") (List.mem_of_getElem? (i := 1) rfl)) rfl dX7_cell_71 ?_
        refine lv_iload_n hx hb dX7_cell_74 rfl (lv_at hl 1 rfl) ?_
        obtain ⟨k9, hok⟩ := hok
        obtain ⟨R8, eR8, hR⟩ := g_let hR
        refine g_callS (c_X7_base l G (mm 1) f p1 R8 eR8 k9) hx hb hml hown hts hK hP hD hS hA gX7_cell_X7_base rfl (n := 2) (by decide +kernel) rfl ⟨Nat.le_of_ble_eq_true rfl, Nat.le_of_ble_eq_true rfl⟩ [1] rfl (by decide) hl.1 rfl (Nat.le_of_ble_eq_true rfl) ⟨Nat.zero_le _, Nat.zero_le _⟩ dX7_cell_75 (fun H locs hP hD hS => ?_)
        have hP : va_P G.1 vwCl (List.flatten [MO G mm o, AW G (mm 1) 112 f]) H := hP
        have hD : va_D A (List.flatten [MO G mm o, AW G (mm 1) 112 f]) := hD
        subst hR
        exact g_ret hx hb hr hlocks hS dX7_cell_78 rfl hP
      · rw [if_neg c7] at hR
        have hok := hok.2 c7
        by_cases c10 : p2 = 2
        · rw [if_pos c10] at hR
          have hok := hok.1 c10
          refine lv_tableIn (off := 68) (tgt := 79) hx hb dX7_cell_11 (by rw [c10]; decide) (by rw [c10]; decide) (by rw [c10]; rfl) (by decide) ?_
          refine lv_aload_n hx hb dX7_cell_79 rfl (lv_at hl 0 rfl) ?_
          refine g_get (ci := 7) (v := .ref (mm 1)) (C := RX7) (T := TX7) (N := 12) hx hb hts hinX7 hown hK hP 0 rfl rfl 0 (by decide) (hts (.fieldLink RX7 7 "ChargeStagesModel" "s" "[I") (List.mem_of_getElem? (i := 1) rfl)) rfl dX7_cell_80 ?_
          refine lv_iload_n hx hb dX7_cell_83 rfl (lv_at hl 1 rfl) ?_
          refine lv_iconst (v := 1) hx hb dX7_cell_84 (by decide) ?_
          obtain ⟨k12, hok⟩ := hok
          obtain ⟨R11, eR11, hR⟩ := g_let hR
          refine g_callS (c_X7_of l G (mm 1) f p1 1 R11 eR11 k12) hx hb hml hown hts hK hP hD hS hA gX7_cell_X7_of rfl (n := 3) (by decide +kernel) rfl ⟨Nat.le_of_ble_eq_true rfl, Nat.le_of_ble_eq_true rfl⟩ [1] rfl (by decide) hl.1 rfl (Nat.le_of_ble_eq_true rfl) ⟨Nat.zero_le _, Nat.zero_le _⟩ dX7_cell_85 (fun H locs hP hD hS => ?_)
          have hP : va_P G.1 vwCl (List.flatten [MO G mm o, AW G (mm 1) 112 f]) H := hP
          have hD : va_D A (List.flatten [MO G mm o, AW G (mm 1) 112 f]) := hD
          subst hR
          exact g_ret hx hb hr hlocks hS dX7_cell_88 rfl hP
        · rw [if_neg c10] at hR
          have hok := hok.2 c10
          by_cases c13 : p2 = 3
          · rw [if_pos c13] at hR
            have hok := hok.1 c13
            refine lv_tableIn (off := 78) (tgt := 89) hx hb dX7_cell_11 (by rw [c13]; decide) (by rw [c13]; decide) (by rw [c13]; rfl) (by decide) ?_
            refine lv_aload_n hx hb dX7_cell_89 rfl (lv_at hl 0 rfl) ?_
            refine g_get (ci := 7) (v := .ref (mm 1)) (C := RX7) (T := TX7) (N := 12) hx hb hts hinX7 hown hK hP 0 rfl rfl 0 (by decide) (hts (.fieldLink RX7 7 "ChargeStagesModel" "s" "[I") (List.mem_of_getElem? (i := 1) rfl)) rfl dX7_cell_90 ?_
            refine lv_iload_n hx hb dX7_cell_93 rfl (lv_at hl 1 rfl) ?_
            refine lv_iconst (v := 2) hx hb dX7_cell_94 (by decide) ?_
            refine lv_iload_n hx hb dX7_cell_95 rfl (lv_at hl 2 rfl) ?_
            refine lv_iadd hx hb dX7_cell_96 ?_
            refine lv_iconst (v := 3) hx hb dX7_cell_97 (by decide) ?_
            refine lv_isub hx hb dX7_cell_98 ?_
            obtain ⟨k15, hok⟩ := hok
            obtain ⟨R14, eR14, hR⟩ := g_let hR
            refine g_callS (c_X7_of l G (mm 1) f p1 ((2 + p2) - 3) R14 eR14 k15) hx hb hml hown hts hK hP hD hS hA gX7_cell_X7_of rfl (n := 3) (by decide +kernel) rfl ⟨Nat.le_of_ble_eq_true rfl, Nat.le_of_ble_eq_true rfl⟩ [1] rfl (by decide) hl.1 rfl (Nat.le_of_ble_eq_true rfl) ⟨Nat.zero_le _, Nat.zero_le _⟩ dX7_cell_99 (fun H locs hP hD hS => ?_)
            have hP : va_P G.1 vwCl (List.flatten [MO G mm o, AW G (mm 1) 112 f]) H := hP
            have hD : va_D A (List.flatten [MO G mm o, AW G (mm 1) 112 f]) := hD
            subst hR
            exact g_ret hx hb hr hlocks hS dX7_cell_102 rfl hP
          · rw [if_neg c13] at hR
            have hok := hok.2 c13
            by_cases c16 : p2 = 4
            · rw [if_pos c16] at hR
              have hok := hok.1 c16
              refine lv_tableIn (off := 78) (tgt := 89) hx hb dX7_cell_11 (by rw [c16]; decide) (by rw [c16]; decide) (by rw [c16]; rfl) (by decide) ?_
              refine lv_aload_n hx hb dX7_cell_89 rfl (lv_at hl 0 rfl) ?_
              refine g_get (ci := 7) (v := .ref (mm 1)) (C := RX7) (T := TX7) (N := 12) hx hb hts hinX7 hown hK hP 0 rfl rfl 0 (by decide) (hts (.fieldLink RX7 7 "ChargeStagesModel" "s" "[I") (List.mem_of_getElem? (i := 1) rfl)) rfl dX7_cell_90 ?_
              refine lv_iload_n hx hb dX7_cell_93 rfl (lv_at hl 1 rfl) ?_
              refine lv_iconst (v := 2) hx hb dX7_cell_94 (by decide) ?_
              refine lv_iload_n hx hb dX7_cell_95 rfl (lv_at hl 2 rfl) ?_
              refine lv_iadd hx hb dX7_cell_96 ?_
              refine lv_iconst (v := 3) hx hb dX7_cell_97 (by decide) ?_
              refine lv_isub hx hb dX7_cell_98 ?_
              obtain ⟨k18, hok⟩ := hok
              obtain ⟨R17, eR17, hR⟩ := g_let hR
              refine g_callS (c_X7_of l G (mm 1) f p1 ((2 + p2) - 3) R17 eR17 k18) hx hb hml hown hts hK hP hD hS hA gX7_cell_X7_of rfl (n := 3) (by decide +kernel) rfl ⟨Nat.le_of_ble_eq_true rfl, Nat.le_of_ble_eq_true rfl⟩ [1] rfl (by decide) hl.1 rfl (Nat.le_of_ble_eq_true rfl) ⟨Nat.zero_le _, Nat.zero_le _⟩ dX7_cell_99 (fun H locs hP hD hS => ?_)
              have hP : va_P G.1 vwCl (List.flatten [MO G mm o, AW G (mm 1) 112 f]) H := hP
              have hD : va_D A (List.flatten [MO G mm o, AW G (mm 1) 112 f]) := hD
              subst hR
              exact g_ret hx hb hr hlocks hS dX7_cell_102 rfl hP
            · rw [if_neg c16] at hR
              have hok := hok.2 c16
              by_cases c19 : p2 = 5
              · rw [if_pos c19] at hR
                have hok := hok.1 c19
                refine lv_tableIn (off := 78) (tgt := 89) hx hb dX7_cell_11 (by rw [c19]; decide) (by rw [c19]; decide) (by rw [c19]; rfl) (by decide) ?_
                refine lv_aload_n hx hb dX7_cell_89 rfl (lv_at hl 0 rfl) ?_
                refine g_get (ci := 7) (v := .ref (mm 1)) (C := RX7) (T := TX7) (N := 12) hx hb hts hinX7 hown hK hP 0 rfl rfl 0 (by decide) (hts (.fieldLink RX7 7 "ChargeStagesModel" "s" "[I") (List.mem_of_getElem? (i := 1) rfl)) rfl dX7_cell_90 ?_
                refine lv_iload_n hx hb dX7_cell_93 rfl (lv_at hl 1 rfl) ?_
                refine lv_iconst (v := 2) hx hb dX7_cell_94 (by decide) ?_
                refine lv_iload_n hx hb dX7_cell_95 rfl (lv_at hl 2 rfl) ?_
                refine lv_iadd hx hb dX7_cell_96 ?_
                refine lv_iconst (v := 3) hx hb dX7_cell_97 (by decide) ?_
                refine lv_isub hx hb dX7_cell_98 ?_
                obtain ⟨k21, hok⟩ := hok
                obtain ⟨R20, eR20, hR⟩ := g_let hR
                refine g_callS (c_X7_of l G (mm 1) f p1 ((2 + p2) - 3) R20 eR20 k21) hx hb hml hown hts hK hP hD hS hA gX7_cell_X7_of rfl (n := 3) (by decide +kernel) rfl ⟨Nat.le_of_ble_eq_true rfl, Nat.le_of_ble_eq_true rfl⟩ [1] rfl (by decide) hl.1 rfl (Nat.le_of_ble_eq_true rfl) ⟨Nat.zero_le _, Nat.zero_le _⟩ dX7_cell_99 (fun H locs hP hD hS => ?_)
                have hP : va_P G.1 vwCl (List.flatten [MO G mm o, AW G (mm 1) 112 f]) H := hP
                have hD : va_D A (List.flatten [MO G mm o, AW G (mm 1) 112 f]) := hD
                subst hR
                exact g_ret hx hb hr hlocks hS dX7_cell_102 rfl hP
              · rw [if_neg c19] at hR
                have hok := hok.2 c19
                by_cases c22 : p2 = 6
                · rw [if_pos c22] at hR
                  have hok := hok.1 c22
                  refine lv_tableIn (off := 78) (tgt := 89) hx hb dX7_cell_11 (by rw [c22]; decide) (by rw [c22]; decide) (by rw [c22]; rfl) (by decide) ?_
                  refine lv_aload_n hx hb dX7_cell_89 rfl (lv_at hl 0 rfl) ?_
                  refine g_get (ci := 7) (v := .ref (mm 1)) (C := RX7) (T := TX7) (N := 12) hx hb hts hinX7 hown hK hP 0 rfl rfl 0 (by decide) (hts (.fieldLink RX7 7 "ChargeStagesModel" "s" "[I") (List.mem_of_getElem? (i := 1) rfl)) rfl dX7_cell_90 ?_
                  refine lv_iload_n hx hb dX7_cell_93 rfl (lv_at hl 1 rfl) ?_
                  refine lv_iconst (v := 2) hx hb dX7_cell_94 (by decide) ?_
                  refine lv_iload_n hx hb dX7_cell_95 rfl (lv_at hl 2 rfl) ?_
                  refine lv_iadd hx hb dX7_cell_96 ?_
                  refine lv_iconst (v := 3) hx hb dX7_cell_97 (by decide) ?_
                  refine lv_isub hx hb dX7_cell_98 ?_
                  obtain ⟨k24, hok⟩ := hok
                  obtain ⟨R23, eR23, hR⟩ := g_let hR
                  refine g_callS (c_X7_of l G (mm 1) f p1 ((2 + p2) - 3) R23 eR23 k24) hx hb hml hown hts hK hP hD hS hA gX7_cell_X7_of rfl (n := 3) (by decide +kernel) rfl ⟨Nat.le_of_ble_eq_true rfl, Nat.le_of_ble_eq_true rfl⟩ [1] rfl (by decide) hl.1 rfl (Nat.le_of_ble_eq_true rfl) ⟨Nat.zero_le _, Nat.zero_le _⟩ dX7_cell_99 (fun H locs hP hD hS => ?_)
                  have hP : va_P G.1 vwCl (List.flatten [MO G mm o, AW G (mm 1) 112 f]) H := hP
                  have hD : va_D A (List.flatten [MO G mm o, AW G (mm 1) 112 f]) := hD
                  subst hR
                  exact g_ret hx hb hr hlocks hS dX7_cell_102 rfl hP
                · rw [if_neg c22] at hR
                  have hok := hok.2 c22
                  by_cases c25 : p2 = 7
                  · rw [if_pos c25] at hR
                    have hok := hok.1 c25
                    refine lv_tableIn (off := 78) (tgt := 89) hx hb dX7_cell_11 (by rw [c25]; decide) (by rw [c25]; decide) (by rw [c25]; rfl) (by decide) ?_
                    refine lv_aload_n hx hb dX7_cell_89 rfl (lv_at hl 0 rfl) ?_
                    refine g_get (ci := 7) (v := .ref (mm 1)) (C := RX7) (T := TX7) (N := 12) hx hb hts hinX7 hown hK hP 0 rfl rfl 0 (by decide) (hts (.fieldLink RX7 7 "ChargeStagesModel" "s" "[I") (List.mem_of_getElem? (i := 1) rfl)) rfl dX7_cell_90 ?_
                    refine lv_iload_n hx hb dX7_cell_93 rfl (lv_at hl 1 rfl) ?_
                    refine lv_iconst (v := 2) hx hb dX7_cell_94 (by decide) ?_
                    refine lv_iload_n hx hb dX7_cell_95 rfl (lv_at hl 2 rfl) ?_
                    refine lv_iadd hx hb dX7_cell_96 ?_
                    refine lv_iconst (v := 3) hx hb dX7_cell_97 (by decide) ?_
                    refine lv_isub hx hb dX7_cell_98 ?_
                    obtain ⟨k27, hok⟩ := hok
                    obtain ⟨R26, eR26, hR⟩ := g_let hR
                    refine g_callS (c_X7_of l G (mm 1) f p1 ((2 + p2) - 3) R26 eR26 k27) hx hb hml hown hts hK hP hD hS hA gX7_cell_X7_of rfl (n := 3) (by decide +kernel) rfl ⟨Nat.le_of_ble_eq_true rfl, Nat.le_of_ble_eq_true rfl⟩ [1] rfl (by decide) hl.1 rfl (Nat.le_of_ble_eq_true rfl) ⟨Nat.zero_le _, Nat.zero_le _⟩ dX7_cell_99 (fun H locs hP hD hS => ?_)
                    have hP : va_P G.1 vwCl (List.flatten [MO G mm o, AW G (mm 1) 112 f]) H := hP
                    have hD : va_D A (List.flatten [MO G mm o, AW G (mm 1) 112 f]) := hD
                    subst hR
                    exact g_ret hx hb hr hlocks hS dX7_cell_102 rfl hP
                  · rw [if_neg c25] at hR
                    have hok := hok.2 c25
                    by_cases c28 : p2 = 8
                    · rw [if_pos c28] at hR
                      have hok := hok.1 c28
                      refine lv_tableIn (off := 92) (tgt := 103) hx hb dX7_cell_11 (by rw [c28]; decide) (by rw [c28]; decide) (by rw [c28]; rfl) (by decide) ?_
                      refine lv_aload_n hx hb dX7_cell_103 rfl (lv_at hl 0 rfl) ?_
                      refine g_get (ci := 7) (v := .ref (mm 1)) (C := RX7) (T := TX7) (N := 12) hx hb hts hinX7 hown hK hP 0 rfl rfl 0 (by decide) (hts (.fieldLink RX7 7 "ChargeStagesModel" "s" "[I") (List.mem_of_getElem? (i := 1) rfl)) rfl dX7_cell_104 ?_
                      refine lv_iload_n hx hb dX7_cell_107 rfl (lv_at hl 1 rfl) ?_
                      refine lv_iconst (v := 2) hx hb dX7_cell_108 (by decide) ?_
                      obtain ⟨k30, hok⟩ := hok
                      obtain ⟨R29, eR29, hR, hok⟩ := g_let2 hR hok
                      refine g_callS (c_X7_of l G (mm 1) f p1 2 R29 eR29 k30) hx hb hml hown hts hK hP hD hS hA gX7_cell_X7_of rfl (n := 3) (by decide +kernel) rfl ⟨Nat.le_of_ble_eq_true rfl, Nat.le_of_ble_eq_true rfl⟩ [1] rfl (by decide) hl.1 rfl (Nat.le_of_ble_eq_true rfl) ⟨Nat.zero_le _, Nat.zero_le _⟩ dX7_cell_109 (fun H locs hP hD hS => ?_)
                      have hP : va_P G.1 vwCl (List.flatten [MO G mm o, AW G (mm 1) 112 f]) H := hP
                      have hD : va_D A (List.flatten [MO G mm o, AW G (mm 1) 112 f]) := hD
                      refine lv_aload_n hx hb dX7_cell_112 rfl (lv_at hl 0 rfl) ?_
                      refine g_get (ci := 7) (v := .ref (mm 1)) (C := RX7) (T := TX7) (N := 12) hx hb hts hinX7 hown hK hP 0 rfl rfl 0 (by decide) (hts (.fieldLink RX7 7 "ChargeStagesModel" "s" "[I") (List.mem_of_getElem? (i := 1) rfl)) rfl dX7_cell_113 ?_
                      refine lv_iload_n hx hb dX7_cell_116 rfl (lv_at hl 1 rfl) ?_
                      refine lv_iconst (v := 3) hx hb dX7_cell_117 (by decide) ?_
                      obtain ⟨k32, hok⟩ := hok
                      obtain ⟨R31, eR31, hR⟩ := g_let hR
                      refine g_callS (c_X7_of l G (mm 1) f p1 3 R31 eR31 k32) hx hb hml hown hts hK hP hD hS hA gX7_cell_X7_of rfl (n := 3) (by decide +kernel) rfl ⟨Nat.le_of_ble_eq_true rfl, Nat.le_of_ble_eq_true rfl⟩ [1] rfl (by decide) hl.1 rfl (Nat.le_of_ble_eq_true rfl) ⟨Nat.zero_le _, Nat.zero_le _⟩ dX7_cell_118 (fun H locs hP hD hS => ?_)
                      have hP : va_P G.1 vwCl (List.flatten [MO G mm o, AW G (mm 1) 112 f]) H := hP
                      have hD : va_D A (List.flatten [MO G mm o, AW G (mm 1) 112 f]) := hD
                      refine lv_isub hx hb dX7_cell_121 ?_
                      subst hR
                      exact g_ret hx hb hr hlocks hS dX7_cell_122 rfl hP
                    · rw [if_neg c28] at hR
                      have hok := hok.2 c28
                      refine lv_tableOut (tgt := 123) hx hb dX7_cell_11 (g_out 9 (lt_s (lt_s (lt_s (lt_s (lt_s (lt_s (lt_s (lt_s (lt_s lt_0 c4) c7) c10) c13) c16) c19) c22) c25) c28)) (by decide) ?_
                      refine lv_bipush (v := (-2)) hx hb dX7_cell_123 (by decide) ?_
                      subst hR
                      exact g_ret hx hb hr hlocks hS dX7_cell_125 rfl hP
  · rw [if_pos c3] at hR
    have hok := hok.1 c3
    refine lv_iconst (v := (-1)) hx hb dX7_cell_8 (by decide) ?_
    subst hR
    exact g_ret hx hb hr hlocks hS dX7_cell_9 rfl hP
def f_X7_setting (f : (Nat → Int32)) (p1 : Int32) : Int32 := (gL (f_X7_in p1 0 8) (fun (R1 : Int32) => (if R1 = 0 then (-1) else ((f ((42 + p1).toNatClampNeg)) + 1000))))
def ok_X7_setting (p1 : Int32) : Prop := (gL (f_X7_in p1 0 8) (fun (R1 : Int32) => ((R1 = 0 → True) ∧ (¬ R1 = 0 → (vp_in (42 + p1) 112) ∧ True))))
set_option maxHeartbeats 4000000 in
set_option maxRecDepth 100000 in
theorem c_X7_setting (l : Launch) (G : gG) (mm : Nat → Nat) (o : (Nat → Int32)) (f : (Nat → Int32)) (p1 : Int32) (R : Int32) (hR : R = f_X7_setting f p1) (hok : ok_X7_setting p1) : CT l G yX7_setting wsX7_setting 1 22 [.ref (mm 0), .int p1] [MO G mm o, AW G (mm 1) 112 f] (some (.int R)) [MO G mm o, AW G (mm 1) 112 f] := by
  unfold f_X7_setting at hR
  unfold ok_X7_setting at hok
  refine CT.of (cc := cX7_setting) (maxL := 2) (ret := (some .int)) (plainFor_of_name (by decide +kernel)) rfl rfl (Nat.le_of_ble_eq_true rfl) ?_
  intro p e s m below meth c A ls hx hb hml hr hts hown hlocks hK hP hD hA hS hl
  have hown : s.vm.findClass RX7 = some m.cls := hown
  have hl : lv_has ls 2 [(0, .ref (mm 0)), (1, .int p1)] := hl
  have hinX7 : ∀ w ∈ wsX70, w ∈ wsX7_setting := fun w h => List.mem_cons_of_mem _ (List.mem_append_right _ h)
  refine lv_iload_n hx hb dX7_setting_0 rfl (lv_at hl 1 rfl) ?_
  refine lv_iconst (v := 0) hx hb dX7_setting_1 (by decide) ?_
  refine lv_bipush (v := 8) hx hb dX7_setting_2 (by decide) ?_
  obtain ⟨R1, eR1, hR, hok⟩ := g_let2 hR hok
  refine g_callS (c_X7_in l G p1 0 8 R1 eR1) hx hb hml hown hts hK hP hD hS hA gX7_setting_X7_in rfl (n := 3) (by decide +kernel) rfl ⟨Nat.le_of_ble_eq_true rfl, Nat.le_of_ble_eq_true rfl⟩ [] rfl (by decide) hl.1 rfl (Nat.le_of_ble_eq_true rfl) ⟨Nat.zero_le _, Nat.zero_le _⟩ dX7_setting_4 (fun H locs hP hD hS => ?_)
  have hP : va_P G.1 vwCl (List.flatten [MO G mm o, AW G (mm 1) 112 f]) H := hP
  have hD : va_D A (List.flatten [MO G mm o, AW G (mm 1) 112 f]) := hD
  refine lv_if_eq (tgt := 26) hx hb dX7_setting_7 (by decide) (fun c3 => ?_) (fun c3 => ?_)
  · rw [if_pos c3] at hR
    have hok := hok.1 c3
    refine lv_iconst (v := (-1)) hx hb dX7_setting_26 (by decide) ?_
    subst hR
    exact g_ret hx hb hr hlocks hS dX7_setting_27 rfl hP
  · rw [if_neg c3] at hR
    have hok := hok.2 c3
    refine lv_aload_n hx hb dX7_setting_10 rfl (lv_at hl 0 rfl) ?_
    refine g_get (ci := 7) (v := .ref (mm 1)) (C := RX7) (T := TX7) (N := 12) hx hb hts hinX7 hown hK hP 0 rfl rfl 0 (by decide) (hts (.fieldLink RX7 7 "ChargeStagesModel" "s" "[I") (List.mem_of_getElem? (i := 1) rfl)) rfl dX7_setting_11 ?_
    refine lv_bipush (v := 42) hx hb dX7_setting_14 (by decide) ?_
    refine lv_iload_n hx hb dX7_setting_16 rfl (lv_at hl 1 rfl) ?_
    refine lv_iadd hx hb dX7_setting_17 ?_
    obtain ⟨k4, hok⟩ := hok
    refine g_ld (n := 112) (f := f) (v := f ((42 + p1).toNatClampNeg)) (k := ((42 + p1).toNatClampNeg)) hx hb hK hP 1 rfl rfl k4 rfl dX7_setting_18 ?_
    refine lv_sipush (v := 1000) hx hb dX7_setting_19 (by decide) ?_
    refine lv_iadd hx hb dX7_setting_22 ?_
    refine lv_goto (tgt := 27) hx hb dX7_setting_23 (by decide) ?_
    subst hR
    exact g_ret hx hb hr hlocks hS dX7_setting_27 rfl hP
def f_X7_stage (f : (Nat → Int32)) (p1 : Int32) (p2 : Int32) : Int32 := (gL (f_X7_in p1 0 ((f 72) - 1)) (fun (R1 : Int32) => (if R1 = 0 then (-1) else (gL (f_X7_in p2 0 4) (fun (R4 : Int32) => (if R4 = 0 then (-2) else (if p2 = 4 then (gL (f_X7_ofStage f p1 0) (fun (R10 : Int32) => (if R10 = 2 then (-5) else (gL (f_X7_limit f p1) (fun (R13 : Int32) => R13))))) else (gL (f_X7_ofStage f p1 p2) (fun (R8 : Int32) => R8)))))))))
def ok_X7_stage (f : (Nat → Int32)) (p1 : Int32) (p2 : Int32) : Prop := (gL (f_X7_in p1 0 ((f 72) - 1)) (fun (R1 : Int32) => ((R1 = 0 → True) ∧ (¬ R1 = 0 → (gL (f_X7_in p2 0 4) (fun (R4 : Int32) => ((R4 = 0 → True) ∧ (¬ R4 = 0 → ((p2 = 4 → (ok_X7_ofStage p1 0) ∧ (gL (f_X7_ofStage f p1 0) (fun (R10 : Int32) => ((R10 = 2 → True) ∧ (¬ R10 = 2 → (ok_X7_limit f p1) ∧ True))))) ∧ (¬ p2 = 4 → (ok_X7_ofStage p1 p2) ∧ True))))))))))
set_option maxHeartbeats 4000000 in
set_option maxRecDepth 100000 in
theorem c_X7_stage (l : Launch) (G : gG) (mm : Nat → Nat) (o : (Nat → Int32)) (f : (Nat → Int32)) (p1 : Int32) (p2 : Int32) (R : Int32) (hR : R = f_X7_stage f p1 p2) (hok : ok_X7_stage f p1 p2) : CT l G yX7_stage wsX7_stage 2 44 [.ref (mm 0), .int p1, .int p2] [MO G mm o, AW G (mm 1) 112 f] (some (.int R)) [MO G mm o, AW G (mm 1) 112 f] := by
  unfold f_X7_stage at hR
  unfold ok_X7_stage at hok
  refine CT.of (cc := cX7_stage) (maxL := 3) (ret := (some .int)) (plainFor_of_name (by decide +kernel)) rfl rfl (Nat.le_of_ble_eq_true rfl) ?_
  intro p e s m below meth c A ls hx hb hml hr hts hown hlocks hK hP hD hA hS hl
  have hown : s.vm.findClass RX7 = some m.cls := hown
  have hl : lv_has ls 3 [(0, .ref (mm 0)), (1, .int p1), (2, .int p2)] := hl
  have hinX7 : ∀ w ∈ wsX70, w ∈ wsX7_stage := fun w h => List.mem_cons_of_mem _ (List.mem_append_right _ h)
  refine lv_iload_n hx hb dX7_stage_0 rfl (lv_at hl 1 rfl) ?_
  refine lv_iconst (v := 0) hx hb dX7_stage_1 (by decide) ?_
  refine lv_aload_n hx hb dX7_stage_2 rfl (lv_at hl 0 rfl) ?_
  refine g_get (ci := 7) (v := .ref (mm 1)) (C := RX7) (T := TX7) (N := 12) hx hb hts hinX7 hown hK hP 0 rfl rfl 0 (by decide) (hts (.fieldLink RX7 7 "ChargeStagesModel" "s" "[I") (List.mem_of_getElem? (i := 1) rfl)) rfl dX7_stage_3 ?_
  refine lv_bipush (v := 72) hx hb dX7_stage_6 (by decide) ?_
  refine g_ld (n := 112) (f := f) (v := f 72) (k := 72) hx hb hK hP 1 rfl (by decide) (by unfold vp_in; decide) rfl dX7_stage_8 ?_
  refine lv_iconst (v := 1) hx hb dX7_stage_9 (by decide) ?_
  refine lv_isub hx hb dX7_stage_10 ?_
  obtain ⟨R1, eR1, hR, hok⟩ := g_let2 hR hok
  refine g_callS (c_X7_in l G p1 0 ((f 72) - 1) R1 eR1) hx hb hml hown hts hK hP hD hS hA gX7_stage_X7_in rfl (n := 3) (by decide +kernel) rfl ⟨Nat.le_of_ble_eq_true rfl, Nat.le_of_ble_eq_true rfl⟩ [] rfl (by decide) hl.1 rfl (Nat.le_of_ble_eq_true rfl) ⟨Nat.zero_le _, Nat.zero_le _⟩ dX7_stage_11 (fun H locs hP hD hS => ?_)
  have hP : va_P G.1 vwCl (List.flatten [MO G mm o, AW G (mm 1) 112 f]) H := hP
  have hD : va_D A (List.flatten [MO G mm o, AW G (mm 1) 112 f]) := hD
  refine lv_if_ne (tgt := 19) hx hb dX7_stage_14 (by decide) (fun c3 => ?_) (fun c3 => ?_)
  · rw [if_neg c3] at hR
    have hok := hok.2 c3
    refine lv_iload_n hx hb dX7_stage_19 rfl (lv_at hl 2 rfl) ?_
    refine lv_iconst (v := 0) hx hb dX7_stage_20 (by decide) ?_
    refine lv_iconst (v := 4) hx hb dX7_stage_21 (by decide) ?_
    obtain ⟨R4, eR4, hR, hok⟩ := g_let2 hR hok
    refine g_callS (c_X7_in l G p2 0 4 R4 eR4) hx hb hml hown hts hK hP hD hS hA gX7_stage_X7_in rfl (n := 3) (by decide +kernel) rfl ⟨Nat.le_of_ble_eq_true rfl, Nat.le_of_ble_eq_true rfl⟩ [] rfl (by decide) hl.1 rfl (Nat.le_of_ble_eq_true rfl) ⟨Nat.zero_le _, Nat.zero_le _⟩ dX7_stage_22 (fun H locs hP hD hS => ?_)
    have hP : va_P G.1 vwCl (List.flatten [MO G mm o, AW G (mm 1) 112 f]) H := hP
    have hD : va_D A (List.flatten [MO G mm o, AW G (mm 1) 112 f]) := hD
    refine lv_if_ne (tgt := 31) hx hb dX7_stage_25 (by decide) (fun c6 => ?_) (fun c6 => ?_)
    · rw [if_neg c6] at hR
      have hok := hok.2 c6
      refine lv_iload_n hx hb dX7_stage_31 rfl (lv_at hl 2 rfl) ?_
      refine lv_iconst (v := 4) hx hb dX7_stage_32 (by decide) ?_
      refine lv_icmp_ne (tgt := 63) hx hb dX7_stage_33 (by decide) (fun c7 => ?_) (fun c7 => ?_)
      · rw [if_neg c7] at hR
        have hok := hok.2 c7
        refine lv_aload_n hx hb dX7_stage_63 rfl (lv_at hl 0 rfl) ?_
        refine g_get (ci := 7) (v := .ref (mm 1)) (C := RX7) (T := TX7) (N := 12) hx hb hts hinX7 hown hK hP 0 rfl rfl 0 (by decide) (hts (.fieldLink RX7 7 "ChargeStagesModel" "s" "[I") (List.mem_of_getElem? (i := 1) rfl)) rfl dX7_stage_64 ?_
        refine lv_iload_n hx hb dX7_stage_67 rfl (lv_at hl 1 rfl) ?_
        refine lv_iload_n hx hb dX7_stage_68 rfl (lv_at hl 2 rfl) ?_
        obtain ⟨k9, hok⟩ := hok
        obtain ⟨R8, eR8, hR⟩ := g_let hR
        refine g_callS (c_X7_ofStage l G (mm 1) f p1 p2 R8 eR8 k9) hx hb hml hown hts hK hP hD hS hA gX7_stage_X7_ofStage rfl (n := 3) (by decide +kernel) rfl ⟨Nat.le_of_ble_eq_true rfl, Nat.le_of_ble_eq_true rfl⟩ [1] rfl (by decide) hl.1 rfl (Nat.le_of_ble_eq_true rfl) ⟨Nat.zero_le _, Nat.zero_le _⟩ dX7_stage_69 (fun H locs hP hD hS => ?_)
        have hP : va_P G.1 vwCl (List.flatten [MO G mm o, AW G (mm 1) 112 f]) H := hP
        have hD : va_D A (List.flatten [MO G mm o, AW G (mm 1) 112 f]) := hD
        subst hR
        exact g_ret hx hb hr hlocks hS dX7_stage_72 rfl hP
      · rw [if_pos c7] at hR
        have hok := hok.1 c7
        refine lv_aload_n hx hb dX7_stage_36 rfl (lv_at hl 0 rfl) ?_
        refine g_get (ci := 7) (v := .ref (mm 1)) (C := RX7) (T := TX7) (N := 12) hx hb hts hinX7 hown hK hP 0 rfl rfl 0 (by decide) (hts (.fieldLink RX7 7 "ChargeStagesModel" "s" "[I") (List.mem_of_getElem? (i := 1) rfl)) rfl dX7_stage_37 ?_
        refine lv_iload_n hx hb dX7_stage_40 rfl (lv_at hl 1 rfl) ?_
        refine lv_iconst (v := 0) hx hb dX7_stage_41 (by decide) ?_
        obtain ⟨k11, hok⟩ := hok
        obtain ⟨R10, eR10, hR, hok⟩ := g_let2 hR hok
        refine g_callS (c_X7_ofStage l G (mm 1) f p1 0 R10 eR10 k11) hx hb hml hown hts hK hP hD hS hA gX7_stage_X7_ofStage rfl (n := 3) (by decide +kernel) rfl ⟨Nat.le_of_ble_eq_true rfl, Nat.le_of_ble_eq_true rfl⟩ [1] rfl (by decide) hl.1 rfl (Nat.le_of_ble_eq_true rfl) ⟨Nat.zero_le _, Nat.zero_le _⟩ dX7_stage_42 (fun H locs hP hD hS => ?_)
        have hP : va_P G.1 vwCl (List.flatten [MO G mm o, AW G (mm 1) 112 f]) H := hP
        have hD : va_D A (List.flatten [MO G mm o, AW G (mm 1) 112 f]) := hD
        refine lv_iconst (v := 2) hx hb dX7_stage_45 (by decide) ?_
        refine lv_icmp_ne (tgt := 54) hx hb dX7_stage_46 (by decide) (fun c12 => ?_) (fun c12 => ?_)
        · rw [if_neg c12] at hR
          have hok := hok.2 c12
          refine lv_aload_n hx hb dX7_stage_54 rfl (lv_at hl 0 rfl) ?_
          refine g_get (ci := 7) (v := .ref (mm 1)) (C := RX7) (T := TX7) (N := 12) hx hb hts hinX7 hown hK hP 0 rfl rfl 0 (by decide) (hts (.fieldLink RX7 7 "ChargeStagesModel" "s" "[I") (List.mem_of_getElem? (i := 1) rfl)) rfl dX7_stage_55 ?_
          refine lv_iload_n hx hb dX7_stage_58 rfl (lv_at hl 1 rfl) ?_
          obtain ⟨k14, hok⟩ := hok
          obtain ⟨R13, eR13, hR⟩ := g_let hR
          refine g_callS (c_X7_limit l G (mm 1) f p1 R13 eR13 k14) hx hb hml hown hts hK hP hD hS hA gX7_stage_X7_limit rfl (n := 2) (by decide +kernel) rfl ⟨Nat.le_of_ble_eq_true rfl, Nat.le_of_ble_eq_true rfl⟩ [1] rfl (by decide) hl.1 rfl (Nat.le_of_ble_eq_true rfl) ⟨Nat.zero_le _, Nat.zero_le _⟩ dX7_stage_59 (fun H locs hP hD hS => ?_)
          have hP : va_P G.1 vwCl (List.flatten [MO G mm o, AW G (mm 1) 112 f]) H := hP
          have hD : va_D A (List.flatten [MO G mm o, AW G (mm 1) 112 f]) := hD
          subst hR
          exact g_ret hx hb hr hlocks hS dX7_stage_62 rfl hP
        · rw [if_pos c12] at hR
          have hok := hok.1 c12
          refine lv_bipush (v := (-5)) hx hb dX7_stage_49 (by decide) ?_
          refine lv_goto (tgt := 62) hx hb dX7_stage_51 (by decide) ?_
          subst hR
          exact g_ret hx hb hr hlocks hS dX7_stage_62 rfl hP
    · rw [if_pos c6] at hR
      have hok := hok.1 c6
      refine lv_bipush (v := (-2)) hx hb dX7_stage_28 (by decide) ?_
      subst hR
      exact g_ret hx hb hr hlocks hS dX7_stage_30 rfl hP
  · rw [if_pos c3] at hR
    have hok := hok.1 c3
    refine lv_iconst (v := (-1)) hx hb dX7_stage_17 (by decide) ?_
    subst hR
    exact g_ret hx hb hr hlocks hS dX7_stage_18 rfl hP
def f_X7_voltage (f : (Nat → Int32)) (p1 : Int32) : Int32 := (gL (f_X7_in p1 0 2000) (fun (R1 : Int32) => (if R1 = 0 then (-2) else (gL (f_X7_highest f) (fun (R4 : Int32) => (gL (f_X7_more f p1) (fun (R6 : Int32) => (R4 + R6))))))))
def ok_X7_voltage (f : (Nat → Int32)) (p1 : Int32) : Prop := (gL (f_X7_in p1 0 2000) (fun (R1 : Int32) => ((R1 = 0 → True) ∧ (¬ R1 = 0 → (ok_X7_highest f) ∧ True))))
set_option maxHeartbeats 4000000 in
set_option maxRecDepth 100000 in
theorem c_X7_voltage (l : Launch) (G : gG) (mm : Nat → Nat) (o : (Nat → Int32)) (f : (Nat → Int32)) (p1 : Int32) (R : Int32) (hR : R = f_X7_voltage f p1) (hok : ok_X7_voltage f p1) : CT l G yX7_voltage wsX7_voltage 3 65 [.ref (mm 0), .int p1] [MO G mm o, AW G (mm 1) 112 f] (some (.int R)) [MO G mm o, AW G (mm 1) 112 f] := by
  unfold f_X7_voltage at hR
  unfold ok_X7_voltage at hok
  refine CT.of (cc := cX7_voltage) (maxL := 2) (ret := (some .int)) (plainFor_of_name (by decide +kernel)) rfl rfl (Nat.le_of_ble_eq_true rfl) ?_
  intro p e s m below meth c A ls hx hb hml hr hts hown hlocks hK hP hD hA hS hl
  have hown : s.vm.findClass RX7 = some m.cls := hown
  have hl : lv_has ls 2 [(0, .ref (mm 0)), (1, .int p1)] := hl
  have hinX7 : ∀ w ∈ wsX70, w ∈ wsX7_voltage := fun w h => List.mem_cons_of_mem _ (List.mem_append_right _ h)
  refine lv_iload_n hx hb dX7_voltage_0 rfl (lv_at hl 1 rfl) ?_
  refine lv_iconst (v := 0) hx hb dX7_voltage_1 (by decide) ?_
  refine lv_sipush (v := 2000) hx hb dX7_voltage_2 (by decide) ?_
  obtain ⟨R1, eR1, hR, hok⟩ := g_let2 hR hok
  refine g_callS (c_X7_in l G p1 0 2000 R1 eR1) hx hb hml hown hts hK hP hD hS hA gX7_voltage_X7_in rfl (n := 3) (by decide +kernel) rfl ⟨Nat.le_of_ble_eq_true rfl, Nat.le_of_ble_eq_true rfl⟩ [] rfl (by decide) hl.1 rfl (Nat.le_of_ble_eq_true rfl) ⟨Nat.zero_le _, Nat.zero_le _⟩ dX7_voltage_5 (fun H locs hP hD hS => ?_)
  have hP : va_P G.1 vwCl (List.flatten [MO G mm o, AW G (mm 1) 112 f]) H := hP
  have hD : va_D A (List.flatten [MO G mm o, AW G (mm 1) 112 f]) := hD
  refine lv_if_eq (tgt := 30) hx hb dX7_voltage_8 (by decide) (fun c3 => ?_) (fun c3 => ?_)
  · rw [if_pos c3] at hR
    have hok := hok.1 c3
    refine lv_bipush (v := (-2)) hx hb dX7_voltage_30 (by decide) ?_
    subst hR
    exact g_ret hx hb hr hlocks hS dX7_voltage_32 rfl hP
  · rw [if_neg c3] at hR
    have hok := hok.2 c3
    refine lv_aload_n hx hb dX7_voltage_11 rfl (lv_at hl 0 rfl) ?_
    refine g_get (ci := 7) (v := .ref (mm 1)) (C := RX7) (T := TX7) (N := 12) hx hb hts hinX7 hown hK hP 0 rfl rfl 0 (by decide) (hts (.fieldLink RX7 7 "ChargeStagesModel" "s" "[I") (List.mem_of_getElem? (i := 1) rfl)) rfl dX7_voltage_12 ?_
    obtain ⟨k5, hok⟩ := hok
    obtain ⟨R4, eR4, hR⟩ := g_let hR
    refine g_callS (c_X7_highest l G (mm 1) f R4 eR4 k5) hx hb hml hown hts hK hP hD hS hA gX7_voltage_X7_highest rfl (n := 1) (by decide +kernel) rfl ⟨Nat.le_of_ble_eq_true rfl, Nat.le_of_ble_eq_true rfl⟩ [1] rfl (by decide) hl.1 rfl (Nat.le_of_ble_eq_true rfl) ⟨Nat.zero_le _, Nat.zero_le _⟩ dX7_voltage_15 (fun H locs hP hD hS => ?_)
    have hP : va_P G.1 vwCl (List.flatten [MO G mm o, AW G (mm 1) 112 f]) H := hP
    have hD : va_D A (List.flatten [MO G mm o, AW G (mm 1) 112 f]) := hD
    refine lv_aload_n hx hb dX7_voltage_18 rfl (lv_at hl 0 rfl) ?_
    refine g_get (ci := 7) (v := .ref (mm 1)) (C := RX7) (T := TX7) (N := 12) hx hb hts hinX7 hown hK hP 0 rfl rfl 0 (by decide) (hts (.fieldLink RX7 7 "ChargeStagesModel" "s" "[I") (List.mem_of_getElem? (i := 1) rfl)) rfl dX7_voltage_19 ?_
    refine lv_iload_n hx hb dX7_voltage_22 rfl (lv_at hl 1 rfl) ?_
    obtain ⟨R6, eR6, hR⟩ := g_let hR
    refine g_callS (c_X7_more l G (mm 1) f p1 R6 eR6) hx hb hml hown hts hK hP hD hS hA gX7_voltage_X7_more rfl (n := 2) (by decide +kernel) rfl ⟨Nat.le_of_ble_eq_true rfl, Nat.le_of_ble_eq_true rfl⟩ [1] rfl (by decide) hl.1 rfl (Nat.le_of_ble_eq_true rfl) ⟨Nat.zero_le _, Nat.zero_le _⟩ dX7_voltage_23 (fun H locs hP hD hS => ?_)
    have hP : va_P G.1 vwCl (List.flatten [MO G mm o, AW G (mm 1) 112 f]) H := hP
    have hD : va_D A (List.flatten [MO G mm o, AW G (mm 1) 112 f]) := hD
    refine lv_iadd hx hb dX7_voltage_26 ?_
    refine lv_goto (tgt := 32) hx hb dX7_voltage_27 (by decide) ?_
    subst hR
    exact g_ret hx hb hr hlocks hS dX7_voltage_32 rfl hP
def f_X7_current (f : (Nat → Int32)) : Int32 := (if (f 73) = 1 then (gL (f_X7_isOut f) (fun (R2 : Int32) => (if R2 = 0 then (gL (f_X7_told f) (fun (R5 : Int32) => (gL (f_X7_endsAtOnce f R5) (fun (R7 : Int32) => (if R7 = 0 then R5 else 0))))) else 0))) else 0)
def ok_X7_current (f : (Nat → Int32)) : Prop := (((f 73) = 1 → (gL (f_X7_isOut f) (fun (R2 : Int32) => ((R2 = 0 → (ok_X7_told f) ∧ (gL (f_X7_told f) (fun (R5 : Int32) => (ok_X7_endsAtOnce f) ∧ True))) ∧ (¬ R2 = 0 → True))))) ∧ (¬ (f 73) = 1 → True))
set_option maxHeartbeats 4000000 in
set_option maxRecDepth 100000 in
theorem c_X7_current (l : Launch) (G : gG) (mm : Nat → Nat) (o : (Nat → Int32)) (f : (Nat → Int32)) (R : Int32) (hR : R = f_X7_current f) (hok : ok_X7_current f) : CT l G yX7_current wsX7_current 5 108 [.ref (mm 0)] [MO G mm o, AW G (mm 1) 112 f] (some (.int R)) [MO G mm o, AW G (mm 1) 112 f] := by
  unfold f_X7_current at hR
  unfold ok_X7_current at hok
  refine CT.of (cc := cX7_current) (maxL := 2) (ret := (some .int)) (plainFor_of_name (by decide +kernel)) rfl rfl (Nat.le_of_ble_eq_true rfl) ?_
  intro p e s m below meth c A ls hx hb hml hr hts hown hlocks hK hP hD hA hS hl
  have hown : s.vm.findClass RX7 = some m.cls := hown
  have hl : lv_has ls 2 [(0, .ref (mm 0))] := hl
  have hinX7 : ∀ w ∈ wsX70, w ∈ wsX7_current := fun w h => List.mem_cons_of_mem _ (List.mem_append_right _ h)
  refine lv_aload_n hx hb dX7_current_0 rfl (lv_at hl 0 rfl) ?_
  refine g_get (ci := 7) (v := .ref (mm 1)) (C := RX7) (T := TX7) (N := 12) hx hb hts hinX7 hown hK hP 0 rfl rfl 0 (by decide) (hts (.fieldLink RX7 7 "ChargeStagesModel" "s" "[I") (List.mem_of_getElem? (i := 1) rfl)) rfl dX7_current_1 ?_
  refine lv_bipush (v := 73) hx hb dX7_current_4 (by decide) ?_
  refine g_ld (n := 112) (f := f) (v := f 73) (k := 73) hx hb hK hP 1 rfl (by decide) (by unfold vp_in; decide) rfl dX7_current_6 ?_
  refine lv_iconst (v := 1) hx hb dX7_current_7 (by decide) ?_
  refine lv_icmp_ne (tgt := 21) hx hb dX7_current_8 (by decide) (fun c1 => ?_) (fun c1 => ?_)
  · rw [if_neg c1] at hR
    have hok := hok.2 c1
    refine lv_iconst (v := 0) hx hb dX7_current_21 (by decide) ?_
    subst hR
    exact g_ret hx hb hr hlocks hS dX7_current_22 rfl hP
  · rw [if_pos c1] at hR
    have hok := hok.1 c1
    refine lv_aload_n hx hb dX7_current_11 rfl (lv_at hl 0 rfl) ?_
    refine g_get (ci := 7) (v := .ref (mm 1)) (C := RX7) (T := TX7) (N := 12) hx hb hts hinX7 hown hK hP 0 rfl rfl 0 (by decide) (hts (.fieldLink RX7 7 "ChargeStagesModel" "s" "[I") (List.mem_of_getElem? (i := 1) rfl)) rfl dX7_current_12 ?_
    obtain ⟨R2, eR2, hR, hok⟩ := g_let2 hR hok
    refine g_callS (c_X7_isOut l G (mm 1) f R2 eR2) hx hb hml hown hts hK hP hD hS hA gX7_current_X7_isOut rfl (n := 1) (by decide +kernel) rfl ⟨Nat.le_of_ble_eq_true rfl, Nat.le_of_ble_eq_true rfl⟩ [1] rfl (by decide) hl.1 rfl (Nat.le_of_ble_eq_true rfl) ⟨Nat.zero_le _, Nat.zero_le _⟩ dX7_current_15 (fun H locs hP hD hS => ?_)
    have hP : va_P G.1 vwCl (List.flatten [MO G mm o, AW G (mm 1) 112 f]) H := hP
    have hD : va_D A (List.flatten [MO G mm o, AW G (mm 1) 112 f]) := hD
    refine lv_if_eq (tgt := 23) hx hb dX7_current_18 (by decide) (fun c4 => ?_) (fun c4 => ?_)
    · rw [if_pos c4] at hR
      have hok := hok.1 c4
      refine lv_aload_n hx hb dX7_current_23 rfl (lv_at hl 0 rfl) ?_
      refine g_get (ci := 7) (v := .ref (mm 1)) (C := RX7) (T := TX7) (N := 12) hx hb hts hinX7 hown hK hP 0 rfl rfl 0 (by decide) (hts (.fieldLink RX7 7 "ChargeStagesModel" "s" "[I") (List.mem_of_getElem? (i := 1) rfl)) rfl dX7_current_24 ?_
      obtain ⟨k6, hok⟩ := hok
      obtain ⟨R5, eR5, hR, hok⟩ := g_let2 hR hok
      refine g_callS (c_X7_told l G (mm 1) f R5 eR5 k6) hx hb hml hown hts hK hP hD hS hA gX7_current_X7_told rfl (n := 1) (by decide +kernel) rfl ⟨Nat.le_of_ble_eq_true rfl, Nat.le_of_ble_eq_true rfl⟩ [1] rfl (by decide) hl.1 rfl (Nat.le_of_ble_eq_true rfl) ⟨Nat.zero_le _, Nat.zero_le _⟩ dX7_current_27 (fun H locs hP hD hS => ?_)
      have hP : va_P G.1 vwCl (List.flatten [MO G mm o, AW G (mm 1) 112 f]) H := hP
      have hD : va_D A (List.flatten [MO G mm o, AW G (mm 1) 112 f]) := hD
      refine lv_istore_n (lv' := [(1, .int R5), (0, .ref (mm 0))]) hx hb dX7_current_30 rfl hl (by decide) rfl (fun ls hl => ?_)
      refine lv_aload_n hx hb dX7_current_31 rfl (lv_at hl 1 rfl) ?_
      refine g_get (ci := 7) (v := .ref (mm 1)) (C := RX7) (T := TX7) (N := 12) hx hb hts hinX7 hown hK hP 0 rfl rfl 0 (by decide) (hts (.fieldLink RX7 7 "ChargeStagesModel" "s" "[I") (List.mem_of_getElem? (i := 1) rfl)) rfl dX7_current_32 ?_
      refine lv_iload_n hx hb dX7_current_35 rfl (lv_at hl 0 rfl) ?_
      obtain ⟨k8, hok⟩ := hok
      obtain ⟨R7, eR7, hR⟩ := g_let hR
      refine g_callS (c_X7_endsAtOnce l G (mm 1) f R5 R7 eR7 k8) hx hb hml hown hts hK hP hD hS hA gX7_current_X7_endsAtOnce rfl (n := 2) (by decide +kernel) rfl ⟨Nat.le_of_ble_eq_true rfl, Nat.le_of_ble_eq_true rfl⟩ [1] rfl (by decide) hl.1 rfl (Nat.le_of_ble_eq_true rfl) ⟨Nat.zero_le _, Nat.zero_le _⟩ dX7_current_36 (fun H locs hP hD hS => ?_)
      have hP : va_P G.1 vwCl (List.flatten [MO G mm o, AW G (mm 1) 112 f]) H := hP
      have hD : va_D A (List.flatten [MO G mm o, AW G (mm 1) 112 f]) := hD
      refine lv_if_eq (tgt := 46) hx hb dX7_current_39 (by decide) (fun c9 => ?_) (fun c9 => ?_)
      · rw [if_pos c9] at hR
        refine lv_iload_n hx hb dX7_current_46 rfl (lv_at hl 0 rfl) ?_
        subst hR
        exact g_ret hx hb hr hlocks hS dX7_current_47 rfl hP
      · rw [if_neg c9] at hR
        refine lv_iconst (v := 0) hx hb dX7_current_42 (by decide) ?_
        refine lv_goto (tgt := 47) hx hb dX7_current_43 (by decide) ?_
        subst hR
        exact g_ret hx hb hr hlocks hS dX7_current_47 rfl hP
    · rw [if_neg c4] at hR
      have hok := hok.2 c4
      refine lv_iconst (v := 0) hx hb dX7_current_21 (by decide) ?_
      subst hR
      exact g_ret hx hb hr hlocks hS dX7_current_22 rfl hP
def f_X7_doneIn (f : (Nat → Int32)) (ft : (Nat → Int32)) : Int32 × (Nat → Int32) := (gL (f_X7_copies112 f ft 0) (fun (R1 : (Nat → Int32)) => (if (f 73) = 2 then (0, R1) else (gL (f_X7_doneBy R1 2000) (fun (R4 : Int32 × (Nat → Int32)) => (R4.1, R4.2))))))
def ok_X7_doneIn (f : (Nat → Int32)) (ft : (Nat → Int32)) : Prop := (ok_X7_copies112 f ft 0) ∧ (gL (f_X7_copies112 f ft 0) (fun (R1 : (Nat → Int32)) => (((f 73) = 2 → True) ∧ (¬ (f 73) = 2 → (ok_X7_doneBy R1 2000) ∧ True))))
set_option maxHeartbeats 4000000 in
set_option maxRecDepth 100000 in
theorem c_X7_doneIn (l : Launch) (G : gG) (mm : Nat → Nat) (o : (Nat → Int32)) (f : (Nat → Int32)) (ft : (Nat → Int32)) (R : Int32 × (Nat → Int32)) (hR : R = f_X7_doneIn f ft) (hok : ok_X7_doneIn f ft) : CT l G yX7_doneIn wsX7_doneIn 8 174 [.ref (mm 0)] [MO G mm o, AW G (mm 1) 112 f, AW G (mm 2) 112 ft] (some (.int R.1)) [MO G mm o, AW G (mm 1) 112 f, AW G (mm 2) 112 R.2] := by
  unfold f_X7_doneIn at hR
  unfold ok_X7_doneIn at hok
  refine CT.of (cc := cX7_doneIn) (maxL := 1) (ret := (some .int)) (plainFor_of_name (by decide +kernel)) rfl rfl (Nat.le_of_ble_eq_true rfl) ?_
  intro p e s m below meth c A ls hx hb hml hr hts hown hlocks hK hP hD hA hS hl
  have hown : s.vm.findClass RX7 = some m.cls := hown
  have hl : lv_has ls 1 [(0, .ref (mm 0))] := hl
  have hinX7 : ∀ w ∈ wsX70, w ∈ wsX7_doneIn := fun w h => List.mem_cons_of_mem _ (List.mem_append_right _ h)
  refine lv_aload_n hx hb dX7_doneIn_0 rfl (lv_at hl 0 rfl) ?_
  refine g_get (ci := 7) (v := .ref (mm 1)) (C := RX7) (T := TX7) (N := 12) hx hb hts hinX7 hown hK hP 0 rfl rfl 0 (by decide) (hts (.fieldLink RX7 7 "ChargeStagesModel" "s" "[I") (List.mem_of_getElem? (i := 1) rfl)) rfl dX7_doneIn_1 ?_
  refine lv_aload_n hx hb dX7_doneIn_4 rfl (lv_at hl 0 rfl) ?_
  refine g_get (ci := 7) (v := .ref (mm 2)) (C := RX7) (T := TX7) (N := 12) hx hb hts hinX7 hown hK hP 0 rfl rfl 1 (by decide) (hts (.fieldLink RX7 13 "ChargeStagesModel" "trial" "[I") (List.mem_of_getElem? (i := 2) rfl)) rfl dX7_doneIn_5 ?_
  refine lv_iconst (v := 0) hx hb dX7_doneIn_8 (by decide) ?_
  obtain ⟨k2, hok⟩ := hok
  obtain ⟨R1, eR1, hR, hok⟩ := g_let2 hR hok
  refine g_callS (c_X7_copies112 l G (mm 1) (mm 2) f ft 0 R1 eR1 k2) hx hb hml hown hts hK hP hD hS hA gX7_doneIn_X7_copies rfl (n := 3) (by decide +kernel) rfl ⟨Nat.le_of_ble_eq_true rfl, Nat.le_of_ble_eq_true rfl⟩ [1, 2] rfl (by decide) hl.1 rfl (Nat.le_of_ble_eq_true rfl) ⟨Nat.zero_le _, Nat.zero_le _⟩ dX7_doneIn_9 (fun H locs hP hD hS => ?_)
  have hP : va_P G.1 vwCl (List.flatten [MO G mm o, AW G (mm 1) 112 f, AW G (mm 2) 112 R1]) H := hP
  have hD : va_D A (List.flatten [MO G mm o, AW G (mm 1) 112 f, AW G (mm 2) 112 R1]) := hD
  refine lv_aload_n hx hb dX7_doneIn_12 rfl (lv_at hl 0 rfl) ?_
  refine g_get (ci := 7) (v := .ref (mm 1)) (C := RX7) (T := TX7) (N := 12) hx hb hts hinX7 hown hK hP 0 rfl rfl 0 (by decide) (hts (.fieldLink RX7 7 "ChargeStagesModel" "s" "[I") (List.mem_of_getElem? (i := 1) rfl)) rfl dX7_doneIn_13 ?_
  refine lv_bipush (v := 73) hx hb dX7_doneIn_16 (by decide) ?_
  refine g_ld (n := 112) (f := f) (v := f 73) (k := 73) hx hb hK hP 1 rfl (by decide) (by unfold vp_in; decide) rfl dX7_doneIn_18 ?_
  refine lv_iconst (v := 2) hx hb dX7_doneIn_19 (by decide) ?_
  refine lv_icmp_ne (tgt := 27) hx hb dX7_doneIn_20 (by decide) (fun c3 => ?_) (fun c3 => ?_)
  · rw [if_neg c3] at hR
    have hok := hok.2 c3
    refine lv_aload_n hx hb dX7_doneIn_27 rfl (lv_at hl 0 rfl) ?_
    refine lv_sipush (v := 2000) hx hb dX7_doneIn_28 (by decide) ?_
    obtain ⟨k5, hok⟩ := hok
    obtain ⟨R4, eR4, hR⟩ := g_let hR
    refine g_callV (c_X7_doneBy l G mm o R1 2000 R4 eR4 k5) hx hb hml hown hts hK hP hD hS hA gX7_doneIn_X7_doneBy rfl (n := 1) (by decide +kernel) rfl ⟨Nat.le_of_ble_eq_true rfl, Nat.le_of_ble_eq_true rfl⟩ [0, 2] rfl (by decide) 0 rfl (ci := 7) rfl hl.1 rfl (Nat.le_of_ble_eq_true rfl) ⟨Nat.zero_le _, Nat.zero_le _⟩ dX7_doneIn_31 (fun H locs hP hD hS => ?_)
    have hP : va_P G.1 vwCl (List.flatten [MO G mm o, AW G (mm 1) 112 f, AW G (mm 2) 112 R4.2]) H := hP
    have hD : va_D A (List.flatten [MO G mm o, AW G (mm 1) 112 f, AW G (mm 2) 112 R4.2]) := hD
    subst hR
    exact g_ret hx hb hr hlocks hS dX7_doneIn_34 rfl hP
  · rw [if_pos c3] at hR
    have hok := hok.1 c3
    refine lv_iconst (v := 0) hx hb dX7_doneIn_23 (by decide) ?_
    refine lv_goto (tgt := 34) hx hb dX7_doneIn_24 (by decide) ?_
    subst hR
    exact g_ret hx hb hr hlocks hS dX7_doneIn_34 rfl hP
def fl_X7_chargeIn_38 (p1 : Int32) (p2 : Int32) : Nat → Int32 → (Nat → Int32) → Int32 × (Nat → Int32)
  | 0, _, _ => ((0 : Int32), (fun _ => 0))
  | n + 1, x38_3, w38_2 => (if p2 ≤ x38_3 then (gL (f_X7_of w38_2 p1 0) (fun (R15 : Int32) => (R15, w38_2))) else (gL (f_X7_tick w38_2) (fun (R17 : (Nat → Int32)) => (gL ((x38_3 + 1)) (fun (v19 : Int32) => (fl_X7_chargeIn_38 p1 p2 n v19 R17))))))
def okl_X7_chargeIn_38 (p1 : Int32) (p2 : Int32) : Nat → Int32 → (Nat → Int32) → Prop
  | 0, _, _ => False
  | n + 1, x38_3, w38_2 => ((p2 ≤ x38_3 → (ok_X7_of p1 0) ∧ True) ∧ (¬ p2 ≤ x38_3 → (ok_X7_tick w38_2) ∧ (gL (f_X7_tick w38_2) (fun (R17 : (Nat → Int32)) => (gL ((x38_3 + 1)) (fun (v19 : Int32) => (okl_X7_chargeIn_38 p1 p2 n v19 R17)))))))
def f_X7_chargeIn (f : (Nat → Int32)) (ft : (Nat → Int32)) (p1 : Int32) (p2 : Int32) : Int32 × (Nat → Int32) := (gL (f_X7_isCell f p1) (fun (R1 : Int32) => (if R1 = 0 then ((-1), ft) else (gL (f_X7_in p2 0 200) (fun (R4 : Int32) => (if R4 = 0 then ((-2), ft) else (gL (f_X7_copies112 f ft 0) (fun (R7 : (Nat → Int32)) => (fl_X7_chargeIn_38 p1 p2 201 0 R7)))))))))
def ok_X7_chargeIn (f : (Nat → Int32)) (ft : (Nat → Int32)) (p1 : Int32) (p2 : Int32) : Prop := (ok_X7_isCell f p1) ∧ (gL (f_X7_isCell f p1) (fun (R1 : Int32) => ((R1 = 0 → True) ∧ (¬ R1 = 0 → (gL (f_X7_in p2 0 200) (fun (R4 : Int32) => ((R4 = 0 → True) ∧ (¬ R4 = 0 → (ok_X7_copies112 f ft 0) ∧ (gL (f_X7_copies112 f ft 0) (fun (R7 : (Nat → Int32)) => (okl_X7_chargeIn_38 p1 p2 201 0 R7)))))))))))
set_option maxHeartbeats 4000000 in
set_option maxRecDepth 100000 in
theorem c_X7_chargeIn (l : Launch) (G : gG) (mm : Nat → Nat) (o : (Nat → Int32)) (f : (Nat → Int32)) (ft : (Nat → Int32)) (p1 : Int32) (p2 : Int32) (R : Int32 × (Nat → Int32)) (hR : R = f_X7_chargeIn f ft p1 p2) (hok : ok_X7_chargeIn f ft p1 p2) : CT l G yX7_chargeIn wsX7_chargeIn 7 152 [.ref (mm 0), .int p1, .int p2] [MO G mm o, AW G (mm 1) 112 f, AW G (mm 2) 112 ft] (some (.int R.1)) [MO G mm o, AW G (mm 1) 112 f, AW G (mm 2) 112 R.2] := by
  unfold f_X7_chargeIn at hR
  unfold ok_X7_chargeIn at hok
  refine CT.of (cc := cX7_chargeIn) (maxL := 4) (ret := (some .int)) (plainFor_of_name (by decide +kernel)) rfl rfl (Nat.le_of_ble_eq_true rfl) ?_
  intro p e s m below meth c A ls hx hb hml hr hts hown hlocks hK hP hD hA hS hl
  have hown : s.vm.findClass RX7 = some m.cls := hown
  have hl : lv_has ls 4 [(0, .ref (mm 0)), (1, .int p1), (2, .int p2)] := hl
  have hinX7 : ∀ w ∈ wsX70, w ∈ wsX7_chargeIn := fun w h => List.mem_cons_of_mem _ (List.mem_append_right _ h)
  refine lv_aload_n hx hb dX7_chargeIn_0 rfl (lv_at hl 0 rfl) ?_
  refine lv_iload_n hx hb dX7_chargeIn_1 rfl (lv_at hl 1 rfl) ?_
  obtain ⟨k2, hok⟩ := hok
  obtain ⟨R1, eR1, hR, hok⟩ := g_let2 hR hok
  refine g_callV (c_X7_isCell l G mm o f p1 R1 eR1 k2) hx hb hml hown hts hK hP hD hS hA gX7_chargeIn_X7_isCell rfl (n := 1) (by decide +kernel) rfl ⟨Nat.le_of_ble_eq_true rfl, Nat.le_of_ble_eq_true rfl⟩ [0, 1] rfl (by decide) 0 rfl (ci := 7) rfl hl.1 rfl (Nat.le_of_ble_eq_true rfl) ⟨Nat.zero_le _, Nat.zero_le _⟩ dX7_chargeIn_2 (fun H locs hP hD hS => ?_)
  have hP : va_P G.1 vwCl (List.flatten [MO G mm o, AW G (mm 1) 112 f, AW G (mm 2) 112 ft]) H := hP
  have hD : va_D A (List.flatten [MO G mm o, AW G (mm 1) 112 f, AW G (mm 2) 112 ft]) := hD
  refine lv_if_ne (tgt := 10) hx hb dX7_chargeIn_5 (by decide) (fun c3 => ?_) (fun c3 => ?_)
  · rw [if_neg c3] at hR
    have hok := hok.2 c3
    refine lv_iload_n hx hb dX7_chargeIn_10 rfl (lv_at hl 2 rfl) ?_
    refine lv_iconst (v := 0) hx hb dX7_chargeIn_11 (by decide) ?_
    refine lv_sipush (v := 200) hx hb dX7_chargeIn_12 (by decide) ?_
    obtain ⟨R4, eR4, hR, hok⟩ := g_let2 hR hok
    refine g_callS (c_X7_in l G p2 0 200 R4 eR4) hx hb hml hown hts hK hP hD hS hA gX7_chargeIn_X7_in rfl (n := 3) (by decide +kernel) rfl ⟨Nat.le_of_ble_eq_true rfl, Nat.le_of_ble_eq_true rfl⟩ [] rfl (by decide) hl.1 rfl (Nat.le_of_ble_eq_true rfl) ⟨Nat.zero_le _, Nat.zero_le _⟩ dX7_chargeIn_15 (fun H locs hP hD hS => ?_)
    have hP : va_P G.1 vwCl (List.flatten [MO G mm o, AW G (mm 1) 112 f, AW G (mm 2) 112 ft]) H := hP
    have hD : va_D A (List.flatten [MO G mm o, AW G (mm 1) 112 f, AW G (mm 2) 112 ft]) := hD
    refine lv_if_ne (tgt := 24) hx hb dX7_chargeIn_18 (by decide) (fun c6 => ?_) (fun c6 => ?_)
    · rw [if_neg c6] at hR
      have hok := hok.2 c6
      refine lv_aload_n hx hb dX7_chargeIn_24 rfl (lv_at hl 0 rfl) ?_
      refine g_get (ci := 7) (v := .ref (mm 1)) (C := RX7) (T := TX7) (N := 12) hx hb hts hinX7 hown hK hP 0 rfl rfl 0 (by decide) (hts (.fieldLink RX7 7 "ChargeStagesModel" "s" "[I") (List.mem_of_getElem? (i := 1) rfl)) rfl dX7_chargeIn_25 ?_
      refine lv_aload_n hx hb dX7_chargeIn_28 rfl (lv_at hl 0 rfl) ?_
      refine g_get (ci := 7) (v := .ref (mm 2)) (C := RX7) (T := TX7) (N := 12) hx hb hts hinX7 hown hK hP 0 rfl rfl 1 (by decide) (hts (.fieldLink RX7 13 "ChargeStagesModel" "trial" "[I") (List.mem_of_getElem? (i := 2) rfl)) rfl dX7_chargeIn_29 ?_
      refine lv_iconst (v := 0) hx hb dX7_chargeIn_32 (by decide) ?_
      obtain ⟨k8, hok⟩ := hok
      obtain ⟨R7, eR7, hR, hok⟩ := g_let2 hR hok
      refine g_callS (c_X7_copies112 l G (mm 1) (mm 2) f ft 0 R7 eR7 k8) hx hb hml hown hts hK hP hD hS hA gX7_chargeIn_X7_copies rfl (n := 3) (by decide +kernel) rfl ⟨Nat.le_of_ble_eq_true rfl, Nat.le_of_ble_eq_true rfl⟩ [1, 2] rfl (by decide) hl.1 rfl (Nat.le_of_ble_eq_true rfl) ⟨Nat.zero_le _, Nat.zero_le _⟩ dX7_chargeIn_33 (fun H locs hP hD hS => ?_)
      have hP : va_P G.1 vwCl (List.flatten [MO G mm o, AW G (mm 1) 112 f, AW G (mm 2) 112 R7]) H := hP
      have hD : va_D A (List.flatten [MO G mm o, AW G (mm 1) 112 f, AW G (mm 2) 112 R7]) := hD
      refine lv_iconst (v := 0) hx hb dX7_chargeIn_36 (by decide) ?_
      refine lv_istore_n (lv' := [(3, .int 0), (0, .ref (mm 0)), (1, .int p1), (2, .int p2)]) hx hb dX7_chargeIn_37 rfl hl (by decide) rfl (fun ls hl => ?_)
      have lp38 : ∀ (n : Nat) (x38_3 : Int32) (w38_2 : (Nat → Int32)) (H : Heap) (locs : List Loc) (ls : Array Slot), R = fl_X7_chargeIn_38 p1 p2 n x38_3 w38_2 → okl_X7_chargeIn_38 p1 p2 n x38_3 w38_2 → va_P G.1 vwCl (List.flatten [MO G mm o, AW G (mm 1) 112 f, AW G (mm 2) 112 w38_2]) H → va_D A (List.flatten [MO G mm o, AW G (mm 1) 112 f, AW G (mm 2) 112 w38_2]) → va_S A s.heap H locs → lv_has ls 4 [(0, .ref (mm 0)), (1, .int p1), (2, .int p2), (3, .int x38_3)] → W p l e { frames := 7, cells := 0, slots := 0, locals := 152 } s m (List.toArray [.ref (mm 0), .int p1, .int p2]) below meth c H locs 0 0 (gQ G below (List.toArray [.ref (mm 0), .int p1, .int p2]) s (some (.int R.1)) [MO G mm o, AW G (mm 1) 112 f, AW G (mm 2) 112 R.2] A) (F0 m 38 ls []) := by
        intro n
        induction n with
        | zero =>
          intro x38_3 w38_2 H locs ls hR hok hP hD hS hl
          rw [okl_X7_chargeIn_38] at hok
          exact hok.elim
        | succ n ih =>
          intro x38_3 w38_2 H locs ls hR hok hP hD hS hl
          rw [fl_X7_chargeIn_38] at hR
          rw [okl_X7_chargeIn_38] at hok
          refine lv_iload_n hx hb dX7_chargeIn_38 rfl (lv_at hl 3 rfl) ?_
          refine lv_iload_n hx hb dX7_chargeIn_39 rfl (lv_at hl 2 rfl) ?_
          refine lv_icmp_ge (tgt := 56) hx hb dX7_chargeIn_40 (by decide) (fun c14 => ?_) (fun c14 => ?_)
          · rw [if_pos c14] at hR
            have hok := hok.1 c14
            refine lv_aload_n hx hb dX7_chargeIn_56 rfl (lv_at hl 0 rfl) ?_
            refine g_get (ci := 7) (v := .ref (mm 2)) (C := RX7) (T := TX7) (N := 12) hx hb hts hinX7 hown hK hP 0 rfl rfl 1 (by decide) (hts (.fieldLink RX7 13 "ChargeStagesModel" "trial" "[I") (List.mem_of_getElem? (i := 2) rfl)) rfl dX7_chargeIn_57 ?_
            refine lv_iload_n hx hb dX7_chargeIn_60 rfl (lv_at hl 1 rfl) ?_
            refine lv_iconst (v := 0) hx hb dX7_chargeIn_61 (by decide) ?_
            obtain ⟨k16, hok⟩ := hok
            obtain ⟨R15, eR15, hR⟩ := g_let hR
            refine g_callS (c_X7_of l G (mm 2) w38_2 p1 0 R15 eR15 k16) hx hb hml hown hts hK hP hD hS hA gX7_chargeIn_X7_of rfl (n := 3) (by decide +kernel) rfl ⟨Nat.le_of_ble_eq_true rfl, Nat.le_of_ble_eq_true rfl⟩ [2] rfl (by decide) hl.1 rfl (Nat.le_of_ble_eq_true rfl) ⟨Nat.zero_le _, Nat.zero_le _⟩ dX7_chargeIn_62 (fun H locs hP hD hS => ?_)
            have hP : va_P G.1 vwCl (List.flatten [MO G mm o, AW G (mm 1) 112 f, AW G (mm 2) 112 w38_2]) H := hP
            have hD : va_D A (List.flatten [MO G mm o, AW G (mm 1) 112 f, AW G (mm 2) 112 w38_2]) := hD
            subst hR
            exact g_ret hx hb hr hlocks hS dX7_chargeIn_65 rfl hP
          · rw [if_neg c14] at hR
            have hok := hok.2 c14
            refine lv_aload_n hx hb dX7_chargeIn_43 rfl (lv_at hl 0 rfl) ?_
            refine g_get (ci := 7) (v := .ref (mm 2)) (C := RX7) (T := TX7) (N := 12) hx hb hts hinX7 hown hK hP 0 rfl rfl 1 (by decide) (hts (.fieldLink RX7 13 "ChargeStagesModel" "trial" "[I") (List.mem_of_getElem? (i := 2) rfl)) rfl dX7_chargeIn_44 ?_
            obtain ⟨k18, hok⟩ := hok
            obtain ⟨R17, eR17, hR, hok⟩ := g_let2 hR hok
            refine g_callS (c_X7_tick l G (mm 2) w38_2 R17 eR17 k18) hx hb hml hown hts hK hP hD hS hA gX7_chargeIn_X7_tick rfl (n := 1) (by decide +kernel) rfl ⟨Nat.le_of_ble_eq_true rfl, Nat.le_of_ble_eq_true rfl⟩ [2] rfl (by decide) hl.1 rfl (Nat.le_of_ble_eq_true rfl) ⟨Nat.zero_le _, Nat.zero_le _⟩ dX7_chargeIn_47 (fun H locs hP hD hS => ?_)
            have hP : va_P G.1 vwCl (List.flatten [MO G mm o, AW G (mm 1) 112 f, AW G (mm 2) 112 R17]) H := hP
            have hD : va_D A (List.flatten [MO G mm o, AW G (mm 1) 112 f, AW G (mm 2) 112 R17]) := hD
            obtain ⟨v19, ev19, hR, hok⟩ := g_let2 hR hok
            refine lv_iinc (v := v19) (lv' := [(3, .int v19), (0, .ref (mm 0)), (1, .int p1), (2, .int p2)]) hx hb dX7_chargeIn_50 hl (k := 3) rfl (by subst ev19; rfl) (by decide) rfl (fun ls hl => ?_)
            refine lv_goto (tgt := 38) hx hb dX7_chargeIn_53 (by decide) ?_
            exact ih v19 R17 _ _ _ hR hok hP hD hS (lv_sub hl [1, 2, 3, 0] rfl)
      exact lp38 201 0 R7 _ _ _ hR hok hP hD hS (lv_sub hl [1, 2, 3, 0] rfl)
    · rw [if_pos c6] at hR
      have hok := hok.1 c6
      refine lv_bipush (v := (-2)) hx hb dX7_chargeIn_21 (by decide) ?_
      subst hR
      exact g_ret hx hb hr hlocks hS dX7_chargeIn_23 rfl hP
  · rw [if_pos c3] at hR
    have hok := hok.1 c3
    refine lv_iconst (v := (-1)) hx hb dX7_chargeIn_8 (by decide) ?_
    subst hR
    exact g_ret hx hb hr hlocks hS dX7_chargeIn_9 rfl hP
def fl_X7_warmest_22 (f : (Nat → Int32)) : Nat → Int32 → (Nat → Int32) → Int32 × (Nat → Int32)
  | 0, _, _ => ((0 : Int32), (fun _ => 0))
  | n + 1, x22_1, w22_2 => (if x22_1 < (f 47) then ((-5), w22_2) else (gL (f_X7_copies112 f w22_2 0) (fun (R12 : (Nat → Int32)) => (gL (upd R12 45 x22_1) (fun (z14 : (Nat → Int32)) => (gL (f_X7_doneBy z14 500) (fun (R15 : Int32 × (Nat → Int32)) => (if R15.1 ≤ 0 then (gL ((x22_1 + (-1))) (fun (v18 : Int32) => (fl_X7_warmest_22 f n v18 R15.2))) else ((x22_1 + 1000), R15.2)))))))))
def okl_X7_warmest_22 (f : (Nat → Int32)) : Nat → Int32 → (Nat → Int32) → Prop
  | 0, _, _ => False
  | n + 1, x22_1, w22_2 => ((x22_1 < (f 47) → True) ∧ (¬ x22_1 < (f 47) → (ok_X7_copies112 f w22_2 0) ∧ (gL (f_X7_copies112 f w22_2 0) (fun (R12 : (Nat → Int32)) => (gL (upd R12 45 x22_1) (fun (z14 : (Nat → Int32)) => (ok_X7_doneBy z14 500) ∧ (gL (f_X7_doneBy z14 500) (fun (R15 : Int32 × (Nat → Int32)) => ((R15.1 ≤ 0 → (gL ((x22_1 + (-1))) (fun (v18 : Int32) => (okl_X7_warmest_22 f n v18 R15.2)))) ∧ (¬ R15.1 ≤ 0 → True))))))))))
def f_X7_warmest (f : (Nat → Int32)) (ft : (Nat → Int32)) : Int32 × (Nat → Int32) := (if (f 73) = 1 then (gL (f 48) (fun (v2 : Int32) => (fl_X7_warmest_22 f 112 v2 ft))) else ((-4), ft))
def ok_X7_warmest (f : (Nat → Int32)) (ft : (Nat → Int32)) : Prop := (((f 73) = 1 → (gL (f 48) (fun (v2 : Int32) => (okl_X7_warmest_22 f 112 v2 ft)))) ∧ (¬ (f 73) = 1 → True))
set_option maxHeartbeats 4000000 in
set_option maxRecDepth 100000 in
theorem c_X7_warmest (l : Launch) (G : gG) (mm : Nat → Nat) (o : (Nat → Int32)) (f : (Nat → Int32)) (ft : (Nat → Int32)) (R : Int32 × (Nat → Int32)) (hR : R = f_X7_warmest f ft) (hok : ok_X7_warmest f ft) : CT l G yX7_warmest wsX7_warmest 8 174 [.ref (mm 0)] [MO G mm o, AW G (mm 1) 112 f, AW G (mm 2) 112 ft] (some (.int R.1)) [MO G mm o, AW G (mm 1) 112 f, AW G (mm 2) 112 R.2] := by
  unfold f_X7_warmest at hR
  unfold ok_X7_warmest at hok
  refine CT.of (cc := cX7_warmest) (maxL := 2) (ret := (some .int)) (plainFor_of_name (by decide +kernel)) rfl rfl (Nat.le_of_ble_eq_true rfl) ?_
  intro p e s m below meth c A ls hx hb hml hr hts hown hlocks hK hP hD hA hS hl
  have hown : s.vm.findClass RX7 = some m.cls := hown
  have hl : lv_has ls 2 [(0, .ref (mm 0))] := hl
  have hinX7 : ∀ w ∈ wsX70, w ∈ wsX7_warmest := fun w h => List.mem_cons_of_mem _ (List.mem_append_right _ h)
  refine lv_aload_n hx hb dX7_warmest_0 rfl (lv_at hl 0 rfl) ?_
  refine g_get (ci := 7) (v := .ref (mm 1)) (C := RX7) (T := TX7) (N := 12) hx hb hts hinX7 hown hK hP 0 rfl rfl 0 (by decide) (hts (.fieldLink RX7 7 "ChargeStagesModel" "s" "[I") (List.mem_of_getElem? (i := 1) rfl)) rfl dX7_warmest_1 ?_
  refine lv_bipush (v := 73) hx hb dX7_warmest_4 (by decide) ?_
  refine g_ld (n := 112) (f := f) (v := f 73) (k := 73) hx hb hK hP 1 rfl (by decide) (by unfold vp_in; decide) rfl dX7_warmest_6 ?_
  refine lv_iconst (v := 1) hx hb dX7_warmest_7 (by decide) ?_
  refine lv_icmp_eq (tgt := 14) hx hb dX7_warmest_8 (by decide) (fun c1 => ?_) (fun c1 => ?_)
  · rw [if_pos c1] at hR
    have hok := hok.1 c1
    refine lv_aload_n hx hb dX7_warmest_14 rfl (lv_at hl 0 rfl) ?_
    refine g_get (ci := 7) (v := .ref (mm 1)) (C := RX7) (T := TX7) (N := 12) hx hb hts hinX7 hown hK hP 0 rfl rfl 0 (by decide) (hts (.fieldLink RX7 7 "ChargeStagesModel" "s" "[I") (List.mem_of_getElem? (i := 1) rfl)) rfl dX7_warmest_15 ?_
    refine lv_bipush (v := 48) hx hb dX7_warmest_18 (by decide) ?_
    refine g_ld (n := 112) (f := f) (v := f 48) (k := 48) hx hb hK hP 1 rfl (by decide) (by unfold vp_in; decide) rfl dX7_warmest_20 ?_
    obtain ⟨v2, ev2, hR, hok⟩ := g_let2 hR hok
    refine g_topE ev2.symm ?_
    refine lv_istore_n (lv' := [(1, .int v2), (0, .ref (mm 0))]) hx hb dX7_warmest_21 rfl hl (by decide) rfl (fun ls hl => ?_)
    have lp22 : ∀ (n : Nat) (x22_1 : Int32) (w22_2 : (Nat → Int32)) (H : Heap) (locs : List Loc) (ls : Array Slot), R = fl_X7_warmest_22 f n x22_1 w22_2 → okl_X7_warmest_22 f n x22_1 w22_2 → va_P G.1 vwCl (List.flatten [MO G mm o, AW G (mm 1) 112 f, AW G (mm 2) 112 w22_2]) H → va_D A (List.flatten [MO G mm o, AW G (mm 1) 112 f, AW G (mm 2) 112 w22_2]) → va_S A s.heap H locs → lv_has ls 2 [(0, .ref (mm 0)), (1, .int x22_1)] → W p l e { frames := 8, cells := 0, slots := 0, locals := 174 } s m (List.toArray [.ref (mm 0)]) below meth c H locs 0 0 (gQ G below (List.toArray [.ref (mm 0)]) s (some (.int R.1)) [MO G mm o, AW G (mm 1) 112 f, AW G (mm 2) 112 R.2] A) (F0 m 22 ls []) := by
      intro n
      induction n with
      | zero =>
        intro x22_1 w22_2 H locs ls hR hok hP hD hS hl
        rw [okl_X7_warmest_22] at hok
        exact hok.elim
      | succ n ih =>
        intro x22_1 w22_2 H locs ls hR hok hP hD hS hl
        rw [fl_X7_warmest_22] at hR
        rw [okl_X7_warmest_22] at hok
        refine lv_iload_n hx hb dX7_warmest_22 rfl (lv_at hl 1 rfl) ?_
        refine lv_aload_n hx hb dX7_warmest_23 rfl (lv_at hl 0 rfl) ?_
        refine g_get (ci := 7) (v := .ref (mm 1)) (C := RX7) (T := TX7) (N := 12) hx hb hts hinX7 hown hK hP 0 rfl rfl 0 (by decide) (hts (.fieldLink RX7 7 "ChargeStagesModel" "s" "[I") (List.mem_of_getElem? (i := 1) rfl)) rfl dX7_warmest_24 ?_
        refine lv_bipush (v := 47) hx hb dX7_warmest_27 (by decide) ?_
        refine g_ld (n := 112) (f := f) (v := f 47) (k := 47) hx hb hK hP 1 rfl (by decide) (by unfold vp_in; decide) rfl dX7_warmest_29 ?_
        refine lv_icmp_lt (tgt := 75) hx hb dX7_warmest_30 (by decide) (fun c11 => ?_) (fun c11 => ?_)
        · rw [if_pos c11] at hR
          have hok := hok.1 c11
          refine lv_bipush (v := (-5)) hx hb dX7_warmest_75 (by decide) ?_
          subst hR
          exact g_ret hx hb hr hlocks hS dX7_warmest_77 rfl hP
        · rw [if_neg c11] at hR
          have hok := hok.2 c11
          refine lv_aload_n hx hb dX7_warmest_33 rfl (lv_at hl 0 rfl) ?_
          refine g_get (ci := 7) (v := .ref (mm 1)) (C := RX7) (T := TX7) (N := 12) hx hb hts hinX7 hown hK hP 0 rfl rfl 0 (by decide) (hts (.fieldLink RX7 7 "ChargeStagesModel" "s" "[I") (List.mem_of_getElem? (i := 1) rfl)) rfl dX7_warmest_34 ?_
          refine lv_aload_n hx hb dX7_warmest_37 rfl (lv_at hl 0 rfl) ?_
          refine g_get (ci := 7) (v := .ref (mm 2)) (C := RX7) (T := TX7) (N := 12) hx hb hts hinX7 hown hK hP 0 rfl rfl 1 (by decide) (hts (.fieldLink RX7 13 "ChargeStagesModel" "trial" "[I") (List.mem_of_getElem? (i := 2) rfl)) rfl dX7_warmest_38 ?_
          refine lv_iconst (v := 0) hx hb dX7_warmest_41 (by decide) ?_
          obtain ⟨k13, hok⟩ := hok
          obtain ⟨R12, eR12, hR, hok⟩ := g_let2 hR hok
          refine g_callS (c_X7_copies112 l G (mm 1) (mm 2) f w22_2 0 R12 eR12 k13) hx hb hml hown hts hK hP hD hS hA gX7_warmest_X7_copies rfl (n := 3) (by decide +kernel) rfl ⟨Nat.le_of_ble_eq_true rfl, Nat.le_of_ble_eq_true rfl⟩ [1, 2] rfl (by decide) hl.1 rfl (Nat.le_of_ble_eq_true rfl) ⟨Nat.zero_le _, Nat.zero_le _⟩ dX7_warmest_42 (fun H locs hP hD hS => ?_)
          have hP : va_P G.1 vwCl (List.flatten [MO G mm o, AW G (mm 1) 112 f, AW G (mm 2) 112 R12]) H := hP
          have hD : va_D A (List.flatten [MO G mm o, AW G (mm 1) 112 f, AW G (mm 2) 112 R12]) := hD
          refine lv_aload_n hx hb dX7_warmest_45 rfl (lv_at hl 0 rfl) ?_
          refine g_get (ci := 7) (v := .ref (mm 2)) (C := RX7) (T := TX7) (N := 12) hx hb hts hinX7 hown hK hP 0 rfl rfl 1 (by decide) (hts (.fieldLink RX7 13 "ChargeStagesModel" "trial" "[I") (List.mem_of_getElem? (i := 2) rfl)) rfl dX7_warmest_46 ?_
          refine lv_bipush (v := 45) hx hb dX7_warmest_49 (by decide) ?_
          refine lv_iload_n hx hb dX7_warmest_51 rfl (lv_at hl 1 rfl) ?_
          obtain ⟨z14, ez14, hR, hok⟩ := g_let2 hR hok
          refine g_st (n := 112) (f := R12) (k := 45) (B2 := [MO G mm o, AW G (mm 1) 112 f, AW G (mm 2) 112 z14]) hx hb hK hP hD hS 2 rfl (by decide) (by unfold vp_in; decide) (by subst ez14; rfl) dX7_warmest_52 (fun H locs hP hD hS => ?_)
          refine lv_aload_n hx hb dX7_warmest_53 rfl (lv_at hl 0 rfl) ?_
          refine lv_sipush (v := 500) hx hb dX7_warmest_54 (by decide) ?_
          obtain ⟨k16, hok⟩ := hok
          obtain ⟨R15, eR15, hR, hok⟩ := g_let2 hR hok
          refine g_callV (c_X7_doneBy l G mm o z14 500 R15 eR15 k16) hx hb hml hown hts hK hP hD hS hA gX7_warmest_X7_doneBy rfl (n := 1) (by decide +kernel) rfl ⟨Nat.le_of_ble_eq_true rfl, Nat.le_of_ble_eq_true rfl⟩ [0, 2] rfl (by decide) 0 rfl (ci := 7) rfl hl.1 rfl (Nat.le_of_ble_eq_true rfl) ⟨Nat.zero_le _, Nat.zero_le _⟩ dX7_warmest_57 (fun H locs hP hD hS => ?_)
          have hP : va_P G.1 vwCl (List.flatten [MO G mm o, AW G (mm 1) 112 f, AW G (mm 2) 112 R15.2]) H := hP
          have hD : va_D A (List.flatten [MO G mm o, AW G (mm 1) 112 f, AW G (mm 2) 112 R15.2]) := hD
          refine lv_if_le (tgt := 69) hx hb dX7_warmest_60 (by decide) (fun c17 => ?_) (fun c17 => ?_)
          · rw [if_pos c17] at hR
            have hok := hok.1 c17
            obtain ⟨v18, ev18, hR, hok⟩ := g_let2 hR hok
            refine lv_iinc (v := v18) (lv' := [(1, .int v18), (0, .ref (mm 0))]) hx hb dX7_warmest_69 hl (k := 1) rfl (by subst ev18; rfl) (by decide) rfl (fun ls hl => ?_)
            refine lv_goto (tgt := 22) hx hb dX7_warmest_72 (by decide) ?_
            exact ih v18 R15.2 _ _ _ hR hok hP hD hS (lv_sub hl [1, 0] rfl)
          · rw [if_neg c17] at hR
            have hok := hok.2 c17
            refine lv_iload_n hx hb dX7_warmest_63 rfl (lv_at hl 1 rfl) ?_
            refine lv_sipush (v := 1000) hx hb dX7_warmest_64 (by decide) ?_
            refine lv_iadd hx hb dX7_warmest_67 ?_
            subst hR
            exact g_ret hx hb hr hlocks hS dX7_warmest_68 rfl hP
    exact lp22 112 v2 ft _ _ _ hR hok hP hD hS (lv_sub hl [1, 0] rfl)
  · rw [if_neg c1] at hR
    have hok := hok.2 c1
    refine lv_bipush (v := (-4)) hx hb dX7_warmest_11 (by decide) ?_
    subst hR
    exact g_ret hx hb hr hlocks hS dX7_warmest_13 rfl hP
def f_X7_event (f : (Nat → Int32)) (p1 : Int32) (p2 : Int32) : Int32 := (if p1 < 0 then (-2) else (gL (f_X7_in p2 0 2) (fun (R2 : Int32) => (if R2 = 0 then (-2) else (if (f 81) ≤ p1 then (-5) else f (((82 + (3 * (((f 81) - 1) - p1))) + p2).toNatClampNeg))))))
def ok_X7_event (f : (Nat → Int32)) (p1 : Int32) (p2 : Int32) : Prop := ((p1 < 0 → True) ∧ (¬ p1 < 0 → (gL (f_X7_in p2 0 2) (fun (R2 : Int32) => ((R2 = 0 → True) ∧ (¬ R2 = 0 → (((f 81) ≤ p1 → True) ∧ (¬ (f 81) ≤ p1 → (vp_in ((82 + (3 * (((f 81) - 1) - p1))) + p2) 112) ∧ True))))))))
set_option maxHeartbeats 4000000 in
set_option maxRecDepth 100000 in
theorem c_X7_event (l : Launch) (G : gG) (mm : Nat → Nat) (o : (Nat → Int32)) (f : (Nat → Int32)) (p1 : Int32) (p2 : Int32) (R : Int32) (hR : R = f_X7_event f p1 p2) (hok : ok_X7_event f p1 p2) : CT l G yX7_event wsX7_event 1 22 [.ref (mm 0), .int p1, .int p2] [MO G mm o, AW G (mm 1) 112 f] (some (.int R)) [MO G mm o, AW G (mm 1) 112 f] := by
  unfold f_X7_event at hR
  unfold ok_X7_event at hok
  refine CT.of (cc := cX7_event) (maxL := 3) (ret := (some .int)) (plainFor_of_name (by decide +kernel)) rfl rfl (Nat.le_of_ble_eq_true rfl) ?_
  intro p e s m below meth c A ls hx hb hml hr hts hown hlocks hK hP hD hA hS hl
  have hown : s.vm.findClass RX7 = some m.cls := hown
  have hl : lv_has ls 3 [(0, .ref (mm 0)), (1, .int p1), (2, .int p2)] := hl
  have hinX7 : ∀ w ∈ wsX70, w ∈ wsX7_event := fun w h => List.mem_cons_of_mem _ (List.mem_append_right _ h)
  refine lv_iload_n hx hb dX7_event_0 rfl (lv_at hl 1 rfl) ?_
  refine lv_if_lt (tgt := 13) hx hb dX7_event_1 (by decide) (fun c1 => ?_) (fun c1 => ?_)
  · rw [if_pos c1] at hR
    have hok := hok.1 c1
    refine lv_bipush (v := (-2)) hx hb dX7_event_13 (by decide) ?_
    subst hR
    exact g_ret hx hb hr hlocks hS dX7_event_15 rfl hP
  · rw [if_neg c1] at hR
    have hok := hok.2 c1
    refine lv_iload_n hx hb dX7_event_4 rfl (lv_at hl 2 rfl) ?_
    refine lv_iconst (v := 0) hx hb dX7_event_5 (by decide) ?_
    refine lv_iconst (v := 2) hx hb dX7_event_6 (by decide) ?_
    obtain ⟨R2, eR2, hR, hok⟩ := g_let2 hR hok
    refine g_callS (c_X7_in l G p2 0 2 R2 eR2) hx hb hml hown hts hK hP hD hS hA gX7_event_X7_in rfl (n := 3) (by decide +kernel) rfl ⟨Nat.le_of_ble_eq_true rfl, Nat.le_of_ble_eq_true rfl⟩ [] rfl (by decide) hl.1 rfl (Nat.le_of_ble_eq_true rfl) ⟨Nat.zero_le _, Nat.zero_le _⟩ dX7_event_7 (fun H locs hP hD hS => ?_)
    have hP : va_P G.1 vwCl (List.flatten [MO G mm o, AW G (mm 1) 112 f]) H := hP
    have hD : va_D A (List.flatten [MO G mm o, AW G (mm 1) 112 f]) := hD
    refine lv_if_ne (tgt := 16) hx hb dX7_event_10 (by decide) (fun c4 => ?_) (fun c4 => ?_)
    · rw [if_neg c4] at hR
      have hok := hok.2 c4
      refine lv_iload_n hx hb dX7_event_16 rfl (lv_at hl 1 rfl) ?_
      refine lv_aload_n hx hb dX7_event_17 rfl (lv_at hl 0 rfl) ?_
      refine g_get (ci := 7) (v := .ref (mm 1)) (C := RX7) (T := TX7) (N := 12) hx hb hts hinX7 hown hK hP 0 rfl rfl 0 (by decide) (hts (.fieldLink RX7 7 "ChargeStagesModel" "s" "[I") (List.mem_of_getElem? (i := 1) rfl)) rfl dX7_event_18 ?_
      refine lv_bipush (v := 81) hx hb dX7_event_21 (by decide) ?_
      refine g_ld (n := 112) (f := f) (v := f 81) (k := 81) hx hb hK hP 1 rfl (by decide) (by unfold vp_in; decide) rfl dX7_event_23 ?_
      refine lv_icmp_ge (tgt := 53) hx hb dX7_event_24 (by decide) (fun c5 => ?_) (fun c5 => ?_)
      · rw [if_pos c5] at hR
        have hok := hok.1 c5
        refine lv_bipush (v := (-5)) hx hb dX7_event_53 (by decide) ?_
        subst hR
        exact g_ret hx hb hr hlocks hS dX7_event_55 rfl hP
      · rw [if_neg c5] at hR
        have hok := hok.2 c5
        refine lv_aload_n hx hb dX7_event_27 rfl (lv_at hl 0 rfl) ?_
        refine g_get (ci := 7) (v := .ref (mm 1)) (C := RX7) (T := TX7) (N := 12) hx hb hts hinX7 hown hK hP 0 rfl rfl 0 (by decide) (hts (.fieldLink RX7 7 "ChargeStagesModel" "s" "[I") (List.mem_of_getElem? (i := 1) rfl)) rfl dX7_event_28 ?_
        refine lv_bipush (v := 82) hx hb dX7_event_31 (by decide) ?_
        refine lv_iconst (v := 3) hx hb dX7_event_33 (by decide) ?_
        refine lv_aload_n hx hb dX7_event_34 rfl (lv_at hl 0 rfl) ?_
        refine g_get (ci := 7) (v := .ref (mm 1)) (C := RX7) (T := TX7) (N := 12) hx hb hts hinX7 hown hK hP 0 rfl rfl 0 (by decide) (hts (.fieldLink RX7 7 "ChargeStagesModel" "s" "[I") (List.mem_of_getElem? (i := 1) rfl)) rfl dX7_event_35 ?_
        refine lv_bipush (v := 81) hx hb dX7_event_38 (by decide) ?_
        refine g_ld (n := 112) (f := f) (v := f 81) (k := 81) hx hb hK hP 1 rfl (by decide) (by unfold vp_in; decide) rfl dX7_event_40 ?_
        refine lv_iconst (v := 1) hx hb dX7_event_41 (by decide) ?_
        refine lv_isub hx hb dX7_event_42 ?_
        refine lv_iload_n hx hb dX7_event_43 rfl (lv_at hl 1 rfl) ?_
        refine lv_isub hx hb dX7_event_44 ?_
        refine lv_imul hx hb dX7_event_45 ?_
        refine lv_iadd hx hb dX7_event_46 ?_
        refine lv_iload_n hx hb dX7_event_47 rfl (lv_at hl 2 rfl) ?_
        refine lv_iadd hx hb dX7_event_48 ?_
        obtain ⟨k6, hok⟩ := hok
        refine g_ld (n := 112) (f := f) (v := f (((82 + (3 * (((f 81) - 1) - p1))) + p2).toNatClampNeg)) (k := (((82 + (3 * (((f 81) - 1) - p1))) + p2).toNatClampNeg)) hx hb hK hP 1 rfl rfl k6 rfl dX7_event_49 ?_
        refine lv_goto (tgt := 55) hx hb dX7_event_50 (by decide) ?_
        subst hR
        exact g_ret hx hb hr hlocks hS dX7_event_55 rfl hP
    · rw [if_pos c4] at hR
      have hok := hok.1 c4
      refine lv_bipush (v := (-2)) hx hb dX7_event_13 (by decide) ?_
      subst hR
      exact g_ret hx hb hr hlocks hS dX7_event_15 rfl hP
def f_X7_count (o : (Nat → Int32)) (f : (Nat → Int32)) (p1 : Int32) : Int32 := (if p1 = 0 then f 76 else (if p1 = 1 then f 71 else (if p1 = 2 then f 72 else (if p1 = 3 then f 73 else (if p1 = 4 then (if (f 73) = 1 then f 74 else (-5)) else (if p1 = 5 then (if (f 73) = 1 then f 75 else 0) else (if p1 = 6 then f 77 else (if p1 = 7 then (if p1 = 8 then (gL (f_X7_charged f 1) (fun (R14 : Int32) => R14)) else (gL (f_X7_charged f 0) (fun (R12 : Int32) => R12))) else (if p1 = 8 then (if p1 = 8 then (gL (f_X7_charged f 1) (fun (R20 : Int32) => R20)) else (gL (f_X7_charged f 0) (fun (R18 : Int32) => R18))) else (if p1 = 9 then (if (f 73) = 1 then (gL (f_X7_isOut f) (fun (R24 : Int32) => (if R24 = 0 then 0 else 1))) else 0) else (if p1 = 10 then f 78 else (if p1 = 11 then f 79 else (if p1 = 12 then o 0 else (if p1 = 13 then o 2 else (-2)))))))))))))))
def ok_X7_count (f : (Nat → Int32)) (p1 : Int32) : Prop := ((p1 = 0 → True) ∧ (¬ p1 = 0 → ((p1 = 1 → True) ∧ (¬ p1 = 1 → ((p1 = 2 → True) ∧ (¬ p1 = 2 → ((p1 = 3 → True) ∧ (¬ p1 = 3 → ((p1 = 4 → True) ∧ (¬ p1 = 4 → ((p1 = 5 → True) ∧ (¬ p1 = 5 → ((p1 = 6 → True) ∧ (¬ p1 = 6 → ((p1 = 7 → ((p1 = 8 → (ok_X7_charged f 1) ∧ True) ∧ (¬ p1 = 8 → (ok_X7_charged f 0) ∧ True))) ∧ (¬ p1 = 7 → ((p1 = 8 → ((p1 = 8 → (ok_X7_charged f 1) ∧ True) ∧ (¬ p1 = 8 → (ok_X7_charged f 0) ∧ True))) ∧ (¬ p1 = 8 → True))))))))))))))))))
set_option maxHeartbeats 4000000 in
set_option maxRecDepth 100000 in
theorem c_X7_count (l : Launch) (G : gG) (mm : Nat → Nat) (o : (Nat → Int32)) (f : (Nat → Int32)) (p1 : Int32) (R : Int32) (hR : R = f_X7_count o f p1) (hok : ok_X7_count f p1) : CT l G yX7_count wsX7_count 2 46 [.ref (mm 0), .int p1] [MO G mm o, AW G (mm 1) 112 f] (some (.int R)) [MO G mm o, AW G (mm 1) 112 f] := by
  unfold f_X7_count at hR
  unfold ok_X7_count at hok
  refine CT.of (cc := cX7_count) (maxL := 2) (ret := (some .int)) (plainFor_of_name (by decide +kernel)) rfl rfl (Nat.le_of_ble_eq_true rfl) ?_
  intro p e s m below meth c A ls hx hb hml hr hts hown hlocks hK hP hD hA hS hl
  have hown : s.vm.findClass RX7 = some m.cls := hown
  have hl : lv_has ls 2 [(0, .ref (mm 0)), (1, .int p1)] := hl
  have hinX7 : ∀ w ∈ wsX70, w ∈ wsX7_count := fun w h => List.mem_cons_of_mem _ (List.mem_append_right _ h)
  refine lv_iload_n hx hb dX7_count_0 rfl (lv_at hl 1 rfl) ?_
  by_cases c1 : p1 = 0
  · rw [if_pos c1] at hR
    have hok := hok.1 c1
    refine lv_tableIn (off := 71) (tgt := 72) hx hb dX7_count_1 (by rw [c1]; decide) (by rw [c1]; decide) (by rw [c1]; rfl) (by decide) ?_
    refine lv_aload_n hx hb dX7_count_72 rfl (lv_at hl 0 rfl) ?_
    refine g_get (ci := 7) (v := .ref (mm 1)) (C := RX7) (T := TX7) (N := 12) hx hb hts hinX7 hown hK hP 0 rfl rfl 0 (by decide) (hts (.fieldLink RX7 7 "ChargeStagesModel" "s" "[I") (List.mem_of_getElem? (i := 1) rfl)) rfl dX7_count_73 ?_
    refine lv_bipush (v := 76) hx hb dX7_count_76 (by decide) ?_
    refine g_ld (n := 112) (f := f) (v := f 76) (k := 76) hx hb hK hP 1 rfl (by decide) (by unfold vp_in; decide) rfl dX7_count_78 ?_
    subst hR
    exact g_ret hx hb hr hlocks hS dX7_count_79 rfl hP
  · rw [if_neg c1] at hR
    have hok := hok.2 c1
    by_cases c2 : p1 = 1
    · rw [if_pos c2] at hR
      have hok := hok.1 c2
      refine lv_tableIn (off := 79) (tgt := 80) hx hb dX7_count_1 (by rw [c2]; decide) (by rw [c2]; decide) (by rw [c2]; rfl) (by decide) ?_
      refine lv_aload_n hx hb dX7_count_80 rfl (lv_at hl 0 rfl) ?_
      refine g_get (ci := 7) (v := .ref (mm 1)) (C := RX7) (T := TX7) (N := 12) hx hb hts hinX7 hown hK hP 0 rfl rfl 0 (by decide) (hts (.fieldLink RX7 7 "ChargeStagesModel" "s" "[I") (List.mem_of_getElem? (i := 1) rfl)) rfl dX7_count_81 ?_
      refine lv_bipush (v := 71) hx hb dX7_count_84 (by decide) ?_
      refine g_ld (n := 112) (f := f) (v := f 71) (k := 71) hx hb hK hP 1 rfl (by decide) (by unfold vp_in; decide) rfl dX7_count_86 ?_
      subst hR
      exact g_ret hx hb hr hlocks hS dX7_count_87 rfl hP
    · rw [if_neg c2] at hR
      have hok := hok.2 c2
      by_cases c3 : p1 = 2
      · rw [if_pos c3] at hR
        have hok := hok.1 c3
        refine lv_tableIn (off := 87) (tgt := 88) hx hb dX7_count_1 (by rw [c3]; decide) (by rw [c3]; decide) (by rw [c3]; rfl) (by decide) ?_
        refine lv_aload_n hx hb dX7_count_88 rfl (lv_at hl 0 rfl) ?_
        refine g_get (ci := 7) (v := .ref (mm 1)) (C := RX7) (T := TX7) (N := 12) hx hb hts hinX7 hown hK hP 0 rfl rfl 0 (by decide) (hts (.fieldLink RX7 7 "ChargeStagesModel" "s" "[I") (List.mem_of_getElem? (i := 1) rfl)) rfl dX7_count_89 ?_
        refine lv_bipush (v := 72) hx hb dX7_count_92 (by decide) ?_
        refine g_ld (n := 112) (f := f) (v := f 72) (k := 72) hx hb hK hP 1 rfl (by decide) (by unfold vp_in; decide) rfl dX7_count_94 ?_
        subst hR
        exact g_ret hx hb hr hlocks hS dX7_count_95 rfl hP
      · rw [if_neg c3] at hR
        have hok := hok.2 c3
        by_cases c4 : p1 = 3
        · rw [if_pos c4] at hR
          have hok := hok.1 c4
          refine lv_tableIn (off := 95) (tgt := 96) hx hb dX7_count_1 (by rw [c4]; decide) (by rw [c4]; decide) (by rw [c4]; rfl) (by decide) ?_
          refine lv_aload_n hx hb dX7_count_96 rfl (lv_at hl 0 rfl) ?_
          refine g_get (ci := 7) (v := .ref (mm 1)) (C := RX7) (T := TX7) (N := 12) hx hb hts hinX7 hown hK hP 0 rfl rfl 0 (by decide) (hts (.fieldLink RX7 7 "ChargeStagesModel" "s" "[I") (List.mem_of_getElem? (i := 1) rfl)) rfl dX7_count_97 ?_
          refine lv_bipush (v := 73) hx hb dX7_count_100 (by decide) ?_
          refine g_ld (n := 112) (f := f) (v := f 73) (k := 73) hx hb hK hP 1 rfl (by decide) (by unfold vp_in; decide) rfl dX7_count_102 ?_
          subst hR
          exact g_ret hx hb hr hlocks hS dX7_count_103 rfl hP
        · rw [if_neg c4] at hR
          have hok := hok.2 c4
          by_cases c5 : p1 = 4
          · rw [if_pos c5] at hR
            have hok := hok.1 c5
            refine lv_tableIn (off := 103) (tgt := 104) hx hb dX7_count_1 (by rw [c5]; decide) (by rw [c5]; decide) (by rw [c5]; rfl) (by decide) ?_
            refine lv_aload_n hx hb dX7_count_104 rfl (lv_at hl 0 rfl) ?_
            refine g_get (ci := 7) (v := .ref (mm 1)) (C := RX7) (T := TX7) (N := 12) hx hb hts hinX7 hown hK hP 0 rfl rfl 0 (by decide) (hts (.fieldLink RX7 7 "ChargeStagesModel" "s" "[I") (List.mem_of_getElem? (i := 1) rfl)) rfl dX7_count_105 ?_
            refine lv_bipush (v := 73) hx hb dX7_count_108 (by decide) ?_
            refine g_ld (n := 112) (f := f) (v := f 73) (k := 73) hx hb hK hP 1 rfl (by decide) (by unfold vp_in; decide) rfl dX7_count_110 ?_
            refine lv_iconst (v := 1) hx hb dX7_count_111 (by decide) ?_
            refine lv_icmp_ne (tgt := 125) hx hb dX7_count_112 (by decide) (fun c6 => ?_) (fun c6 => ?_)
            · rw [if_neg c6] at hR
              refine lv_bipush (v := (-5)) hx hb dX7_count_125 (by decide) ?_
              subst hR
              exact g_ret hx hb hr hlocks hS dX7_count_127 rfl hP
            · rw [if_pos c6] at hR
              refine lv_aload_n hx hb dX7_count_115 rfl (lv_at hl 0 rfl) ?_
              refine g_get (ci := 7) (v := .ref (mm 1)) (C := RX7) (T := TX7) (N := 12) hx hb hts hinX7 hown hK hP 0 rfl rfl 0 (by decide) (hts (.fieldLink RX7 7 "ChargeStagesModel" "s" "[I") (List.mem_of_getElem? (i := 1) rfl)) rfl dX7_count_116 ?_
              refine lv_bipush (v := 74) hx hb dX7_count_119 (by decide) ?_
              refine g_ld (n := 112) (f := f) (v := f 74) (k := 74) hx hb hK hP 1 rfl (by decide) (by unfold vp_in; decide) rfl dX7_count_121 ?_
              refine lv_goto (tgt := 127) hx hb dX7_count_122 (by decide) ?_
              subst hR
              exact g_ret hx hb hr hlocks hS dX7_count_127 rfl hP
          · rw [if_neg c5] at hR
            have hok := hok.2 c5
            by_cases c7 : p1 = 5
            · rw [if_pos c7] at hR
              have hok := hok.1 c7
              refine lv_tableIn (off := 127) (tgt := 128) hx hb dX7_count_1 (by rw [c7]; decide) (by rw [c7]; decide) (by rw [c7]; rfl) (by decide) ?_
              refine lv_aload_n hx hb dX7_count_128 rfl (lv_at hl 0 rfl) ?_
              refine g_get (ci := 7) (v := .ref (mm 1)) (C := RX7) (T := TX7) (N := 12) hx hb hts hinX7 hown hK hP 0 rfl rfl 0 (by decide) (hts (.fieldLink RX7 7 "ChargeStagesModel" "s" "[I") (List.mem_of_getElem? (i := 1) rfl)) rfl dX7_count_129 ?_
              refine lv_bipush (v := 73) hx hb dX7_count_132 (by decide) ?_
              refine g_ld (n := 112) (f := f) (v := f 73) (k := 73) hx hb hK hP 1 rfl (by decide) (by unfold vp_in; decide) rfl dX7_count_134 ?_
              refine lv_iconst (v := 1) hx hb dX7_count_135 (by decide) ?_
              refine lv_icmp_ne (tgt := 149) hx hb dX7_count_136 (by decide) (fun c8 => ?_) (fun c8 => ?_)
              · rw [if_neg c8] at hR
                refine lv_iconst (v := 0) hx hb dX7_count_149 (by decide) ?_
                subst hR
                exact g_ret hx hb hr hlocks hS dX7_count_150 rfl hP
              · rw [if_pos c8] at hR
                refine lv_aload_n hx hb dX7_count_139 rfl (lv_at hl 0 rfl) ?_
                refine g_get (ci := 7) (v := .ref (mm 1)) (C := RX7) (T := TX7) (N := 12) hx hb hts hinX7 hown hK hP 0 rfl rfl 0 (by decide) (hts (.fieldLink RX7 7 "ChargeStagesModel" "s" "[I") (List.mem_of_getElem? (i := 1) rfl)) rfl dX7_count_140 ?_
                refine lv_bipush (v := 75) hx hb dX7_count_143 (by decide) ?_
                refine g_ld (n := 112) (f := f) (v := f 75) (k := 75) hx hb hK hP 1 rfl (by decide) (by unfold vp_in; decide) rfl dX7_count_145 ?_
                refine lv_goto (tgt := 150) hx hb dX7_count_146 (by decide) ?_
                subst hR
                exact g_ret hx hb hr hlocks hS dX7_count_150 rfl hP
            · rw [if_neg c7] at hR
              have hok := hok.2 c7
              by_cases c9 : p1 = 6
              · rw [if_pos c9] at hR
                have hok := hok.1 c9
                refine lv_tableIn (off := 150) (tgt := 151) hx hb dX7_count_1 (by rw [c9]; decide) (by rw [c9]; decide) (by rw [c9]; rfl) (by decide) ?_
                refine lv_aload_n hx hb dX7_count_151 rfl (lv_at hl 0 rfl) ?_
                refine g_get (ci := 7) (v := .ref (mm 1)) (C := RX7) (T := TX7) (N := 12) hx hb hts hinX7 hown hK hP 0 rfl rfl 0 (by decide) (hts (.fieldLink RX7 7 "ChargeStagesModel" "s" "[I") (List.mem_of_getElem? (i := 1) rfl)) rfl dX7_count_152 ?_
                refine lv_bipush (v := 77) hx hb dX7_count_155 (by decide) ?_
                refine g_ld (n := 112) (f := f) (v := f 77) (k := 77) hx hb hK hP 1 rfl (by decide) (by unfold vp_in; decide) rfl dX7_count_157 ?_
                subst hR
                exact g_ret hx hb hr hlocks hS dX7_count_158 rfl hP
              · rw [if_neg c9] at hR
                have hok := hok.2 c9
                by_cases c10 : p1 = 7
                · rw [if_pos c10] at hR
                  have hok := hok.1 c10
                  refine lv_tableIn (off := 158) (tgt := 159) hx hb dX7_count_1 (by rw [c10]; decide) (by rw [c10]; decide) (by rw [c10]; rfl) (by decide) ?_
                  refine lv_aload_n hx hb dX7_count_159 rfl (lv_at hl 0 rfl) ?_
                  refine g_get (ci := 7) (v := .ref (mm 1)) (C := RX7) (T := TX7) (N := 12) hx hb hts hinX7 hown hK hP 0 rfl rfl 0 (by decide) (hts (.fieldLink RX7 7 "ChargeStagesModel" "s" "[I") (List.mem_of_getElem? (i := 1) rfl)) rfl dX7_count_160 ?_
                  refine lv_iload_n hx hb dX7_count_163 rfl (lv_at hl 1 rfl) ?_
                  refine lv_bipush (v := 8) hx hb dX7_count_164 (by decide) ?_
                  refine lv_icmp_ne (tgt := 173) hx hb dX7_count_166 (by decide) (fun c11 => ?_) (fun c11 => ?_)
                  · rw [if_neg c11] at hR
                    have hok := hok.2 c11
                    refine lv_iconst (v := 0) hx hb dX7_count_173 (by decide) ?_
                    obtain ⟨k13, hok⟩ := hok
                    obtain ⟨R12, eR12, hR⟩ := g_let hR
                    refine g_callS (c_X7_charged l G (mm 1) f 0 R12 eR12 k13) hx hb hml hown hts hK hP hD hS hA gX7_count_X7_charged rfl (n := 2) (by decide +kernel) rfl ⟨Nat.le_of_ble_eq_true rfl, Nat.le_of_ble_eq_true rfl⟩ [1] rfl (by decide) hl.1 rfl (Nat.le_of_ble_eq_true rfl) ⟨Nat.zero_le _, Nat.zero_le _⟩ dX7_count_174 (fun H locs hP hD hS => ?_)
                    have hP : va_P G.1 vwCl (List.flatten [MO G mm o, AW G (mm 1) 112 f]) H := hP
                    have hD : va_D A (List.flatten [MO G mm o, AW G (mm 1) 112 f]) := hD
                    subst hR
                    exact g_ret hx hb hr hlocks hS dX7_count_177 rfl hP
                  · rw [if_pos c11] at hR
                    have hok := hok.1 c11
                    refine lv_iconst (v := 1) hx hb dX7_count_169 (by decide) ?_
                    refine lv_goto (tgt := 174) hx hb dX7_count_170 (by decide) ?_
                    obtain ⟨k15, hok⟩ := hok
                    obtain ⟨R14, eR14, hR⟩ := g_let hR
                    refine g_callS (c_X7_charged l G (mm 1) f 1 R14 eR14 k15) hx hb hml hown hts hK hP hD hS hA gX7_count_X7_charged rfl (n := 2) (by decide +kernel) rfl ⟨Nat.le_of_ble_eq_true rfl, Nat.le_of_ble_eq_true rfl⟩ [1] rfl (by decide) hl.1 rfl (Nat.le_of_ble_eq_true rfl) ⟨Nat.zero_le _, Nat.zero_le _⟩ dX7_count_174 (fun H locs hP hD hS => ?_)
                    have hP : va_P G.1 vwCl (List.flatten [MO G mm o, AW G (mm 1) 112 f]) H := hP
                    have hD : va_D A (List.flatten [MO G mm o, AW G (mm 1) 112 f]) := hD
                    subst hR
                    exact g_ret hx hb hr hlocks hS dX7_count_177 rfl hP
                · rw [if_neg c10] at hR
                  have hok := hok.2 c10
                  by_cases c16 : p1 = 8
                  · rw [if_pos c16] at hR
                    have hok := hok.1 c16
                    refine lv_tableIn (off := 158) (tgt := 159) hx hb dX7_count_1 (by rw [c16]; decide) (by rw [c16]; decide) (by rw [c16]; rfl) (by decide) ?_
                    refine lv_aload_n hx hb dX7_count_159 rfl (lv_at hl 0 rfl) ?_
                    refine g_get (ci := 7) (v := .ref (mm 1)) (C := RX7) (T := TX7) (N := 12) hx hb hts hinX7 hown hK hP 0 rfl rfl 0 (by decide) (hts (.fieldLink RX7 7 "ChargeStagesModel" "s" "[I") (List.mem_of_getElem? (i := 1) rfl)) rfl dX7_count_160 ?_
                    refine lv_iload_n hx hb dX7_count_163 rfl (lv_at hl 1 rfl) ?_
                    refine lv_bipush (v := 8) hx hb dX7_count_164 (by decide) ?_
                    refine lv_icmp_ne (tgt := 173) hx hb dX7_count_166 (by decide) (fun c17 => ?_) (fun c17 => ?_)
                    · rw [if_neg c17] at hR
                      have hok := hok.2 c17
                      refine lv_iconst (v := 0) hx hb dX7_count_173 (by decide) ?_
                      obtain ⟨k19, hok⟩ := hok
                      obtain ⟨R18, eR18, hR⟩ := g_let hR
                      refine g_callS (c_X7_charged l G (mm 1) f 0 R18 eR18 k19) hx hb hml hown hts hK hP hD hS hA gX7_count_X7_charged rfl (n := 2) (by decide +kernel) rfl ⟨Nat.le_of_ble_eq_true rfl, Nat.le_of_ble_eq_true rfl⟩ [1] rfl (by decide) hl.1 rfl (Nat.le_of_ble_eq_true rfl) ⟨Nat.zero_le _, Nat.zero_le _⟩ dX7_count_174 (fun H locs hP hD hS => ?_)
                      have hP : va_P G.1 vwCl (List.flatten [MO G mm o, AW G (mm 1) 112 f]) H := hP
                      have hD : va_D A (List.flatten [MO G mm o, AW G (mm 1) 112 f]) := hD
                      subst hR
                      exact g_ret hx hb hr hlocks hS dX7_count_177 rfl hP
                    · rw [if_pos c17] at hR
                      have hok := hok.1 c17
                      refine lv_iconst (v := 1) hx hb dX7_count_169 (by decide) ?_
                      refine lv_goto (tgt := 174) hx hb dX7_count_170 (by decide) ?_
                      obtain ⟨k21, hok⟩ := hok
                      obtain ⟨R20, eR20, hR⟩ := g_let hR
                      refine g_callS (c_X7_charged l G (mm 1) f 1 R20 eR20 k21) hx hb hml hown hts hK hP hD hS hA gX7_count_X7_charged rfl (n := 2) (by decide +kernel) rfl ⟨Nat.le_of_ble_eq_true rfl, Nat.le_of_ble_eq_true rfl⟩ [1] rfl (by decide) hl.1 rfl (Nat.le_of_ble_eq_true rfl) ⟨Nat.zero_le _, Nat.zero_le _⟩ dX7_count_174 (fun H locs hP hD hS => ?_)
                      have hP : va_P G.1 vwCl (List.flatten [MO G mm o, AW G (mm 1) 112 f]) H := hP
                      have hD : va_D A (List.flatten [MO G mm o, AW G (mm 1) 112 f]) := hD
                      subst hR
                      exact g_ret hx hb hr hlocks hS dX7_count_177 rfl hP
                  · rw [if_neg c16] at hR
                    have hok := hok.2 c16
                    by_cases c22 : p1 = 9
                    · rw [if_pos c22] at hR
                      refine lv_tableIn (off := 177) (tgt := 178) hx hb dX7_count_1 (by rw [c22]; decide) (by rw [c22]; decide) (by rw [c22]; rfl) (by decide) ?_
                      refine lv_aload_n hx hb dX7_count_178 rfl (lv_at hl 0 rfl) ?_
                      refine g_get (ci := 7) (v := .ref (mm 1)) (C := RX7) (T := TX7) (N := 12) hx hb hts hinX7 hown hK hP 0 rfl rfl 0 (by decide) (hts (.fieldLink RX7 7 "ChargeStagesModel" "s" "[I") (List.mem_of_getElem? (i := 1) rfl)) rfl dX7_count_179 ?_
                      refine lv_bipush (v := 73) hx hb dX7_count_182 (by decide) ?_
                      refine g_ld (n := 112) (f := f) (v := f 73) (k := 73) hx hb hK hP 1 rfl (by decide) (by unfold vp_in; decide) rfl dX7_count_184 ?_
                      refine lv_iconst (v := 1) hx hb dX7_count_185 (by decide) ?_
                      refine lv_icmp_ne (tgt := 203) hx hb dX7_count_186 (by decide) (fun c23 => ?_) (fun c23 => ?_)
                      · rw [if_neg c23] at hR
                        refine lv_iconst (v := 0) hx hb dX7_count_203 (by decide) ?_
                        subst hR
                        exact g_ret hx hb hr hlocks hS dX7_count_204 rfl hP
                      · rw [if_pos c23] at hR
                        refine lv_aload_n hx hb dX7_count_189 rfl (lv_at hl 0 rfl) ?_
                        refine g_get (ci := 7) (v := .ref (mm 1)) (C := RX7) (T := TX7) (N := 12) hx hb hts hinX7 hown hK hP 0 rfl rfl 0 (by decide) (hts (.fieldLink RX7 7 "ChargeStagesModel" "s" "[I") (List.mem_of_getElem? (i := 1) rfl)) rfl dX7_count_190 ?_
                        obtain ⟨R24, eR24, hR⟩ := g_let hR
                        refine g_callS (c_X7_isOut l G (mm 1) f R24 eR24) hx hb hml hown hts hK hP hD hS hA gX7_count_X7_isOut rfl (n := 1) (by decide +kernel) rfl ⟨Nat.le_of_ble_eq_true rfl, Nat.le_of_ble_eq_true rfl⟩ [1] rfl (by decide) hl.1 rfl (Nat.le_of_ble_eq_true rfl) ⟨Nat.zero_le _, Nat.zero_le _⟩ dX7_count_193 (fun H locs hP hD hS => ?_)
                        have hP : va_P G.1 vwCl (List.flatten [MO G mm o, AW G (mm 1) 112 f]) H := hP
                        have hD : va_D A (List.flatten [MO G mm o, AW G (mm 1) 112 f]) := hD
                        refine lv_if_eq (tgt := 203) hx hb dX7_count_196 (by decide) (fun c26 => ?_) (fun c26 => ?_)
                        · rw [if_pos c26] at hR
                          refine lv_iconst (v := 0) hx hb dX7_count_203 (by decide) ?_
                          subst hR
                          exact g_ret hx hb hr hlocks hS dX7_count_204 rfl hP
                        · rw [if_neg c26] at hR
                          refine lv_iconst (v := 1) hx hb dX7_count_199 (by decide) ?_
                          refine lv_goto (tgt := 204) hx hb dX7_count_200 (by decide) ?_
                          subst hR
                          exact g_ret hx hb hr hlocks hS dX7_count_204 rfl hP
                    · rw [if_neg c22] at hR
                      by_cases c27 : p1 = 10
                      · rw [if_pos c27] at hR
                        refine lv_tableIn (off := 204) (tgt := 205) hx hb dX7_count_1 (by rw [c27]; decide) (by rw [c27]; decide) (by rw [c27]; rfl) (by decide) ?_
                        refine lv_aload_n hx hb dX7_count_205 rfl (lv_at hl 0 rfl) ?_
                        refine g_get (ci := 7) (v := .ref (mm 1)) (C := RX7) (T := TX7) (N := 12) hx hb hts hinX7 hown hK hP 0 rfl rfl 0 (by decide) (hts (.fieldLink RX7 7 "ChargeStagesModel" "s" "[I") (List.mem_of_getElem? (i := 1) rfl)) rfl dX7_count_206 ?_
                        refine lv_bipush (v := 78) hx hb dX7_count_209 (by decide) ?_
                        refine g_ld (n := 112) (f := f) (v := f 78) (k := 78) hx hb hK hP 1 rfl (by decide) (by unfold vp_in; decide) rfl dX7_count_211 ?_
                        subst hR
                        exact g_ret hx hb hr hlocks hS dX7_count_212 rfl hP
                      · rw [if_neg c27] at hR
                        by_cases c28 : p1 = 11
                        · rw [if_pos c28] at hR
                          refine lv_tableIn (off := 212) (tgt := 213) hx hb dX7_count_1 (by rw [c28]; decide) (by rw [c28]; decide) (by rw [c28]; rfl) (by decide) ?_
                          refine lv_aload_n hx hb dX7_count_213 rfl (lv_at hl 0 rfl) ?_
                          refine g_get (ci := 7) (v := .ref (mm 1)) (C := RX7) (T := TX7) (N := 12) hx hb hts hinX7 hown hK hP 0 rfl rfl 0 (by decide) (hts (.fieldLink RX7 7 "ChargeStagesModel" "s" "[I") (List.mem_of_getElem? (i := 1) rfl)) rfl dX7_count_214 ?_
                          refine lv_bipush (v := 79) hx hb dX7_count_217 (by decide) ?_
                          refine g_ld (n := 112) (f := f) (v := f 79) (k := 79) hx hb hK hP 1 rfl (by decide) (by unfold vp_in; decide) rfl dX7_count_219 ?_
                          subst hR
                          exact g_ret hx hb hr hlocks hS dX7_count_220 rfl hP
                        · rw [if_neg c28] at hR
                          by_cases c29 : p1 = 12
                          · rw [if_pos c29] at hR
                            refine lv_tableIn (off := 220) (tgt := 221) hx hb dX7_count_1 (by rw [c29]; decide) (by rw [c29]; decide) (by rw [c29]; rfl) (by decide) ?_
                            refine lv_aload_n hx hb dX7_count_221 rfl (lv_at hl 0 rfl) ?_
                            refine g_get (ci := 7) (v := .int (o 0)) (C := RX7) (T := TX7) (N := 12) hx hb hts hinX7 hown hK hP 0 rfl rfl 3 (by decide) (hts (.fieldLink RX7 29 "ChargeStagesModel" "states" "I") (List.mem_of_getElem? (i := 2) rfl)) rfl dX7_count_222 ?_
                            subst hR
                            exact g_ret hx hb hr hlocks hS dX7_count_225 rfl hP
                          · rw [if_neg c29] at hR
                            by_cases c30 : p1 = 13
                            · rw [if_pos c30] at hR
                              refine lv_tableIn (off := 225) (tgt := 226) hx hb dX7_count_1 (by rw [c30]; decide) (by rw [c30]; decide) (by rw [c30]; rfl) (by decide) ?_
                              refine lv_aload_n hx hb dX7_count_226 rfl (lv_at hl 0 rfl) ?_
                              refine g_get (ci := 7) (v := .int (o 2)) (C := RX7) (T := TX7) (N := 12) hx hb hts hinX7 hown hK hP 0 rfl rfl 7 (by decide) (hts (.fieldLink RX7 126 "ChargeStagesModel" "length" "I") (List.mem_of_getElem? (i := 3) rfl)) rfl dX7_count_227 ?_
                              subst hR
                              exact g_ret hx hb hr hlocks hS dX7_count_230 rfl hP
                            · rw [if_neg c30] at hR
                              refine lv_tableOut (tgt := 231) hx hb dX7_count_1 (g_out 14 (lt_s (lt_s (lt_s (lt_s (lt_s (lt_s (lt_s (lt_s (lt_s (lt_s (lt_s (lt_s (lt_s (lt_s lt_0 c1) c2) c3) c4) c5) c7) c9) c10) c16) c22) c27) c28) c29) c30)) (by decide) ?_
                              refine lv_bipush (v := (-2)) hx hb dX7_count_231 (by decide) ?_
                              subst hR
                              exact g_ret hx hb hr hlocks hS dX7_count_233 rfl hP
