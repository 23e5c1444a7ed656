def f_X6_cell (st : (Nat → Int32)) (b : (Nat → Nat → Int32)) (p1 : Int32) (p2 : Int32) : Int32 := (gL (f_X0_has b p1) (fun (R1 : Int32) => (if R1 = 0 then (-1) else (if p2 = 0 then (b 1) ((p1).toNatClampNeg) else (if p2 = 1 then (gL (f_X6_baseVoltage ((b 1) ((p1).toNatClampNeg)) (st 0)) (fun (R8 : Int32) => R8)) else (if p2 = 2 then (b 2) ((p1).toNatClampNeg) else (if p2 = 3 then (b 3) ((p1).toNatClampNeg) else (if p2 = 4 then (b 4) ((p1).toNatClampNeg) else (if p2 = 5 then (b 5) ((p1).toNatClampNeg) else (if p2 = 6 then (b 6) ((p1).toNatClampNeg) else (if p2 = 7 then (b 7) ((p1).toNatClampNeg) else (if p2 = 8 then (((b 3) ((p1).toNatClampNeg)) - ((b 4) ((p1).toNatClampNeg))) else (-2)))))))))))))
def ok_X6_cell (st : (Nat → Int32)) (b : (Nat → Nat → Int32)) (p1 : Int32) (p2 : Int32) : Prop := (gL (f_X0_has b p1) (fun (R1 : Int32) => ((R1 = 0 → True) ∧ (¬ R1 = 0 → ((p2 = 0 → (vp_in p1 6) ∧ True) ∧ (¬ p2 = 0 → ((p2 = 1 → (vp_in p1 6) ∧ (ok_X6_baseVoltage (st 0)) ∧ True) ∧ (¬ p2 = 1 → ((p2 = 2 → (vp_in p1 6) ∧ True) ∧ (¬ p2 = 2 → ((p2 = 3 → (vp_in p1 6) ∧ True) ∧ (¬ p2 = 3 → ((p2 = 4 → (vp_in p1 6) ∧ True) ∧ (¬ p2 = 4 → ((p2 = 5 → (vp_in p1 6) ∧ True) ∧ (¬ p2 = 5 → ((p2 = 6 → (vp_in p1 6) ∧ True) ∧ (¬ p2 = 6 → ((p2 = 7 → (vp_in p1 6) ∧ True) ∧ (¬ p2 = 7 → ((p2 = 8 → (vp_in p1 6) ∧ (vp_in p1 6) ∧ True) ∧ (¬ p2 = 8 → True))))))))))))))))))))))
set_option maxHeartbeats 4000000 in
set_option maxRecDepth 100000 in
theorem c_X6_cell (l : Launch) (G : gG) (x : Nat → Nat) (cx : (Nat → Int32)) (o : (Nat → Int32)) (st : (Nat → Int32)) (b : (Nat → Nat → Int32)) (pf : (Nat → Nat → Int32)) (g : (Nat → Nat → Int32)) (p1 : Int32) (p2 : Int32) (R : Int32) (hR : R = f_X6_cell st b p1 p2) (hok : ok_X6_cell st b p1 p2) : CT l G yX6_cell wsX6_cell 1 21 [.ref (x 0), .int p1, .int p2] [CW G x cx, OW G (fun k => x (k + 1)) o, AW G (x 2) 9 st, BW G (fun k => x (k + 3)) b, PW G (fun k => x (k + 11)) pf, LW G (fun k => x (k + 16)) g] (some (.int R)) [CW G x cx, OW G (fun k => x (k + 1)) o, AW G (x 2) 9 st, BW G (fun k => x (k + 3)) b, PW G (fun k => x (k + 11)) pf, LW G (fun k => x (k + 16)) g] := by
  unfold f_X6_cell at hR
  unfold ok_X6_cell at hok
  refine CT.of (cc := cX6_cell) (maxL := 3) (ret := (some .int)) (plainFor_of_name (by decide +kernel)) rfl rfl (Nat.le_of_ble_eq_true rfl) ?_
  intro p e s m below meth c A ls hx hb hml hr hts hown hlocks hK hP hD hA hS hl
  have hown : s.vm.findClass RX6 = some m.cls := hown
  have hl : lv_has ls 3 [(0, .ref (x 0)), (1, .int p1), (2, .int p2)] := hl
  have hinX0 : ∀ w ∈ wsX00, w ∈ wsX6_cell := fun w h => List.mem_cons_of_mem _ (List.mem_append_right _ h)
  have hinX4 : ∀ w ∈ wsX40, w ∈ wsX6_cell := fun w h => List.mem_cons_of_mem _ (List.mem_append_left _ (List.mem_append_right _ h))
  have hinX6 : ∀ w ∈ wsX60, w ∈ wsX6_cell := fun w h => List.mem_cons_of_mem _ (List.mem_append_left _ (List.mem_append_left _ (List.mem_append_right _ h)))
  refine lv_aload_n hx hb dX6_cell_0 rfl (lv_at hl 0 rfl) ?_
  refine g_get (ci := 6) (v := .ref (x 1)) (C := RX6) (T := TX6) (N := 7) hx hb hts hinX6 hown hK hP 0 rfl rfl 0 (by decide) (hts (.fieldLink RX6 10 "ChargeStages" "now" "LChargeStages$State;") (List.mem_of_getElem? (i := 1) rfl)) rfl dX6_cell_1 ?_
  refine g_get (ci := 4) (v := .ref (x 3)) (C := RX4) (T := TX4) (N := 12) hx hb hts hinX4 hown hK hP 1 rfl rfl 1 (by decide) (hts (.fieldLink RX6 50 "ChargeStages$State" "row" "LChargeStages$Battery;") (List.mem_of_getElem? (i := 2) rfl)) rfl dX6_cell_4 ?_
  refine lv_iload_n hx hb dX6_cell_7 rfl (lv_at hl 1 rfl) ?_
  obtain ⟨R1, eR1, hR, hok⟩ := g_let2 hR hok
  refine g_callV (c_X0_has l G (fun k => x (k + 3)) b p1 R1 eR1) hx hb hml hown hts hK hP hD hS hA gX6_cell_X0_has rfl (n := 1) (by decide +kernel) rfl ⟨Nat.le_of_ble_eq_true rfl, Nat.le_of_ble_eq_true rfl⟩ [3] rfl (by decide) 3 rfl (ci := 0) rfl hl.1 rfl (Nat.le_of_ble_eq_true rfl) ⟨Nat.zero_le _, Nat.zero_le _⟩ dX6_cell_8 (fun H locs hP hD hS => ?_)
  have hP : va_P G.1 vwCl (List.flatten [CW G x cx, OW G (fun k => x (k + 1)) o, AW G (x 2) 9 st, BW G (fun k => x (k + 3)) b, PW G (fun k => x (k + 11)) pf, LW G (fun k => x (k + 16)) g]) H := hP
  have hD : va_D A (List.flatten [CW G x cx, OW G (fun k => x (k + 1)) o, AW G (x 2) 9 st, BW G (fun k => x (k + 3)) b, PW G (fun k => x (k + 11)) pf, LW G (fun k => x (k + 16)) g]) := hD
  refine lv_if_ne (tgt := 16) hx hb dX6_cell_11 (by decide) (fun c3 => ?_) (fun c3 => ?_)
  · rw [if_neg c3] at hR
    have hok := hok.2 c3
    refine lv_iload_n hx hb dX6_cell_16 rfl (lv_at hl 2 rfl) ?_
    by_cases c4 : p2 = 0
    · rw [if_pos c4] at hR
      have hok := hok.1 c4
      refine lv_tableIn (off := 51) (tgt := 68) hx hb dX6_cell_17 (by rw [c4]; decide) (by rw [c4]; decide) (by rw [c4]; rfl) (by decide) ?_
      refine lv_aload_n hx hb dX6_cell_68 rfl (lv_at hl 0 rfl) ?_
      refine g_get (ci := 6) (v := .ref (x 1)) (C := RX6) (T := TX6) (N := 7) hx hb hts hinX6 hown hK hP 0 rfl rfl 0 (by decide) (hts (.fieldLink RX6 10 "ChargeStages" "now" "LChargeStages$State;") (List.mem_of_getElem? (i := 1) rfl)) rfl dX6_cell_69 ?_
      refine g_get (ci := 4) (v := .ref (x 3)) (C := RX4) (T := TX4) (N := 12) hx hb hts hinX4 hown hK hP 1 rfl rfl 1 (by decide) (hts (.fieldLink RX6 50 "ChargeStages$State" "row" "LChargeStages$Battery;") (List.mem_of_getElem? (i := 2) rfl)) rfl dX6_cell_72 ?_
      refine g_get (ci := 0) (v := .ref (x 4)) (C := RX0) (T := TX0) (N := 8) hx hb hts hinX0 hown hK hP 3 rfl rfl 1 (by decide) (hts (.fieldLink RX6 79 "ChargeStages$Battery" "charge" "[I") (List.mem_of_getElem? (i := 3) rfl)) rfl dX6_cell_75 ?_
      refine lv_iload_n hx hb dX6_cell_78 rfl (lv_at hl 1 rfl) ?_
      obtain ⟨k5, hok⟩ := hok
      refine g_ld (n := 6) (f := (b 1)) (v := (b 1) ((p1).toNatClampNeg)) (k := ((p1).toNatClampNeg)) hx hb hK hP 4 rfl rfl k5 rfl dX6_cell_79 ?_
      subst hR
      exact g_ret hx hb hr hlocks hS dX6_cell_80 rfl hP
    · rw [if_neg c4] at hR
      have hok := hok.2 c4
      by_cases c6 : p2 = 1
      · rw [if_pos c6] at hR
        have hok := hok.1 c6
        refine lv_tableIn (off := 64) (tgt := 81) hx hb dX6_cell_17 (by rw [c6]; decide) (by rw [c6]; decide) (by rw [c6]; rfl) (by decide) ?_
        refine lv_aload_n hx hb dX6_cell_81 rfl (lv_at hl 0 rfl) ?_
        refine g_get (ci := 6) (v := .ref (x 1)) (C := RX6) (T := TX6) (N := 7) hx hb hts hinX6 hown hK hP 0 rfl rfl 0 (by decide) (hts (.fieldLink RX6 10 "ChargeStages" "now" "LChargeStages$State;") (List.mem_of_getElem? (i := 1) rfl)) rfl dX6_cell_82 ?_
        refine g_get (ci := 4) (v := .ref (x 3)) (C := RX4) (T := TX4) (N := 12) hx hb hts hinX4 hown hK hP 1 rfl rfl 1 (by decide) (hts (.fieldLink RX6 50 "ChargeStages$State" "row" "LChargeStages$Battery;") (List.mem_of_getElem? (i := 2) rfl)) rfl dX6_cell_85 ?_
        refine g_get (ci := 0) (v := .ref (x 4)) (C := RX0) (T := TX0) (N := 8) hx hb hts hinX0 hown hK hP 3 rfl rfl 1 (by decide) (hts (.fieldLink RX6 79 "ChargeStages$Battery" "charge" "[I") (List.mem_of_getElem? (i := 3) rfl)) rfl dX6_cell_88 ?_
        refine lv_iload_n hx hb dX6_cell_91 rfl (lv_at hl 1 rfl) ?_
        obtain ⟨k7, hok⟩ := hok
        refine g_ld (n := 6) (f := (b 1)) (v := (b 1) ((p1).toNatClampNeg)) (k := ((p1).toNatClampNeg)) hx hb hK hP 4 rfl rfl k7 rfl dX6_cell_92 ?_
        refine lv_aload_n hx hb dX6_cell_93 rfl (lv_at hl 0 rfl) ?_
        refine g_get (ci := 6) (v := .ref (x 1)) (C := RX6) (T := TX6) (N := 7) hx hb hts hinX6 hown hK hP 0 rfl rfl 0 (by decide) (hts (.fieldLink RX6 10 "ChargeStages" "now" "LChargeStages$State;") (List.mem_of_getElem? (i := 1) rfl)) rfl dX6_cell_94 ?_
        refine g_get (ci := 4) (v := .ref (x 2)) (C := RX4) (T := TX4) (N := 12) hx hb hts hinX4 hown hK hP 1 rfl rfl 0 (by decide) (hts (.fieldLink RX6 75 "ChargeStages$State" "settings" "[I") (List.mem_of_getElem? (i := 4) rfl)) rfl dX6_cell_97 ?_
        refine lv_iconst (v := 0) hx hb dX6_cell_100 (by decide) ?_
        refine g_ld (n := 9) (f := st) (v := st 0) (k := 0) hx hb hK hP 2 rfl (by decide) (by unfold vp_in; decide) rfl dX6_cell_101 ?_
        obtain ⟨k9, hok⟩ := hok
        obtain ⟨R8, eR8, hR⟩ := g_let hR
        refine g_callS (c_X6_baseVoltage l G ((b 1) ((p1).toNatClampNeg)) (st 0) R8 eR8 k9) hx hb hml hown hts hK hP hD hS hA gX6_cell_X6_baseVoltage rfl (n := 2) (by decide +kernel) rfl ⟨Nat.le_of_ble_eq_true rfl, Nat.le_of_ble_eq_true rfl⟩ [] rfl (by decide) hl.1 rfl (Nat.le_of_ble_eq_true rfl) ⟨Nat.zero_le _, Nat.zero_le _⟩ dX6_cell_102 (fun H locs hP hD hS => ?_)
        have hP : va_P G.1 vwCl (List.flatten [CW G x cx, OW G (fun k => x (k + 1)) o, AW G (x 2) 9 st, BW G (fun k => x (k + 3)) b, PW G (fun k => x (k + 11)) pf, LW G (fun k => x (k + 16)) g]) H := hP
        have hD : va_D A (List.flatten [CW G x cx, OW G (fun k => x (k + 1)) o, AW G (x 2) 9 st, BW G (fun k => x (k + 3)) b, PW G (fun k => x (k + 11)) pf, LW G (fun k => x (k + 16)) g]) := hD
        subst hR
        exact g_ret hx hb hr hlocks hS dX6_cell_105 rfl hP
      · rw [if_neg c6] at hR
        have hok := hok.2 c6
        by_cases c10 : p2 = 2
        · rw [if_pos c10] at hR
          have hok := hok.1 c10
          refine lv_tableIn (off := 89) (tgt := 106) hx hb dX6_cell_17 (by rw [c10]; decide) (by rw [c10]; decide) (by rw [c10]; rfl) (by decide) ?_
          refine lv_aload_n hx hb dX6_cell_106 rfl (lv_at hl 0 rfl) ?_
          refine g_get (ci := 6) (v := .ref (x 1)) (C := RX6) (T := TX6) (N := 7) hx hb hts hinX6 hown hK hP 0 rfl rfl 0 (by decide) (hts (.fieldLink RX6 10 "ChargeStages" "now" "LChargeStages$State;") (List.mem_of_getElem? (i := 1) rfl)) rfl dX6_cell_107 ?_
          refine g_get (ci := 4) (v := .ref (x 3)) (C := RX4) (T := TX4) (N := 12) hx hb hts hinX4 hown hK hP 1 rfl rfl 1 (by decide) (hts (.fieldLink RX6 50 "ChargeStages$State" "row" "LChargeStages$Battery;") (List.mem_of_getElem? (i := 2) rfl)) rfl dX6_cell_110 ?_
          refine g_get (ci := 0) (v := .ref (x 5)) (C := RX0) (T := TX0) (N := 8) hx hb hts hinX0 hown hK hP 3 rfl rfl 2 (by decide) (hts (.fieldLink RX6 82 "ChargeStages$Battery" "rest" "[I") (List.mem_of_getElem? (i := 5) rfl)) rfl dX6_cell_113 ?_
          refine lv_iload_n hx hb dX6_cell_116 rfl (lv_at hl 1 rfl) ?_
          obtain ⟨k11, hok⟩ := hok
          refine g_ld (n := 6) (f := (b 2)) (v := (b 2) ((p1).toNatClampNeg)) (k := ((p1).toNatClampNeg)) hx hb hK hP 5 rfl rfl k11 rfl dX6_cell_117 ?_
          subst hR
          exact g_ret hx hb hr hlocks hS dX6_cell_118 rfl hP
        · rw [if_neg c10] at hR
          have hok := hok.2 c10
          by_cases c12 : p2 = 3
          · rw [if_pos c12] at hR
            have hok := hok.1 c12
            refine lv_tableIn (off := 102) (tgt := 119) hx hb dX6_cell_17 (by rw [c12]; decide) (by rw [c12]; decide) (by rw [c12]; rfl) (by decide) ?_
            refine lv_aload_n hx hb dX6_cell_119 rfl (lv_at hl 0 rfl) ?_
            refine g_get (ci := 6) (v := .ref (x 1)) (C := RX6) (T := TX6) (N := 7) hx hb hts hinX6 hown hK hP 0 rfl rfl 0 (by decide) (hts (.fieldLink RX6 10 "ChargeStages" "now" "LChargeStages$State;") (List.mem_of_getElem? (i := 1) rfl)) rfl dX6_cell_120 ?_
            refine g_get (ci := 4) (v := .ref (x 3)) (C := RX4) (T := TX4) (N := 12) hx hb hts hinX4 hown hK hP 1 rfl rfl 1 (by decide) (hts (.fieldLink RX6 50 "ChargeStages$State" "row" "LChargeStages$Battery;") (List.mem_of_getElem? (i := 2) rfl)) rfl dX6_cell_123 ?_
            refine g_get (ci := 0) (v := .ref (x 6)) (C := RX0) (T := TX0) (N := 8) hx hb hts hinX0 hown hK hP 3 rfl rfl 3 (by decide) (hts (.fieldLink RX6 154 "ChargeStages$Battery" "cameIn" "[I") (List.mem_of_getElem? (i := 6) rfl)) rfl dX6_cell_126 ?_
            refine lv_iload_n hx hb dX6_cell_129 rfl (lv_at hl 1 rfl) ?_
            obtain ⟨k13, hok⟩ := hok
            refine g_ld (n := 6) (f := (b 3)) (v := (b 3) ((p1).toNatClampNeg)) (k := ((p1).toNatClampNeg)) hx hb hK hP 6 rfl rfl k13 rfl dX6_cell_130 ?_
            subst hR
            exact g_ret hx hb hr hlocks hS dX6_cell_131 rfl hP
          · rw [if_neg c12] at hR
            have hok := hok.2 c12
            by_cases c14 : p2 = 4
            · rw [if_pos c14] at hR
              have hok := hok.1 c14
              refine lv_tableIn (off := 115) (tgt := 132) hx hb dX6_cell_17 (by rw [c14]; decide) (by rw [c14]; decide) (by rw [c14]; rfl) (by decide) ?_
              refine lv_aload_n hx hb dX6_cell_132 rfl (lv_at hl 0 rfl) ?_
              refine g_get (ci := 6) (v := .ref (x 1)) (C := RX6) (T := TX6) (N := 7) hx hb hts hinX6 hown hK hP 0 rfl rfl 0 (by decide) (hts (.fieldLink RX6 10 "ChargeStages" "now" "LChargeStages$State;") (List.mem_of_getElem? (i := 1) rfl)) rfl dX6_cell_133 ?_
              refine g_get (ci := 4) (v := .ref (x 3)) (C := RX4) (T := TX4) (N := 12) hx hb hts hinX4 hown hK hP 1 rfl rfl 1 (by decide) (hts (.fieldLink RX6 50 "ChargeStages$State" "row" "LChargeStages$Battery;") (List.mem_of_getElem? (i := 2) rfl)) rfl dX6_cell_136 ?_
              refine g_get (ci := 0) (v := .ref (x 7)) (C := RX0) (T := TX0) (N := 8) hx hb hts hinX0 hown hK hP 3 rfl rfl 4 (by decide) (hts (.fieldLink RX6 157 "ChargeStages$Battery" "stored" "[I") (List.mem_of_getElem? (i := 7) rfl)) rfl dX6_cell_139 ?_
              refine lv_iload_n hx hb dX6_cell_142 rfl (lv_at hl 1 rfl) ?_
              obtain ⟨k15, hok⟩ := hok
              refine g_ld (n := 6) (f := (b 4)) (v := (b 4) ((p1).toNatClampNeg)) (k := ((p1).toNatClampNeg)) hx hb hK hP 7 rfl rfl k15 rfl dX6_cell_143 ?_
              subst hR
              exact g_ret hx hb hr hlocks hS dX6_cell_144 rfl hP
            · rw [if_neg c14] at hR
              have hok := hok.2 c14
              by_cases c16 : p2 = 5
              · rw [if_pos c16] at hR
                have hok := hok.1 c16
                refine lv_tableIn (off := 128) (tgt := 145) hx hb dX6_cell_17 (by rw [c16]; decide) (by rw [c16]; decide) (by rw [c16]; rfl) (by decide) ?_
                refine lv_aload_n hx hb dX6_cell_145 rfl (lv_at hl 0 rfl) ?_
                refine g_get (ci := 6) (v := .ref (x 1)) (C := RX6) (T := TX6) (N := 7) hx hb hts hinX6 hown hK hP 0 rfl rfl 0 (by decide) (hts (.fieldLink RX6 10 "ChargeStages" "now" "LChargeStages$State;") (List.mem_of_getElem? (i := 1) rfl)) rfl dX6_cell_146 ?_
                refine g_get (ci := 4) (v := .ref (x 3)) (C := RX4) (T := TX4) (N := 12) hx hb hts hinX4 hown hK hP 1 rfl rfl 1 (by decide) (hts (.fieldLink RX6 50 "ChargeStages$State" "row" "LChargeStages$Battery;") (List.mem_of_getElem? (i := 2) rfl)) rfl dX6_cell_149 ?_
                refine g_get (ci := 0) (v := .ref (x 8)) (C := RX0) (T := TX0) (N := 8) hx hb hts hinX0 hown hK hP 3 rfl rfl 5 (by decide) (hts (.fieldLink RX6 160 "ChargeStages$Battery" "spilled" "[I") (List.mem_of_getElem? (i := 8) rfl)) rfl dX6_cell_152 ?_
                refine lv_iload_n hx hb dX6_cell_155 rfl (lv_at hl 1 rfl) ?_
                obtain ⟨k17, hok⟩ := hok
                refine g_ld (n := 6) (f := (b 5)) (v := (b 5) ((p1).toNatClampNeg)) (k := ((p1).toNatClampNeg)) hx hb hK hP 8 rfl rfl k17 rfl dX6_cell_156 ?_
                subst hR
                exact g_ret hx hb hr hlocks hS dX6_cell_157 rfl hP
              · rw [if_neg c16] at hR
                have hok := hok.2 c16
                by_cases c18 : p2 = 6
                · rw [if_pos c18] at hR
                  have hok := hok.1 c18
                  refine lv_tableIn (off := 141) (tgt := 158) hx hb dX6_cell_17 (by rw [c18]; decide) (by rw [c18]; decide) (by rw [c18]; rfl) (by decide) ?_
                  refine lv_aload_n hx hb dX6_cell_158 rfl (lv_at hl 0 rfl) ?_
                  refine g_get (ci := 6) (v := .ref (x 1)) (C := RX6) (T := TX6) (N := 7) hx hb hts hinX6 hown hK hP 0 rfl rfl 0 (by decide) (hts (.fieldLink RX6 10 "ChargeStages" "now" "LChargeStages$State;") (List.mem_of_getElem? (i := 1) rfl)) rfl dX6_cell_159 ?_
                  refine g_get (ci := 4) (v := .ref (x 3)) (C := RX4) (T := TX4) (N := 12) hx hb hts hinX4 hown hK hP 1 rfl rfl 1 (by decide) (hts (.fieldLink RX6 50 "ChargeStages$State" "row" "LChargeStages$Battery;") (List.mem_of_getElem? (i := 2) rfl)) rfl dX6_cell_162 ?_
                  refine g_get (ci := 0) (v := .ref (x 9)) (C := RX0) (T := TX0) (N := 8) hx hb hts hinX0 hown hK hP 3 rfl rfl 6 (by decide) (hts (.fieldLink RX6 163 "ChargeStages$Battery" "bled" "[I") (List.mem_of_getElem? (i := 9) rfl)) rfl dX6_cell_165 ?_
                  refine lv_iload_n hx hb dX6_cell_168 rfl (lv_at hl 1 rfl) ?_
                  obtain ⟨k19, hok⟩ := hok
                  refine g_ld (n := 6) (f := (b 6)) (v := (b 6) ((p1).toNatClampNeg)) (k := ((p1).toNatClampNeg)) hx hb hK hP 9 rfl rfl k19 rfl dX6_cell_169 ?_
                  subst hR
                  exact g_ret hx hb hr hlocks hS dX6_cell_170 rfl hP
                · rw [if_neg c18] at hR
                  have hok := hok.2 c18
                  by_cases c20 : p2 = 7
                  · rw [if_pos c20] at hR
                    have hok := hok.1 c20
                    refine lv_tableIn (off := 154) (tgt := 171) hx hb dX6_cell_17 (by rw [c20]; decide) (by rw [c20]; decide) (by rw [c20]; rfl) (by decide) ?_
                    refine lv_aload_n hx hb dX6_cell_171 rfl (lv_at hl 0 rfl) ?_
                    refine g_get (ci := 6) (v := .ref (x 1)) (C := RX6) (T := TX6) (N := 7) hx hb hts hinX6 hown hK hP 0 rfl rfl 0 (by decide) (hts (.fieldLink RX6 10 "ChargeStages" "now" "LChargeStages$State;") (List.mem_of_getElem? (i := 1) rfl)) rfl dX6_cell_172 ?_
                    refine g_get (ci := 4) (v := .ref (x 3)) (C := RX4) (T := TX4) (N := 12) hx hb hts hinX4 hown hK hP 1 rfl rfl 1 (by decide) (hts (.fieldLink RX6 50 "ChargeStages$State" "row" "LChargeStages$Battery;") (List.mem_of_getElem? (i := 2) rfl)) rfl dX6_cell_175 ?_
                    refine g_get (ci := 0) (v := .ref (x 10)) (C := RX0) (T := TX0) (N := 8) hx hb hts hinX0 hown hK hP 3 rfl rfl 7 (by decide) (hts (.fieldLink RX6 166 "ChargeStages$Battery" "used" "[I") (List.mem_of_getElem? (i := 10) rfl)) rfl dX6_cell_178 ?_
                    refine lv_iload_n hx hb dX6_cell_181 rfl (lv_at hl 1 rfl) ?_
                    obtain ⟨k21, hok⟩ := hok
                    refine g_ld (n := 6) (f := (b 7)) (v := (b 7) ((p1).toNatClampNeg)) (k := ((p1).toNatClampNeg)) hx hb hK hP 10 rfl rfl k21 rfl dX6_cell_182 ?_
                    subst hR
                    exact g_ret hx hb hr hlocks hS dX6_cell_183 rfl hP
                  · rw [if_neg c20] at hR
                    have hok := hok.2 c20
                    by_cases c22 : p2 = 8
                    · rw [if_pos c22] at hR
                      have hok := hok.1 c22
                      refine lv_tableIn (off := 167) (tgt := 184) hx hb dX6_cell_17 (by rw [c22]; decide) (by rw [c22]; decide) (by rw [c22]; rfl) (by decide) ?_
                      refine lv_aload_n hx hb dX6_cell_184 rfl (lv_at hl 0 rfl) ?_
                      refine g_get (ci := 6) (v := .ref (x 1)) (C := RX6) (T := TX6) (N := 7) hx hb hts hinX6 hown hK hP 0 rfl rfl 0 (by decide) (hts (.fieldLink RX6 10 "ChargeStages" "now" "LChargeStages$State;") (List.mem_of_getElem? (i := 1) rfl)) rfl dX6_cell_185 ?_
                      refine g_get (ci := 4) (v := .ref (x 3)) (C := RX4) (T := TX4) (N := 12) hx hb hts hinX4 hown hK hP 1 rfl rfl 1 (by decide) (hts (.fieldLink RX6 50 "ChargeStages$State" "row" "LChargeStages$Battery;") (List.mem_of_getElem? (i := 2) rfl)) rfl dX6_cell_188 ?_
                      refine g_get (ci := 0) (v := .ref (x 6)) (C := RX0) (T := TX0) (N := 8) hx hb hts hinX0 hown hK hP 3 rfl rfl 3 (by decide) (hts (.fieldLink RX6 154 "ChargeStages$Battery" "cameIn" "[I") (List.mem_of_getElem? (i := 6) rfl)) rfl dX6_cell_191 ?_
                      refine lv_iload_n hx hb dX6_cell_194 rfl (lv_at hl 1 rfl) ?_
                      obtain ⟨k23, hok⟩ := hok
                      refine g_ld (n := 6) (f := (b 3)) (v := (b 3) ((p1).toNatClampNeg)) (k := ((p1).toNatClampNeg)) hx hb hK hP 6 rfl rfl k23 rfl dX6_cell_195 ?_
                      refine lv_aload_n hx hb dX6_cell_196 rfl (lv_at hl 0 rfl) ?_
                      refine g_get (ci := 6) (v := .ref (x 1)) (C := RX6) (T := TX6) (N := 7) hx hb hts hinX6 hown hK hP 0 rfl rfl 0 (by decide) (hts (.fieldLink RX6 10 "ChargeStages" "now" "LChargeStages$State;") (List.mem_of_getElem? (i := 1) rfl)) rfl dX6_cell_197 ?_
                      refine g_get (ci := 4) (v := .ref (x 3)) (C := RX4) (T := TX4) (N := 12) hx hb hts hinX4 hown hK hP 1 rfl rfl 1 (by decide) (hts (.fieldLink RX6 50 "ChargeStages$State" "row" "LChargeStages$Battery;") (List.mem_of_getElem? (i := 2) rfl)) rfl dX6_cell_200 ?_
                      refine g_get (ci := 0) (v := .ref (x 7)) (C := RX0) (T := TX0) (N := 8) hx hb hts hinX0 hown hK hP 3 rfl rfl 4 (by decide) (hts (.fieldLink RX6 157 "ChargeStages$Battery" "stored" "[I") (List.mem_of_getElem? (i := 7) rfl)) rfl dX6_cell_203 ?_
                      refine lv_iload_n hx hb dX6_cell_206 rfl (lv_at hl 1 rfl) ?_
                      obtain ⟨k24, hok⟩ := hok
                      refine g_ld (n := 6) (f := (b 4)) (v := (b 4) ((p1).toNatClampNeg)) (k := ((p1).toNatClampNeg)) hx hb hK hP 7 rfl rfl k24 rfl dX6_cell_207 ?_
                      refine lv_isub hx hb dX6_cell_208 ?_
                      subst hR
                      exact g_ret hx hb hr hlocks hS dX6_cell_209 rfl hP
                    · rw [if_neg c22] at hR
                      have hok := hok.2 c22
                      refine lv_tableOut (tgt := 210) hx hb dX6_cell_17 (g_out 9 (lt_s (lt_s (lt_s (lt_s (lt_s (lt_s (lt_s (lt_s (lt_s lt_0 c4) c6) c10) c12) c14) c16) c18) c20) c22)) (by decide) ?_
                      refine lv_bipush (v := (-2)) hx hb dX6_cell_210 (by decide) ?_
                      subst hR
                      exact g_ret hx hb hr hlocks hS dX6_cell_212 rfl hP
  · rw [if_pos c3] at hR
    have hok := hok.1 c3
    refine lv_iconst (v := (-1)) hx hb dX6_cell_14 (by decide) ?_
    subst hR
    exact g_ret hx hb hr hlocks hS dX6_cell_15 rfl hP
def f_X6_setting (st : (Nat → Int32)) (p1 : Int32) : Int32 := (gL (f_X6_isSetting p1) (fun (R1 : Int32) => (if R1 = 0 then (-1) else ((st ((p1).toNatClampNeg)) + 1000))))
def ok_X6_setting (p1 : Int32) : Prop := (gL (f_X6_isSetting p1) (fun (R1 : Int32) => ((R1 = 0 → True) ∧ (¬ R1 = 0 → (vp_in p1 9) ∧ True))))
set_option maxHeartbeats 4000000 in
set_option maxRecDepth 100000 in
theorem c_X6_setting (l : Launch) (G : gG) (x : Nat → Nat) (cx : (Nat → Int32)) (o : (Nat → Int32)) (st : (Nat → Int32)) (b : (Nat → Nat → Int32)) (pf : (Nat → Nat → Int32)) (g : (Nat → Nat → Int32)) (p1 : Int32) (R : Int32) (hR : R = f_X6_setting st p1) (hok : ok_X6_setting p1) : CT l G yX6_setting wsX6_setting 1 20 [.ref (x 0), .int p1] [CW G x cx, OW G (fun k => x (k + 1)) o, AW G (x 2) 9 st, BW G (fun k => x (k + 3)) b, PW G (fun k => x (k + 11)) pf, LW G (fun k => x (k + 16)) g] (some (.int R)) [CW G x cx, OW G (fun k => x (k + 1)) o, AW G (x 2) 9 st, BW G (fun k => x (k + 3)) b, PW G (fun k => x (k + 11)) pf, LW G (fun k => x (k + 16)) g] := by
  unfold f_X6_setting at hR
  unfold ok_X6_setting at hok
  refine CT.of (cc := cX6_setting) (maxL := 2) (ret := (some .int)) (plainFor_of_name (by decide +kernel)) rfl rfl (Nat.le_of_ble_eq_true rfl) ?_
  intro p e s m below meth c A ls hx hb hml hr hts hown hlocks hK hP hD hA hS hl
  have hown : s.vm.findClass RX6 = some m.cls := hown
  have hl : lv_has ls 2 [(0, .ref (x 0)), (1, .int p1)] := hl
  have hinX4 : ∀ w ∈ wsX40, w ∈ wsX6_setting := fun w h => List.mem_cons_of_mem _ (List.mem_append_right _ h)
  have hinX6 : ∀ w ∈ wsX60, w ∈ wsX6_setting := fun w h => List.mem_cons_of_mem _ (List.mem_append_left _ (List.mem_append_right _ h))
  refine lv_iload_n hx hb dX6_setting_0 rfl (lv_at hl 1 rfl) ?_
  obtain ⟨R1, eR1, hR, hok⟩ := g_let2 hR hok
  refine g_callS (c_X6_isSetting l G p1 R1 eR1) hx hb hml hown hts hK hP hD hS hA gX6_setting_X6_isSetting rfl (n := 1) (by decide +kernel) rfl ⟨Nat.le_of_ble_eq_true rfl, Nat.le_of_ble_eq_true rfl⟩ [] rfl (by decide) hl.1 rfl (Nat.le_of_ble_eq_true rfl) ⟨Nat.zero_le _, Nat.zero_le _⟩ dX6_setting_1 (fun H locs hP hD hS => ?_)
  have hP : va_P G.1 vwCl (List.flatten [CW G x cx, OW G (fun k => x (k + 1)) o, AW G (x 2) 9 st, BW G (fun k => x (k + 3)) b, PW G (fun k => x (k + 11)) pf, LW G (fun k => x (k + 16)) g]) H := hP
  have hD : va_D A (List.flatten [CW G x cx, OW G (fun k => x (k + 1)) o, AW G (x 2) 9 st, BW G (fun k => x (k + 3)) b, PW G (fun k => x (k + 11)) pf, LW G (fun k => x (k + 16)) g]) := hD
  refine lv_if_eq (tgt := 23) hx hb dX6_setting_4 (by decide) (fun c3 => ?_) (fun c3 => ?_)
  · rw [if_pos c3] at hR
    have hok := hok.1 c3
    refine lv_iconst (v := (-1)) hx hb dX6_setting_23 (by decide) ?_
    subst hR
    exact g_ret hx hb hr hlocks hS dX6_setting_24 rfl hP
  · rw [if_neg c3] at hR
    have hok := hok.2 c3
    refine lv_aload_n hx hb dX6_setting_7 rfl (lv_at hl 0 rfl) ?_
    refine g_get (ci := 6) (v := .ref (x 1)) (C := RX6) (T := TX6) (N := 7) hx hb hts hinX6 hown hK hP 0 rfl rfl 0 (by decide) (hts (.fieldLink RX6 10 "ChargeStages" "now" "LChargeStages$State;") (List.mem_of_getElem? (i := 1) rfl)) rfl dX6_setting_8 ?_
    refine g_get (ci := 4) (v := .ref (x 2)) (C := RX4) (T := TX4) (N := 12) hx hb hts hinX4 hown hK hP 1 rfl rfl 0 (by decide) (hts (.fieldLink RX6 75 "ChargeStages$State" "settings" "[I") (List.mem_of_getElem? (i := 2) rfl)) rfl dX6_setting_11 ?_
    refine lv_iload_n hx hb dX6_setting_14 rfl (lv_at hl 1 rfl) ?_
    obtain ⟨k4, hok⟩ := hok
    refine g_ld (n := 9) (f := st) (v := st ((p1).toNatClampNeg)) (k := ((p1).toNatClampNeg)) hx hb hK hP 2 rfl rfl k4 rfl dX6_setting_15 ?_
    refine lv_sipush (v := 1000) hx hb dX6_setting_16 (by decide) ?_
    refine lv_iadd hx hb dX6_setting_19 ?_
    refine lv_goto (tgt := 24) hx hb dX6_setting_20 (by decide) ?_
    subst hR
    exact g_ret hx hb hr hlocks hS dX6_setting_24 rfl hP
def f_X6_stage (st : (Nat → Int32)) (pf : (Nat → Nat → Int32)) (p1 : Int32) (p2 : Int32) : Int32 := (gL (f_X3_has pf p1) (fun (R1 : Int32) => (if R1 = 0 then (-1) else (if p2 = 0 then (pf 1) ((p1).toNatClampNeg) else (if p2 = 1 then (pf 2) ((p1).toNatClampNeg) else (if p2 = 2 then (pf 3) ((p1).toNatClampNeg) else (if p2 = 3 then (pf 4) ((p1).toNatClampNeg) else (if p2 = 4 then (if ((pf 1) ((p1).toNatClampNeg)) = 2 then (-5) else (gL (f_X4_limitOfNow st pf p1) (fun (R15 : Int32) => R15))) else (-2)))))))))
def ok_X6_stage (pf : (Nat → Nat → Int32)) (p1 : Int32) (p2 : Int32) : Prop := (gL (f_X3_has pf p1) (fun (R1 : Int32) => ((R1 = 0 → True) ∧ (¬ R1 = 0 → ((p2 = 0 → (vp_in p1 5) ∧ True) ∧ (¬ p2 = 0 → ((p2 = 1 → (vp_in p1 5) ∧ True) ∧ (¬ p2 = 1 → ((p2 = 2 → (vp_in p1 5) ∧ True) ∧ (¬ p2 = 2 → ((p2 = 3 → (vp_in p1 5) ∧ True) ∧ (¬ p2 = 3 → ((p2 = 4 → (vp_in p1 5) ∧ ((((pf 1) ((p1).toNatClampNeg)) = 2 → True) ∧ (¬ ((pf 1) ((p1).toNatClampNeg)) = 2 → (ok_X4_limitOfNow pf p1) ∧ True))) ∧ (¬ p2 = 4 → True))))))))))))))
set_option maxHeartbeats 4000000 in
set_option maxRecDepth 100000 in
theorem c_X6_stage (l : Launch) (G : gG) (x : Nat → Nat) (cx : (Nat → Int32)) (o : (Nat → Int32)) (st : (Nat → Int32)) (b : (Nat → Nat → Int32)) (pf : (Nat → Nat → Int32)) (g : (Nat → Nat → Int32)) (p1 : Int32) (p2 : Int32) (R : Int32) (hR : R = f_X6_stage st pf p1 p2) (hok : ok_X6_stage pf p1 p2) : CT l G yX6_stage wsX6_stage 2 42 [.ref (x 0), .int p1, .int p2] [CW G x cx, OW G (fun k => x (k + 1)) o, AW G (x 2) 9 st, BW G (fun k => x (k + 3)) b, PW G (fun k => x (k + 11)) pf, LW G (fun k => x (k + 16)) g] (some (.int R)) [CW G x cx, OW G (fun k => x (k + 1)) o, AW G (x 2) 9 st, BW G (fun k => x (k + 3)) b, PW G (fun k => x (k + 11)) pf, LW G (fun k => x (k + 16)) g] := by
  unfold f_X6_stage at hR
  unfold ok_X6_stage at hok
  refine CT.of (cc := cX6_stage) (maxL := 4) (ret := (some .int)) (plainFor_of_name (by decide +kernel)) rfl rfl (Nat.le_of_ble_eq_true rfl) ?_
  intro p e s m below meth c A ls hx hb hml hr hts hown hlocks hK hP hD hA hS hl
  have hown : s.vm.findClass RX6 = some m.cls := hown
  have hl : lv_has ls 4 [(0, .ref (x 0)), (1, .int p1), (2, .int p2)] := hl
  have hinX3 : ∀ w ∈ wsX30, w ∈ wsX6_stage := fun w h => List.mem_cons_of_mem _ (List.mem_append_right _ h)
  have hinX4 : ∀ w ∈ wsX40, w ∈ wsX6_stage := fun w h => List.mem_cons_of_mem _ (List.mem_append_left _ (List.mem_append_right _ h))
  have hinX6 : ∀ w ∈ wsX60, w ∈ wsX6_stage := fun w h => List.mem_cons_of_mem _ (List.mem_append_left _ (List.mem_append_left _ (List.mem_append_right _ h)))
  refine lv_aload_n hx hb dX6_stage_0 rfl (lv_at hl 0 rfl) ?_
  refine g_get (ci := 6) (v := .ref (x 1)) (C := RX6) (T := TX6) (N := 7) hx hb hts hinX6 hown hK hP 0 rfl rfl 0 (by decide) (hts (.fieldLink RX6 10 "ChargeStages" "now" "LChargeStages$State;") (List.mem_of_getElem? (i := 1) rfl)) rfl dX6_stage_1 ?_
  refine g_get (ci := 4) (v := .ref (x 11)) (C := RX4) (T := TX4) (N := 12) hx hb hts hinX4 hown hK hP 1 rfl rfl 2 (by decide) (hts (.fieldLink RX6 116 "ChargeStages$State" "profile" "LChargeStages$Profile;") (List.mem_of_getElem? (i := 2) rfl)) rfl dX6_stage_4 ?_
  refine lv_astore_n (lv' := [(3, .ref (x 11)), (0, .ref (x 0)), (1, .int p1), (2, .int p2)]) hx hb dX6_stage_7 rfl hl (by decide) rfl (fun ls hl => ?_)
  refine lv_aload_n hx hb dX6_stage_8 rfl (lv_at hl 0 rfl) ?_
  refine lv_iload_n hx hb dX6_stage_9 rfl (lv_at hl 2 rfl) ?_
  obtain ⟨R1, eR1, hR, hok⟩ := g_let2 hR hok
  refine g_callV (c_X3_has l G (fun k => x (k + 11)) pf p1 R1 eR1) hx hb hml hown hts hK hP hD hS hA gX6_stage_X3_has rfl (n := 1) (by decide +kernel) rfl ⟨Nat.le_of_ble_eq_true rfl, Nat.le_of_ble_eq_true rfl⟩ [4] rfl (by decide) 11 rfl (ci := 3) rfl hl.1 rfl (Nat.le_of_ble_eq_true rfl) ⟨Nat.zero_le _, Nat.zero_le _⟩ dX6_stage_10 (fun H locs hP hD hS => ?_)
  have hP : va_P G.1 vwCl (List.flatten [CW G x cx, OW G (fun k => x (k + 1)) o, AW G (x 2) 9 st, BW G (fun k => x (k + 3)) b, PW G (fun k => x (k + 11)) pf, LW G (fun k => x (k + 16)) g]) H := hP
  have hD : va_D A (List.flatten [CW G x cx, OW G (fun k => x (k + 1)) o, AW G (x 2) 9 st, BW G (fun k => x (k + 3)) b, PW G (fun k => x (k + 11)) pf, LW G (fun k => x (k + 16)) g]) := hD
  refine lv_if_ne (tgt := 18) hx hb dX6_stage_13 (by decide) (fun c3 => ?_) (fun c3 => ?_)
  · rw [if_neg c3] at hR
    have hok := hok.2 c3
    refine lv_iload_n hx hb dX6_stage_18 rfl (lv_at hl 3 rfl) ?_
    by_cases c4 : p2 = 0
    · rw [if_pos c4] at hR
      have hok := hok.1 c4
      refine lv_tableIn (off := 33) (tgt := 52) hx hb dX6_stage_19 (by rw [c4]; decide) (by rw [c4]; decide) (by rw [c4]; rfl) (by decide) ?_
      refine lv_aload_n hx hb dX6_stage_52 rfl (lv_at hl 0 rfl) ?_
      refine g_get (ci := 3) (v := .ref (x 12)) (C := RX3) (T := TX3) (N := 5) hx hb hts hinX3 hown hK hP 11 rfl rfl 1 (by decide) (hts (.fieldLink RX6 170 "ChargeStages$Profile" "kind" "[I") (List.mem_of_getElem? (i := 3) rfl)) rfl dX6_stage_53 ?_
      refine lv_iload_n hx hb dX6_stage_56 rfl (lv_at hl 2 rfl) ?_
      obtain ⟨k5, hok⟩ := hok
      refine g_ld (n := 5) (f := (pf 1)) (v := (pf 1) ((p1).toNatClampNeg)) (k := ((p1).toNatClampNeg)) hx hb hK hP 12 rfl rfl k5 rfl dX6_stage_57 ?_
      subst hR
      exact g_ret hx hb hr hlocks hS dX6_stage_58 rfl hP
    · rw [if_neg c4] at hR
      have hok := hok.2 c4
      by_cases c6 : p2 = 1
      · rw [if_pos c6] at hR
        have hok := hok.1 c6
        refine lv_tableIn (off := 40) (tgt := 59) hx hb dX6_stage_19 (by rw [c6]; decide) (by rw [c6]; decide) (by rw [c6]; rfl) (by decide) ?_
        refine lv_aload_n hx hb dX6_stage_59 rfl (lv_at hl 0 rfl) ?_
        refine g_get (ci := 3) (v := .ref (x 13)) (C := RX3) (T := TX3) (N := 5) hx hb hts hinX3 hown hK hP 11 rfl rfl 2 (by decide) (hts (.fieldLink RX6 173 "ChargeStages$Profile" "first" "[I") (List.mem_of_getElem? (i := 4) rfl)) rfl dX6_stage_60 ?_
        refine lv_iload_n hx hb dX6_stage_63 rfl (lv_at hl 2 rfl) ?_
        obtain ⟨k7, hok⟩ := hok
        refine g_ld (n := 5) (f := (pf 2)) (v := (pf 2) ((p1).toNatClampNeg)) (k := ((p1).toNatClampNeg)) hx hb hK hP 13 rfl rfl k7 rfl dX6_stage_64 ?_
        subst hR
        exact g_ret hx hb hr hlocks hS dX6_stage_65 rfl hP
      · rw [if_neg c6] at hR
        have hok := hok.2 c6
        by_cases c8 : p2 = 2
        · rw [if_pos c8] at hR
          have hok := hok.1 c8
          refine lv_tableIn (off := 47) (tgt := 66) hx hb dX6_stage_19 (by rw [c8]; decide) (by rw [c8]; decide) (by rw [c8]; rfl) (by decide) ?_
          refine lv_aload_n hx hb dX6_stage_66 rfl (lv_at hl 0 rfl) ?_
          refine g_get (ci := 3) (v := .ref (x 14)) (C := RX3) (T := TX3) (N := 5) hx hb hts hinX3 hown hK hP 11 rfl rfl 3 (by decide) (hts (.fieldLink RX6 176 "ChargeStages$Profile" "second" "[I") (List.mem_of_getElem? (i := 5) rfl)) rfl dX6_stage_67 ?_
          refine lv_iload_n hx hb dX6_stage_70 rfl (lv_at hl 2 rfl) ?_
          obtain ⟨k9, hok⟩ := hok
          refine g_ld (n := 5) (f := (pf 3)) (v := (pf 3) ((p1).toNatClampNeg)) (k := ((p1).toNatClampNeg)) hx hb hK hP 14 rfl rfl k9 rfl dX6_stage_71 ?_
          subst hR
          exact g_ret hx hb hr hlocks hS dX6_stage_72 rfl hP
        · rw [if_neg c8] at hR
          have hok := hok.2 c8
          by_cases c10 : p2 = 3
          · rw [if_pos c10] at hR
            have hok := hok.1 c10
            refine lv_tableIn (off := 54) (tgt := 73) hx hb dX6_stage_19 (by rw [c10]; decide) (by rw [c10]; decide) (by rw [c10]; rfl) (by decide) ?_
            refine lv_aload_n hx hb dX6_stage_73 rfl (lv_at hl 0 rfl) ?_
            refine g_get (ci := 3) (v := .ref (x 15)) (C := RX3) (T := TX3) (N := 5) hx hb hts hinX3 hown hK hP 11 rfl rfl 4 (by decide) (hts (.fieldLink RX6 179 "ChargeStages$Profile" "timer" "[I") (List.mem_of_getElem? (i := 6) rfl)) rfl dX6_stage_74 ?_
            refine lv_iload_n hx hb dX6_stage_77 rfl (lv_at hl 2 rfl) ?_
            obtain ⟨k11, hok⟩ := hok
            refine g_ld (n := 5) (f := (pf 4)) (v := (pf 4) ((p1).toNatClampNeg)) (k := ((p1).toNatClampNeg)) hx hb hK hP 15 rfl rfl k11 rfl dX6_stage_78 ?_
            subst hR
            exact g_ret hx hb hr hlocks hS dX6_stage_79 rfl hP
          · rw [if_neg c10] at hR
            have hok := hok.2 c10
            by_cases c12 : p2 = 4
            · rw [if_pos c12] at hR
              have hok := hok.1 c12
              refine lv_tableIn (off := 61) (tgt := 80) hx hb dX6_stage_19 (by rw [c12]; decide) (by rw [c12]; decide) (by rw [c12]; rfl) (by decide) ?_
              refine lv_aload_n hx hb dX6_stage_80 rfl (lv_at hl 0 rfl) ?_
              refine g_get (ci := 3) (v := .ref (x 12)) (C := RX3) (T := TX3) (N := 5) hx hb hts hinX3 hown hK hP 11 rfl rfl 1 (by decide) (hts (.fieldLink RX6 170 "ChargeStages$Profile" "kind" "[I") (List.mem_of_getElem? (i := 3) rfl)) rfl dX6_stage_81 ?_
              refine lv_iload_n hx hb dX6_stage_84 rfl (lv_at hl 2 rfl) ?_
              obtain ⟨k13, hok⟩ := hok
              refine g_ld (n := 5) (f := (pf 1)) (v := (pf 1) ((p1).toNatClampNeg)) (k := ((p1).toNatClampNeg)) hx hb hK hP 12 rfl rfl k13 rfl dX6_stage_85 ?_
              refine lv_iconst (v := 2) hx hb dX6_stage_86 (by decide) ?_
              refine lv_icmp_ne (tgt := 95) hx hb dX6_stage_87 (by decide) (fun c14 => ?_) (fun c14 => ?_)
              · rw [if_neg c14] at hR
                have hok := hok.2 c14
                refine lv_aload_n hx hb dX6_stage_95 rfl (lv_at hl 1 rfl) ?_
                refine g_get (ci := 6) (v := .ref (x 1)) (C := RX6) (T := TX6) (N := 7) hx hb hts hinX6 hown hK hP 0 rfl rfl 0 (by decide) (hts (.fieldLink RX6 10 "ChargeStages" "now" "LChargeStages$State;") (List.mem_of_getElem? (i := 1) rfl)) rfl dX6_stage_96 ?_
                refine lv_iload_n hx hb dX6_stage_99 rfl (lv_at hl 2 rfl) ?_
                obtain ⟨k16, hok⟩ := hok
                obtain ⟨R15, eR15, hR⟩ := g_let hR
                refine g_callV (c_X4_limitOfNow l G (fun k => x (k + 1)) o st pf p1 R15 eR15 k16) hx hb hml hown hts hK hP hD hS hA gX6_stage_X4_limitOfNow rfl (n := 1) (by decide +kernel) rfl ⟨Nat.le_of_ble_eq_true rfl, Nat.le_of_ble_eq_true rfl⟩ [1, 2, 4] rfl (by decide) 1 rfl (ci := 4) rfl hl.1 rfl (Nat.le_of_ble_eq_true rfl) ⟨Nat.zero_le _, Nat.zero_le _⟩ dX6_stage_100 (fun H locs hP hD hS => ?_)
                have hP : va_P G.1 vwCl (List.flatten [CW G x cx, OW G (fun k => x (k + 1)) o, AW G (x 2) 9 st, BW G (fun k => x (k + 3)) b, PW G (fun k => x (k + 11)) pf, LW G (fun k => x (k + 16)) g]) H := hP
                have hD : va_D A (List.flatten [CW G x cx, OW G (fun k => x (k + 1)) o, AW G (x 2) 9 st, BW G (fun k => x (k + 3)) b, PW G (fun k => x (k + 11)) pf, LW G (fun k => x (k + 16)) g]) := hD
                subst hR
                exact g_ret hx hb hr hlocks hS dX6_stage_103 rfl hP
              · rw [if_pos c14] at hR
                have hok := hok.1 c14
                refine lv_bipush (v := (-5)) hx hb dX6_stage_90 (by decide) ?_
                refine lv_goto (tgt := 103) hx hb dX6_stage_92 (by decide) ?_
                subst hR
                exact g_ret hx hb hr hlocks hS dX6_stage_103 rfl hP
            · rw [if_neg c12] at hR
              have hok := hok.2 c12
              refine lv_tableOut (tgt := 104) hx hb dX6_stage_19 (g_out 5 (lt_s (lt_s (lt_s (lt_s (lt_s lt_0 c4) c6) c8) c10) c12)) (by decide) ?_
              refine lv_bipush (v := (-2)) hx hb dX6_stage_104 (by decide) ?_
              subst hR
              exact g_ret hx hb hr hlocks hS dX6_stage_106 rfl hP
  · rw [if_pos c3] at hR
    have hok := hok.1 c3
    refine lv_iconst (v := (-1)) hx hb dX6_stage_16 (by decide) ?_
    subst hR
    exact g_ret hx hb hr hlocks hS dX6_stage_17 rfl hP
def f_X6_voltage (st : (Nat → Int32)) (b : (Nat → Nat → Int32)) (p1 : Int32) : Int32 := (if p1 < 0 then (-2) else (if p1 ≤ 2000 then (gL (f_X4_greatestVoltage st b p1) (fun (R3 : Int32) => R3)) else (-2)))
def ok_X6_voltage (st : (Nat → Int32)) (b : (Nat → Nat → Int32)) (p1 : Int32) : Prop := ((p1 < 0 → True) ∧ (¬ p1 < 0 → ((p1 ≤ 2000 → (ok_X4_greatestVoltage st b) ∧ True) ∧ (¬ p1 ≤ 2000 → True))))
set_option maxHeartbeats 4000000 in
set_option maxRecDepth 100000 in
theorem c_X6_voltage (l : Launch) (G : gG) (x : Nat → Nat) (cx : (Nat → Int32)) (o : (Nat → Int32)) (st : (Nat → Int32)) (b : (Nat → Nat → Int32)) (pf : (Nat → Nat → Int32)) (g : (Nat → Nat → Int32)) (p1 : Int32) (R : Int32) (hR : R = f_X6_voltage st b p1) (hok : ok_X6_voltage st b p1) : CT l G yX6_voltage wsX6_voltage 3 56 [.ref (x 0), .int p1] [CW G x cx, OW G (fun k => x (k + 1)) o, AW G (x 2) 9 st, BW G (fun k => x (k + 3)) b, PW G (fun k => x (k + 11)) pf, LW G (fun k => x (k + 16)) g] (some (.int R)) [CW G x cx, OW G (fun k => x (k + 1)) o, AW G (x 2) 9 st, BW G (fun k => x (k + 3)) b, PW G (fun k => x (k + 11)) pf, LW G (fun k => x (k + 16)) g] := by
  unfold f_X6_voltage at hR
  unfold ok_X6_voltage at hok
  refine CT.of (cc := cX6_voltage) (maxL := 2) (ret := (some .int)) (plainFor_of_name (by decide +kernel)) rfl rfl (Nat.le_of_ble_eq_true rfl) ?_
  intro p e s m below meth c A ls hx hb hml hr hts hown hlocks hK hP hD hA hS hl
  have hown : s.vm.findClass RX6 = some m.cls := hown
  have hl : lv_has ls 2 [(0, .ref (x 0)), (1, .int p1)] := hl
  have hinX6 : ∀ w ∈ wsX60, w ∈ wsX6_voltage := fun w h => List.mem_cons_of_mem _ (List.mem_append_left _ (List.mem_append_left _ (List.mem_append_right _ h)))
  refine lv_iload_n hx hb dX6_voltage_0 rfl (lv_at hl 1 rfl) ?_
  refine lv_if_lt (tgt := 11) hx hb dX6_voltage_1 (by decide) (fun c1 => ?_) (fun c1 => ?_)
  · rw [if_pos c1] at hR
    have hok := hok.1 c1
    refine lv_bipush (v := (-2)) hx hb dX6_voltage_11 (by decide) ?_
    refine lv_goto (tgt := 24) hx hb dX6_voltage_13 (by decide) ?_
    subst hR
    exact g_ret hx hb hr hlocks hS dX6_voltage_24 rfl hP
  · rw [if_neg c1] at hR
    have hok := hok.2 c1
    refine lv_iload_n hx hb dX6_voltage_4 rfl (lv_at hl 1 rfl) ?_
    refine lv_sipush (v := 2000) hx hb dX6_voltage_5 (by decide) ?_
    refine lv_icmp_le (tgt := 16) hx hb dX6_voltage_8 (by decide) (fun c2 => ?_) (fun c2 => ?_)
    · rw [if_pos c2] at hR
      have hok := hok.1 c2
      refine lv_aload_n hx hb dX6_voltage_16 rfl (lv_at hl 0 rfl) ?_
      refine g_get (ci := 6) (v := .ref (x 1)) (C := RX6) (T := TX6) (N := 7) hx hb hts hinX6 hown hK hP 0 rfl rfl 0 (by decide) (hts (.fieldLink RX6 10 "ChargeStages" "now" "LChargeStages$State;") (List.mem_of_getElem? (i := 1) rfl)) rfl dX6_voltage_17 ?_
      refine lv_iload_n hx hb dX6_voltage_20 rfl (lv_at hl 1 rfl) ?_
      obtain ⟨k4, hok⟩ := hok
      obtain ⟨R3, eR3, hR⟩ := g_let hR
      refine g_callV (c_X4_greatestVoltage l G (fun k => x (k + 1)) o st b p1 R3 eR3 k4) hx hb hml hown hts hK hP hD hS hA gX6_voltage_X4_greatestVoltage rfl (n := 1) (by decide +kernel) rfl ⟨Nat.le_of_ble_eq_true rfl, Nat.le_of_ble_eq_true rfl⟩ [1, 2, 3] rfl (by decide) 1 rfl (ci := 4) rfl hl.1 rfl (Nat.le_of_ble_eq_true rfl) ⟨Nat.zero_le _, Nat.zero_le _⟩ dX6_voltage_21 (fun H locs hP hD hS => ?_)
      have hP : va_P G.1 vwCl (List.flatten [CW G x cx, OW G (fun k => x (k + 1)) o, AW G (x 2) 9 st, BW G (fun k => x (k + 3)) b, PW G (fun k => x (k + 11)) pf, LW G (fun k => x (k + 16)) g]) H := hP
      have hD : va_D A (List.flatten [CW G x cx, OW G (fun k => x (k + 1)) o, AW G (x 2) 9 st, BW G (fun k => x (k + 3)) b, PW G (fun k => x (k + 11)) pf, LW G (fun k => x (k + 16)) g]) := hD
      subst hR
      exact g_ret hx hb hr hlocks hS dX6_voltage_24 rfl hP
    · rw [if_neg c2] at hR
      have hok := hok.2 c2
      refine lv_bipush (v := (-2)) hx hb dX6_voltage_11 (by decide) ?_
      refine lv_goto (tgt := 24) hx hb dX6_voltage_13 (by decide) ?_
      subst hR
      exact g_ret hx hb hr hlocks hS dX6_voltage_24 rfl hP
def f_X6_current (o : (Nat → Int32)) (st : (Nat → Int32)) (b : (Nat → Nat → Int32)) (pf : (Nat → Nat → Int32)) : Int32 := (if (o 0) = 1 then (gL (f_X4_isPaused o st) (fun (R2 : Int32) => (if R2 = 0 then (gL (f_X4_currentOfStage o st b pf) (fun (R5 : Int32) => (gmax 0 R5))) else 0))) else 0)
def ok_X6_current (o : (Nat → Int32)) (st : (Nat → Int32)) (b : (Nat → Nat → Int32)) (pf : (Nat → Nat → Int32)) : Prop := (((o 0) = 1 → (gL (f_X4_isPaused o st) (fun (R2 : Int32) => ((R2 = 0 → (ok_X4_currentOfStage o st b pf) ∧ True) ∧ (¬ R2 = 0 → True))))) ∧ (¬ (o 0) = 1 → True))
set_option maxHeartbeats 4000000 in
set_option maxRecDepth 100000 in
theorem c_X6_current (l : Launch) (G : gG) (x : Nat → Nat) (cx : (Nat → Int32)) (o : (Nat → Int32)) (st : (Nat → Int32)) (b : (Nat → Nat → Int32)) (pf : (Nat → Nat → Int32)) (g : (Nat → Nat → Int32)) (R : Int32) (hR : R = f_X6_current o st b pf) (hok : ok_X6_current o st b pf) : CT l G yX6_current wsX6_current 4 77 [.ref (x 0)] [CW G x cx, OW G (fun k => x (k + 1)) o, AW G (x 2) 9 st, BW G (fun k => x (k + 3)) b, PW G (fun k => x (k + 11)) pf, LW G (fun k => x (k + 16)) g] (some (.int R)) [CW G x cx, OW G (fun k => x (k + 1)) o, AW G (x 2) 9 st, BW G (fun k => x (k + 3)) b, PW G (fun k => x (k + 11)) pf, LW G (fun k => x (k + 16)) g] := by
  unfold f_X6_current at hR
  unfold ok_X6_current at hok
  refine CT.of (cc := cX6_current) (maxL := 1) (ret := (some .int)) (plainFor_of_name (by decide +kernel)) rfl rfl (Nat.le_of_ble_eq_true rfl) ?_
  intro p e s m below meth c A ls hx hb hml hr hts hown hlocks hK hP hD hA hS hl
  have hown : s.vm.findClass RX6 = some m.cls := hown
  have hl : lv_has ls 1 [(0, .ref (x 0))] := hl
  have hinX4 : ∀ w ∈ wsX40, w ∈ wsX6_current := fun w h => List.mem_cons_of_mem _ (List.mem_append_left _ (List.mem_append_left _ (List.mem_append_right _ h)))
  have hinX6 : ∀ w ∈ wsX60, w ∈ wsX6_current := fun w h => List.mem_cons_of_mem _ (List.mem_append_left _ (List.mem_append_left _ (List.mem_append_left _ (List.mem_append_right _ h))))
  refine lv_aload_n hx hb dX6_current_0 rfl (lv_at hl 0 rfl) ?_
  refine g_get (ci := 6) (v := .ref (x 1)) (C := RX6) (T := TX6) (N := 7) hx hb hts hinX6 hown hK hP 0 rfl rfl 0 (by decide) (hts (.fieldLink RX6 10 "ChargeStages" "now" "LChargeStages$State;") (List.mem_of_getElem? (i := 1) rfl)) rfl dX6_current_1 ?_
  refine g_get (ci := 4) (v := .int (o 0)) (C := RX4) (T := TX4) (N := 12) hx hb hts hinX4 hown hK hP 1 rfl rfl 4 (by decide) (hts (.fieldLink RX6 68 "ChargeStages$State" "mode" "I") (List.mem_of_getElem? (i := 2) rfl)) rfl dX6_current_4 ?_
  refine lv_iconst (v := 1) hx hb dX6_current_7 (by decide) ?_
  refine lv_icmp_ne (tgt := 21) hx hb dX6_current_8 (by decide) (fun c1 => ?_) (fun c1 => ?_)
  · rw [if_neg c1] at hR
    have hok := hok.2 c1
    refine lv_iconst (v := 0) hx hb dX6_current_21 (by decide) ?_
    refine lv_goto (tgt := 36) hx hb dX6_current_22 (by decide) ?_
    subst hR
    exact g_ret hx hb hr hlocks hS dX6_current_36 rfl hP
  · rw [if_pos c1] at hR
    have hok := hok.1 c1
    refine lv_aload_n hx hb dX6_current_11 rfl (lv_at hl 0 rfl) ?_
    refine g_get (ci := 6) (v := .ref (x 1)) (C := RX6) (T := TX6) (N := 7) hx hb hts hinX6 hown hK hP 0 rfl rfl 0 (by decide) (hts (.fieldLink RX6 10 "ChargeStages" "now" "LChargeStages$State;") (List.mem_of_getElem? (i := 1) rfl)) rfl dX6_current_12 ?_
    obtain ⟨R2, eR2, hR, hok⟩ := g_let2 hR hok
    refine g_callV (c_X4_isPaused l G (fun k => x (k + 1)) o st R2 eR2) hx hb hml hown hts hK hP hD hS hA gX6_current_X4_isPaused rfl (n := 0) (by decide +kernel) rfl ⟨Nat.le_of_ble_eq_true rfl, Nat.le_of_ble_eq_true rfl⟩ [1, 2] rfl (by decide) 1 rfl (ci := 4) rfl hl.1 rfl (Nat.le_of_ble_eq_true rfl) ⟨Nat.zero_le _, Nat.zero_le _⟩ dX6_current_15 (fun H locs hP hD hS => ?_)
    have hP : va_P G.1 vwCl (List.flatten [CW G x cx, OW G (fun k => x (k + 1)) o, AW G (x 2) 9 st, BW G (fun k => x (k + 3)) b, PW G (fun k => x (k + 11)) pf, LW G (fun k => x (k + 16)) g]) H := hP
    have hD : va_D A (List.flatten [CW G x cx, OW G (fun k => x (k + 1)) o, AW G (x 2) 9 st, BW G (fun k => x (k + 3)) b, PW G (fun k => x (k + 11)) pf, LW G (fun k => x (k + 16)) g]) := hD
    refine lv_if_eq (tgt := 25) hx hb dX6_current_18 (by decide) (fun c4 => ?_) (fun c4 => ?_)
    · rw [if_pos c4] at hR
      have hok := hok.1 c4
      refine lv_iconst (v := 0) hx hb dX6_current_25 (by decide) ?_
      refine lv_aload_n hx hb dX6_current_26 rfl (lv_at hl 0 rfl) ?_
      refine g_get (ci := 6) (v := .ref (x 1)) (C := RX6) (T := TX6) (N := 7) hx hb hts hinX6 hown hK hP 0 rfl rfl 0 (by decide) (hts (.fieldLink RX6 10 "ChargeStages" "now" "LChargeStages$State;") (List.mem_of_getElem? (i := 1) rfl)) rfl dX6_current_27 ?_
      obtain ⟨k6, hok⟩ := hok
      obtain ⟨R5, eR5, hR⟩ := g_let hR
      refine g_callV (c_X4_currentOfStage l G (fun k => x (k + 1)) o st b pf R5 eR5 k6) hx hb hml hown hts hK hP hD hS hA gX6_current_X4_currentOfStage rfl (n := 0) (by decide +kernel) rfl ⟨Nat.le_of_ble_eq_true rfl, Nat.le_of_ble_eq_true rfl⟩ [1, 2, 3, 4] rfl (by decide) 1 rfl (ci := 4) rfl hl.1 rfl (Nat.le_of_ble_eq_true rfl) ⟨Nat.zero_le _, Nat.zero_le _⟩ dX6_current_30 (fun H locs hP hD hS => ?_)
      have hP : va_P G.1 vwCl (List.flatten [CW G x cx, OW G (fun k => x (k + 1)) o, AW G (x 2) 9 st, BW G (fun k => x (k + 3)) b, PW G (fun k => x (k + 11)) pf, LW G (fun k => x (k + 16)) g]) H := hP
      have hD : va_D A (List.flatten [CW G x cx, OW G (fun k => x (k + 1)) o, AW G (x 2) 9 st, BW G (fun k => x (k + 3)) b, PW G (fun k => x (k + 11)) pf, LW G (fun k => x (k + 16)) g]) := hD
      refine va_mmax hx hb (hml.trans hl.1.symm) hown (hts (.methodLink RX6 195 Lib.Math.max.name) (List.mem_of_getElem? (i := 3) rfl)) (hts (.static Lib.Math.max.name) (List.mem_of_getElem? (i := 4) rfl)) (hts (.initialized "java/lang/Math") (List.mem_of_getElem? (i := 5) rfl)) (hts (.code Lib.Math.max.name Lib.Math.max.code 2 (some .int)) (List.mem_of_getElem? (i := 6) rfl)) (Nat.le_of_ble_eq_true rfl) (Nat.le_of_ble_eq_true rfl) (Nat.zero_le _) (Nat.zero_le _) dX6_current_33 ?_
      refine g_topE (y := (gmax 0 R5)) rfl ?_
      subst hR
      exact g_ret hx hb hr hlocks hS dX6_current_36 rfl hP
    · rw [if_neg c4] at hR
      have hok := hok.2 c4
      refine lv_iconst (v := 0) hx hb dX6_current_21 (by decide) ?_
      refine lv_goto (tgt := 36) hx hb dX6_current_22 (by decide) ?_
      subst hR
      exact g_ret hx hb hr hlocks hS dX6_current_36 rfl hP
def f_X6_doneIn (o : (Nat → Int32)) (st : (Nat → Int32)) (b : (Nat → Nat → Int32)) (pf : (Nat → Nat → Int32)) (g : (Nat → Nat → Int32)) (fo : (Nat → Int32)) (fst : (Nat → Int32)) (fb : (Nat → Nat → Int32)) (fp : (Nat → Nat → Int32)) (fg : (Nat → Nat → Int32)) : Int32 × (Nat → Int32) × (Nat → Int32) × (Nat → Nat → Int32) × (Nat → Nat → Int32) × (Nat → Nat → Int32) := (if (o 0) = 2 then (0, fo, fst, fb, fp, fg) else (gL (f_X4_runUntilDone o st b pf g 2000) (fun (R3 : Int32 × (Nat → Int32) × (Nat → Nat → Int32) × (Nat → Nat → Int32)) => (R3.1, R3.2.1, st, R3.2.2.1, pf, R3.2.2.2))))
def ok_X6_doneIn (o : (Nat → Int32)) (st : (Nat → Int32)) (b : (Nat → Nat → Int32)) (pf : (Nat → Nat → Int32)) (g : (Nat → Nat → Int32)) : Prop := (((o 0) = 2 → True) ∧ (¬ (o 0) = 2 → (ok_X4_copyFrom o) ∧ (ok_X4_runUntilDone o st b pf g 2000) ∧ True))
set_option maxHeartbeats 4000000 in
set_option maxRecDepth 100000 in
theorem c_X6_doneIn (l : Launch) (G : gG) (x : Nat → Nat) (cx : (Nat → Int32)) (o : (Nat → Int32)) (st : (Nat → Int32)) (b : (Nat → Nat → Int32)) (pf : (Nat → Nat → Int32)) (g : (Nat → Nat → Int32)) (fo : (Nat → Int32)) (fst : (Nat → Int32)) (fb : (Nat → Nat → Int32)) (fp : (Nat → Nat → Int32)) (fg : (Nat → Nat → Int32)) (R : Int32 × (Nat → Int32) × (Nat → Int32) × (Nat → Nat → Int32) × (Nat → Nat → Int32) × (Nat → Nat → Int32)) (hR : R = f_X6_doneIn o st b pf g fo fst fb fp fg) (hok : ok_X6_doneIn o st b pf g) : CT l G yX6_doneIn wsX6_doneIn 7 142 [.ref (x 0)] [CW G x cx, OW G (fun k => x (k + 1)) o, AW G (x 2) 9 st, BW G (fun k => x (k + 3)) b, PW G (fun k => x (k + 11)) pf, LW G (fun k => x (k + 16)) g, OW G (fun k => x (k + 20)) fo, AW G (x 21) 9 fst, BW G (fun k => x (k + 22)) fb, PW G (fun k => x (k + 30)) fp, LW G (fun k => x (k + 35)) fg] (some (.int R.1)) [CW G x cx, OW G (fun k => x (k + 1)) o, AW G (x 2) 9 st, BW G (fun k => x (k + 3)) b, PW G (fun k => x (k + 11)) pf, LW G (fun k => x (k + 16)) g, OW G (fun k => x (k + 20)) R.2.1, AW G (x 21) 9 R.2.2.1, BW G (fun k => x (k + 22)) R.2.2.2.1, PW G (fun k => x (k + 30)) R.2.2.2.2.1, LW G (fun k => x (k + 35)) R.2.2.2.2.2] := by
  unfold f_X6_doneIn at hR
  unfold ok_X6_doneIn at hok
  refine CT.of (cc := cX6_doneIn) (maxL := 1) (ret := (some .int)) (plainFor_of_name (by decide +kernel)) rfl rfl (Nat.le_of_ble_eq_true rfl) ?_
  intro p e s m below meth c A ls hx hb hml hr hts hown hlocks hK hP hD hA hS hl
  have hown : s.vm.findClass RX6 = some m.cls := hown
  have hl : lv_has ls 1 [(0, .ref (x 0))] := hl
  have hinX4 : ∀ w ∈ wsX40, w ∈ wsX6_doneIn := fun w h => List.mem_cons_of_mem _ (List.mem_append_left _ (List.mem_append_left _ (List.mem_append_left _ (List.mem_append_right _ h))))
  have hinX6 : ∀ w ∈ wsX60, w ∈ wsX6_doneIn := fun w h => List.mem_cons_of_mem _ (List.mem_append_left _ (List.mem_append_left _ (List.mem_append_left _ (List.mem_append_left _ (List.mem_append_right _ h)))))
  refine lv_aload_n hx hb dX6_doneIn_0 rfl (lv_at hl 0 rfl) ?_
  refine g_get (ci := 6) (v := .ref (x 1)) (C := RX6) (T := TX6) (N := 7) hx hb hts hinX6 hown hK hP 0 rfl rfl 0 (by decide) (hts (.fieldLink RX6 10 "ChargeStages" "now" "LChargeStages$State;") (List.mem_of_getElem? (i := 1) rfl)) rfl dX6_doneIn_1 ?_
  refine g_get (ci := 4) (v := .int (o 0)) (C := RX4) (T := TX4) (N := 12) hx hb hts hinX4 hown hK hP 1 rfl rfl 4 (by decide) (hts (.fieldLink RX6 68 "ChargeStages$State" "mode" "I") (List.mem_of_getElem? (i := 2) rfl)) rfl dX6_doneIn_4 ?_
  refine lv_iconst (v := 2) hx hb dX6_doneIn_7 (by decide) ?_
  refine lv_icmp_ne (tgt := 13) hx hb dX6_doneIn_8 (by decide) (fun c1 => ?_) (fun c1 => ?_)
  · rw [if_neg c1] at hR
    have hok := hok.2 c1
    refine lv_aload_n hx hb dX6_doneIn_13 rfl (lv_at hl 0 rfl) ?_
    refine g_get (ci := 6) (v := .ref (x 20)) (C := RX6) (T := TX6) (N := 7) hx hb hts hinX6 hown hK hP 0 rfl rfl 1 (by decide) (hts (.fieldLink RX6 16 "ChargeStages" "forecast" "LChargeStages$State;") (List.mem_of_getElem? (i := 3) rfl)) rfl dX6_doneIn_14 ?_
    refine lv_aload_n hx hb dX6_doneIn_17 rfl (lv_at hl 0 rfl) ?_
    refine g_get (ci := 6) (v := .ref (x 1)) (C := RX6) (T := TX6) (N := 7) hx hb hts hinX6 hown hK hP 0 rfl rfl 0 (by decide) (hts (.fieldLink RX6 10 "ChargeStages" "now" "LChargeStages$State;") (List.mem_of_getElem? (i := 1) rfl)) rfl dX6_doneIn_18 ?_
    obtain ⟨k2, hok⟩ := hok
    refine g_callV (c_X4_copyFrom l G (fun k => x (k + 20)) (fun k => x (k + 1)) fo fst fb fp fg o st b pf g k2) hx hb hml hown hts hK hP hD hS hA gX6_doneIn_X4_copyFrom rfl (n := 1) (by decide +kernel) rfl ⟨Nat.le_of_ble_eq_true rfl, Nat.le_of_ble_eq_true rfl⟩ [6, 7, 8, 9, 10, 1, 2, 3, 4, 5] rfl (by decide) 20 rfl (ci := 4) rfl hl.1 rfl (Nat.le_of_ble_eq_true rfl) ⟨Nat.zero_le _, Nat.zero_le _⟩ dX6_doneIn_21 (fun H locs hP hD hS => ?_)
    have hP : va_P G.1 vwCl (List.flatten [CW G x cx, OW G (fun k => x (k + 1)) o, AW G (x 2) 9 st, BW G (fun k => x (k + 3)) b, PW G (fun k => x (k + 11)) pf, LW G (fun k => x (k + 16)) g, OW G (fun k => x (k + 20)) o, AW G (x 21) 9 st, BW G (fun k => x (k + 22)) b, PW G (fun k => x (k + 30)) pf, LW G (fun k => x (k + 35)) g]) H := hP
    have hD : va_D A (List.flatten [CW G x cx, OW G (fun k => x (k + 1)) o, AW G (x 2) 9 st, BW G (fun k => x (k + 3)) b, PW G (fun k => x (k + 11)) pf, LW G (fun k => x (k + 16)) g, OW G (fun k => x (k + 20)) o, AW G (x 21) 9 st, BW G (fun k => x (k + 22)) b, PW G (fun k => x (k + 30)) pf, LW G (fun k => x (k + 35)) g]) := hD
    refine lv_aload_n hx hb dX6_doneIn_24 rfl (lv_at hl 0 rfl) ?_
    refine g_get (ci := 6) (v := .ref (x 20)) (C := RX6) (T := TX6) (N := 7) hx hb hts hinX6 hown hK hP 0 rfl rfl 1 (by decide) (hts (.fieldLink RX6 16 "ChargeStages" "forecast" "LChargeStages$State;") (List.mem_of_getElem? (i := 3) rfl)) rfl dX6_doneIn_25 ?_
    refine lv_sipush (v := 2000) hx hb dX6_doneIn_28 (by decide) ?_
    obtain ⟨k4, hok⟩ := hok
    obtain ⟨R3, eR3, hR⟩ := g_let hR
    refine g_callV (c_X4_runUntilDone l G (fun k => x (k + 20)) o st b pf g 2000 R3 eR3 k4) hx hb hml hown hts hK hP hD hS hA gX6_doneIn_X4_runUntilDone rfl (n := 1) (by decide +kernel) rfl ⟨Nat.le_of_ble_eq_true rfl, Nat.le_of_ble_eq_true rfl⟩ [6, 7, 8, 9, 10] rfl (by decide) 20 rfl (ci := 4) rfl hl.1 rfl (Nat.le_of_ble_eq_true rfl) ⟨Nat.zero_le _, Nat.zero_le _⟩ dX6_doneIn_31 (fun H locs hP hD hS => ?_)
    have hP : va_P G.1 vwCl (List.flatten [CW G x cx, OW G (fun k => x (k + 1)) o, AW G (x 2) 9 st, BW G (fun k => x (k + 3)) b, PW G (fun k => x (k + 11)) pf, LW G (fun k => x (k + 16)) g, OW G (fun k => x (k + 20)) R3.2.1, AW G (x 21) 9 st, BW G (fun k => x (k + 22)) R3.2.2.1, PW G (fun k => x (k + 30)) pf, LW G (fun k => x (k + 35)) R3.2.2.2]) H := hP
    have hD : va_D A (List.flatten [CW G x cx, OW G (fun k => x (k + 1)) o, AW G (x 2) 9 st, BW G (fun k => x (k + 3)) b, PW G (fun k => x (k + 11)) pf, LW G (fun k => x (k + 16)) g, OW G (fun k => x (k + 20)) R3.2.1, AW G (x 21) 9 st, BW G (fun k => x (k + 22)) R3.2.2.1, PW G (fun k => x (k + 30)) pf, LW G (fun k => x (k + 35)) R3.2.2.2]) := hD
    subst hR
    exact g_ret hx hb hr hlocks hS dX6_doneIn_34 rfl hP
  · rw [if_pos c1] at hR
    have hok := hok.1 c1
    refine lv_iconst (v := 0) hx hb dX6_doneIn_11 (by decide) ?_
    subst hR
    exact g_ret hx hb hr hlocks hS dX6_doneIn_12 rfl hP
def f_X6_chargeIn (o : (Nat → Int32)) (st : (Nat → Int32)) (b : (Nat → Nat → Int32)) (pf : (Nat → Nat → Int32)) (g : (Nat → Nat → Int32)) (fo : (Nat → Int32)) (fst : (Nat → Int32)) (fb : (Nat → Nat → Int32)) (fp : (Nat → Nat → Int32)) (fg : (Nat → Nat → Int32)) (p1 : Int32) (p2 : Int32) : Int32 × (Nat → Int32) × (Nat → Int32) × (Nat → Nat → Int32) × (Nat → Nat → Int32) × (Nat → Nat → Int32) := (gL (f_X0_has b p1) (fun (R1 : Int32) => (if R1 = 0 then ((-1), fo, fst, fb, fp, fg) else (if p2 < 0 then ((-2), fo, fst, fb, fp, fg) else (if p2 ≤ 200 then (gL (f_X4_passTicks o st b pf g p2) (fun (R7 : (Nat → Int32) × (Nat → Nat → Int32) × (Nat → Nat → Int32)) => ((R7.2.1 1) ((p1).toNatClampNeg), R7.1, st, R7.2.1, pf, R7.2.2))) else ((-2), fo, fst, fb, fp, fg))))))
def ok_X6_chargeIn (o : (Nat → Int32)) (st : (Nat → Int32)) (b : (Nat → Nat → Int32)) (pf : (Nat → Nat → Int32)) (g : (Nat → Nat → Int32)) (p1 : Int32) (p2 : Int32) : Prop := (gL (f_X0_has b p1) (fun (R1 : Int32) => ((R1 = 0 → True) ∧ (¬ R1 = 0 → ((p2 < 0 → True) ∧ (¬ p2 < 0 → ((p2 ≤ 200 → (ok_X4_copyFrom o) ∧ (ok_X4_passTicks o st b pf g p2) ∧ (gL (f_X4_passTicks o st b pf g p2) (fun (R7 : (Nat → Int32) × (Nat → Nat → Int32) × (Nat → Nat → Int32)) => (vp_in p1 6) ∧ True))) ∧ (¬ p2 ≤ 200 → True))))))))
set_option maxHeartbeats 4000000 in
set_option maxRecDepth 100000 in
theorem c_X6_chargeIn (l : Launch) (G : gG) (x : Nat → Nat) (cx : (Nat → Int32)) (o : (Nat → Int32)) (st : (Nat → Int32)) (b : (Nat → Nat → Int32)) (pf : (Nat → Nat → Int32)) (g : (Nat → Nat → Int32)) (fo : (Nat → Int32)) (fst : (Nat → Int32)) (fb : (Nat → Nat → Int32)) (fp : (Nat → Nat → Int32)) (fg : (Nat → Nat → Int32)) (p1 : Int32) (p2 : Int32) (R : Int32 × (Nat → Int32) × (Nat → Int32) × (Nat → Nat → Int32) × (Nat → Nat → Int32) × (Nat → Nat → Int32)) (hR : R = f_X6_chargeIn o st b pf g fo fst fb fp fg p1 p2) (hok : ok_X6_chargeIn o st b pf g p1 p2) : CT l G yX6_chargeIn wsX6_chargeIn 7 142 [.ref (x 0), .int p1, .int p2] [CW G x cx, OW G (fun k => x (k + 1)) o, AW G (x 2) 9 st, BW G (fun k => x (k + 3)) b, PW G (fun k => x (k + 11)) pf, LW G (fun k => x (k + 16)) g, OW G (fun k => x (k + 20)) fo, AW G (x 21) 9 fst, BW G (fun k => x (k + 22)) fb, PW G (fun k => x (k + 30)) fp, LW G (fun k => x (k + 35)) fg] (some (.int R.1)) [CW G x cx, OW G (fun k => x (k + 1)) o, AW G (x 2) 9 st, BW G (fun k => x (k + 3)) b, PW G (fun k => x (k + 11)) pf, LW G (fun k => x (k + 16)) g, OW G (fun k => x (k + 20)) R.2.1, AW G (x 21) 9 R.2.2.1, BW G (fun k => x (k + 22)) R.2.2.2.1, PW G (fun k => x (k + 30)) R.2.2.2.2.1, LW G (fun k => x (k + 35)) R.2.2.2.2.2] := by
  unfold f_X6_chargeIn at hR
  unfold ok_X6_chargeIn at hok
  refine CT.of (cc := cX6_chargeIn) (maxL := 3) (ret := (some .int)) (plainFor_of_name (by decide +kernel)) rfl rfl (Nat.le_of_ble_eq_true rfl) ?_
  intro p e s m below meth c A ls hx hb hml hr hts hown hlocks hK hP hD hA hS hl
  have hown : s.vm.findClass RX6 = some m.cls := hown
  have hl : lv_has ls 3 [(0, .ref (x 0)), (1, .int p1), (2, .int p2)] := hl
  have hinX0 : ∀ w ∈ wsX00, w ∈ wsX6_chargeIn := fun w h => List.mem_cons_of_mem _ (List.mem_append_left _ (List.mem_append_left _ (List.mem_append_right _ h)))
  have hinX4 : ∀ w ∈ wsX40, w ∈ wsX6_chargeIn := fun w h => List.mem_cons_of_mem _ (List.mem_append_left _ (List.mem_append_left _ (List.mem_append_left _ (List.mem_append_right _ h))))
  have hinX6 : ∀ w ∈ wsX60, w ∈ wsX6_chargeIn := fun w h => List.mem_cons_of_mem _ (List.mem_append_left _ (List.mem_append_left _ (List.mem_append_left _ (List.mem_append_left _ (List.mem_append_right _ h)))))
  refine lv_aload_n hx hb dX6_chargeIn_0 rfl (lv_at hl 0 rfl) ?_
  refine g_get (ci := 6) (v := .ref (x 1)) (C := RX6) (T := TX6) (N := 7) hx hb hts hinX6 hown hK hP 0 rfl rfl 0 (by decide) (hts (.fieldLink RX6 10 "ChargeStages" "now" "LChargeStages$State;") (List.mem_of_getElem? (i := 1) rfl)) rfl dX6_chargeIn_1 ?_
  refine g_get (ci := 4) (v := .ref (x 3)) (C := RX4) (T := TX4) (N := 12) hx hb hts hinX4 hown hK hP 1 rfl rfl 1 (by decide) (hts (.fieldLink RX6 50 "ChargeStages$State" "row" "LChargeStages$Battery;") (List.mem_of_getElem? (i := 2) rfl)) rfl dX6_chargeIn_4 ?_
  refine lv_iload_n hx hb dX6_chargeIn_7 rfl (lv_at hl 1 rfl) ?_
  obtain ⟨R1, eR1, hR, hok⟩ := g_let2 hR hok
  refine g_callV (c_X0_has l G (fun k => x (k + 3)) b p1 R1 eR1) hx hb hml hown hts hK hP hD hS hA gX6_chargeIn_X0_has rfl (n := 1) (by decide +kernel) rfl ⟨Nat.le_of_ble_eq_true rfl, Nat.le_of_ble_eq_true rfl⟩ [3] rfl (by decide) 3 rfl (ci := 0) rfl hl.1 rfl (Nat.le_of_ble_eq_true rfl) ⟨Nat.zero_le _, Nat.zero_le _⟩ dX6_chargeIn_8 (fun H locs hP hD hS => ?_)
  have hP : va_P G.1 vwCl (List.flatten [CW G x cx, OW G (fun k => x (k + 1)) o, AW G (x 2) 9 st, BW G (fun k => x (k + 3)) b, PW G (fun k => x (k + 11)) pf, LW G (fun k => x (k + 16)) g, OW G (fun k => x (k + 20)) fo, AW G (x 21) 9 fst, BW G (fun k => x (k + 22)) fb, PW G (fun k => x (k + 30)) fp, LW G (fun k => x (k + 35)) fg]) H := hP
  have hD : va_D A (List.flatten [CW G x cx, OW G (fun k => x (k + 1)) o, AW G (x 2) 9 st, BW G (fun k => x (k + 3)) b, PW G (fun k => x (k + 11)) pf, LW G (fun k => x (k + 16)) g, OW G (fun k => x (k + 20)) fo, AW G (x 21) 9 fst, BW G (fun k => x (k + 22)) fb, PW G (fun k => x (k + 30)) fp, LW G (fun k => x (k + 35)) fg]) := hD
  refine lv_if_ne (tgt := 16) hx hb dX6_chargeIn_11 (by decide) (fun c3 => ?_) (fun c3 => ?_)
  · rw [if_neg c3] at hR
    have hok := hok.2 c3
    refine lv_iload_n hx hb dX6_chargeIn_16 rfl (lv_at hl 2 rfl) ?_
    refine lv_if_lt (tgt := 27) hx hb dX6_chargeIn_17 (by decide) (fun c4 => ?_) (fun c4 => ?_)
    · rw [if_pos c4] at hR
      have hok := hok.1 c4
      refine lv_bipush (v := (-2)) hx hb dX6_chargeIn_27 (by decide) ?_
      subst hR
      exact g_ret hx hb hr hlocks hS dX6_chargeIn_29 rfl hP
    · rw [if_neg c4] at hR
      have hok := hok.2 c4
      refine lv_iload_n hx hb dX6_chargeIn_20 rfl (lv_at hl 2 rfl) ?_
      refine lv_sipush (v := 200) hx hb dX6_chargeIn_21 (by decide) ?_
      refine lv_icmp_le (tgt := 30) hx hb dX6_chargeIn_24 (by decide) (fun c5 => ?_) (fun c5 => ?_)
      · rw [if_pos c5] at hR
        have hok := hok.1 c5
        refine lv_aload_n hx hb dX6_chargeIn_30 rfl (lv_at hl 0 rfl) ?_
        refine g_get (ci := 6) (v := .ref (x 20)) (C := RX6) (T := TX6) (N := 7) hx hb hts hinX6 hown hK hP 0 rfl rfl 1 (by decide) (hts (.fieldLink RX6 16 "ChargeStages" "forecast" "LChargeStages$State;") (List.mem_of_getElem? (i := 3) rfl)) rfl dX6_chargeIn_31 ?_
        refine lv_aload_n hx hb dX6_chargeIn_34 rfl (lv_at hl 0 rfl) ?_
        refine g_get (ci := 6) (v := .ref (x 1)) (C := RX6) (T := TX6) (N := 7) hx hb hts hinX6 hown hK hP 0 rfl rfl 0 (by decide) (hts (.fieldLink RX6 10 "ChargeStages" "now" "LChargeStages$State;") (List.mem_of_getElem? (i := 1) rfl)) rfl dX6_chargeIn_35 ?_
        obtain ⟨k6, hok⟩ := hok
        refine g_callV (c_X4_copyFrom l G (fun k => x (k + 20)) (fun k => x (k + 1)) fo fst fb fp fg o st b pf g k6) hx hb hml hown hts hK hP hD hS hA gX6_chargeIn_X4_copyFrom rfl (n := 1) (by decide +kernel) rfl ⟨Nat.le_of_ble_eq_true rfl, Nat.le_of_ble_eq_true rfl⟩ [6, 7, 8, 9, 10, 1, 2, 3, 4, 5] rfl (by decide) 20 rfl (ci := 4) rfl hl.1 rfl (Nat.le_of_ble_eq_true rfl) ⟨Nat.zero_le _, Nat.zero_le _⟩ dX6_chargeIn_38 (fun H locs hP hD hS => ?_)
        have hP : va_P G.1 vwCl (List.flatten [CW G x cx, OW G (fun k => x (k + 1)) o, AW G (x 2) 9 st, BW G (fun k => x (k + 3)) b, PW G (fun k => x (k + 11)) pf, LW G (fun k => x (k + 16)) g, OW G (fun k => x (k + 20)) o, AW G (x 21) 9 st, BW G (fun k => x (k + 22)) b, PW G (fun k => x (k + 30)) pf, LW G (fun k => x (k + 35)) g]) H := hP
        have hD : va_D A (List.flatten [CW G x cx, OW G (fun k => x (k + 1)) o, AW G (x 2) 9 st, BW G (fun k => x (k + 3)) b, PW G (fun k => x (k + 11)) pf, LW G (fun k => x (k + 16)) g, OW G (fun k => x (k + 20)) o, AW G (x 21) 9 st, BW G (fun k => x (k + 22)) b, PW G (fun k => x (k + 30)) pf, LW G (fun k => x (k + 35)) g]) := hD
        refine lv_aload_n hx hb dX6_chargeIn_41 rfl (lv_at hl 0 rfl) ?_
        refine g_get (ci := 6) (v := .ref (x 20)) (C := RX6) (T := TX6) (N := 7) hx hb hts hinX6 hown hK hP 0 rfl rfl 1 (by decide) (hts (.fieldLink RX6 16 "ChargeStages" "forecast" "LChargeStages$State;") (List.mem_of_getElem? (i := 3) rfl)) rfl dX6_chargeIn_42 ?_
        refine lv_iload_n hx hb dX6_chargeIn_45 rfl (lv_at hl 2 rfl) ?_
        obtain ⟨k8, hok⟩ := hok
        obtain ⟨R7, eR7, hR, hok⟩ := g_let2 hR hok
        refine g_callV (c_X4_passTicks l G (fun k => x (k + 20)) o st b pf g p2 R7 eR7 k8) hx hb hml hown hts hK hP hD hS hA gX6_chargeIn_X4_passTicks rfl (n := 1) (by decide +kernel) rfl ⟨Nat.le_of_ble_eq_true rfl, Nat.le_of_ble_eq_true rfl⟩ [6, 7, 8, 9, 10] rfl (by decide) 20 rfl (ci := 4) rfl hl.1 rfl (Nat.le_of_ble_eq_true rfl) ⟨Nat.zero_le _, Nat.zero_le _⟩ dX6_chargeIn_46 (fun H locs hP hD hS => ?_)
        have hP : va_P G.1 vwCl (List.flatten [CW G x cx, OW G (fun k => x (k + 1)) o, AW G (x 2) 9 st, BW G (fun k => x (k + 3)) b, PW G (fun k => x (k + 11)) pf, LW G (fun k => x (k + 16)) g, OW G (fun k => x (k + 20)) R7.1, AW G (x 21) 9 st, BW G (fun k => x (k + 22)) R7.2.1, PW G (fun k => x (k + 30)) pf, LW G (fun k => x (k + 35)) R7.2.2]) H := hP
        have hD : va_D A (List.flatten [CW G x cx, OW G (fun k => x (k + 1)) o, AW G (x 2) 9 st, BW G (fun k => x (k + 3)) b, PW G (fun k => x (k + 11)) pf, LW G (fun k => x (k + 16)) g, OW G (fun k => x (k + 20)) R7.1, AW G (x 21) 9 st, BW G (fun k => x (k + 22)) R7.2.1, PW G (fun k => x (k + 30)) pf, LW G (fun k => x (k + 35)) R7.2.2]) := hD
        refine lv_aload_n hx hb dX6_chargeIn_49 rfl (lv_at hl 0 rfl) ?_
        refine g_get (ci := 6) (v := .ref (x 20)) (C := RX6) (T := TX6) (N := 7) hx hb hts hinX6 hown hK hP 0 rfl rfl 1 (by decide) (hts (.fieldLink RX6 16 "ChargeStages" "forecast" "LChargeStages$State;") (List.mem_of_getElem? (i := 3) rfl)) rfl dX6_chargeIn_50 ?_
        refine g_get (ci := 4) (v := .ref (x 22)) (C := RX4) (T := TX4) (N := 12) hx hb hts hinX4 hown hK hP 20 rfl rfl 1 (by decide) (hts (.fieldLink RX6 50 "ChargeStages$State" "row" "LChargeStages$Battery;") (List.mem_of_getElem? (i := 2) rfl)) rfl dX6_chargeIn_53 ?_
        refine g_get (ci := 0) (v := .ref (x 23)) (C := RX0) (T := TX0) (N := 8) hx hb hts hinX0 hown hK hP 22 rfl rfl 1 (by decide) (hts (.fieldLink RX6 79 "ChargeStages$Battery" "charge" "[I") (List.mem_of_getElem? (i := 4) rfl)) rfl dX6_chargeIn_56 ?_
        refine lv_iload_n hx hb dX6_chargeIn_59 rfl (lv_at hl 1 rfl) ?_
        obtain ⟨k9, hok⟩ := hok
        refine g_ld (n := 6) (f := (R7.2.1 1)) (v := (R7.2.1 1) ((p1).toNatClampNeg)) (k := ((p1).toNatClampNeg)) hx hb hK hP 23 rfl rfl k9 rfl dX6_chargeIn_60 ?_
        subst hR
        exact g_ret hx hb hr hlocks hS dX6_chargeIn_61 rfl hP
      · rw [if_neg c5] at hR
        have hok := hok.2 c5
        refine lv_bipush (v := (-2)) hx hb dX6_chargeIn_27 (by decide) ?_
        subst hR
        exact g_ret hx hb hr hlocks hS dX6_chargeIn_29 rfl hP
  · rw [if_pos c3] at hR
    have hok := hok.1 c3
    refine lv_iconst (v := (-1)) hx hb dX6_chargeIn_14 (by decide) ?_
    subst hR
    exact g_ret hx hb hr hlocks hS dX6_chargeIn_15 rfl hP
def fl_X6_warmest_35 (o : (Nat → Int32)) (st : (Nat → Int32)) (b : (Nat → Nat → Int32)) (pf : (Nat → Nat → Int32)) (g : (Nat → Nat → Int32)) (v2 : Int32) : Nat → Int32 → (Nat → Int32) → (Nat → Int32) → (Nat → Nat → Int32) → (Nat → Nat → Int32) → (Nat → Nat → Int32) → Int32 × (Nat → Int32) × (Nat → Int32) × (Nat → Nat → Int32) × (Nat → Nat → Int32) × (Nat → Nat → Int32)
  | 0, _, _, _, _, _, _ => ((0 : Int32), (fun _ => 0), (fun _ => 0), (fun _ _ => 0), (fun _ _ => 0), (fun _ _ => 0))
  | n + 1, x35_2, w35_6, w35_7, w35_8, w35_9, w35_10 => (if x35_2 < v2 then ((-5), w35_6, w35_7, w35_8, w35_9, w35_10) else (gL (upd st 3 x35_2) (fun (z13 : (Nat → Int32)) => (gL (f_X4_runUntilDone o z13 b pf g 500) (fun (R14 : Int32 × (Nat → Int32) × (Nat → Nat → Int32) × (Nat → Nat → Int32)) => (if R14.1 = (-5) then (gL ((x35_2 + (-1))) (fun (v17 : Int32) => (fl_X6_warmest_35 o st b pf g v2 n v17 R14.2.1 z13 R14.2.2.1 pf R14.2.2.2))) else ((x35_2 + 1000), R14.2.1, z13, R14.2.2.1, pf, R14.2.2.2)))))))
def okl_X6_warmest_35 (o : (Nat → Int32)) (st : (Nat → Int32)) (b : (Nat → Nat → Int32)) (pf : (Nat → Nat → Int32)) (g : (Nat → Nat → Int32)) (v2 : Int32) : Nat → Int32 → (Nat → Int32) → (Nat → Int32) → (Nat → Nat → Int32) → (Nat → Nat → Int32) → (Nat → Nat → Int32) → Prop
  | 0, _, _, _, _, _, _ => False
  | n + 1, x35_2, w35_6, w35_7, w35_8, w35_9, w35_10 => ((x35_2 < v2 → True) ∧ (¬ x35_2 < v2 → (ok_X4_copyFrom o) ∧ (gL (upd st 3 x35_2) (fun (z13 : (Nat → Int32)) => (ok_X4_runUntilDone o z13 b pf g 500) ∧ (gL (f_X4_runUntilDone o z13 b pf g 500) (fun (R14 : Int32 × (Nat → Int32) × (Nat → Nat → Int32) × (Nat → Nat → Int32)) => ((R14.1 = (-5) → (gL ((x35_2 + (-1))) (fun (v17 : Int32) => (okl_X6_warmest_35 o st b pf g v2 n v17 R14.2.1 z13 R14.2.2.1 pf R14.2.2.2)))) ∧ (¬ R14.1 = (-5) → True))))))))
def f_X6_warmest (o : (Nat → Int32)) (st : (Nat → Int32)) (b : (Nat → Nat → Int32)) (pf : (Nat → Nat → Int32)) (g : (Nat → Nat → Int32)) (fo : (Nat → Int32)) (fst : (Nat → Int32)) (fb : (Nat → Nat → Int32)) (fp : (Nat → Nat → Int32)) (fg : (Nat → Nat → Int32)) : Int32 × (Nat → Int32) × (Nat → Int32) × (Nat → Nat → Int32) × (Nat → Nat → Int32) × (Nat → Nat → Int32) := (if (o 0) = 1 then (gL (st 5) (fun (v2 : Int32) => (gL (st 6) (fun (v3 : Int32) => (fl_X6_warmest_35 o st b pf g v2 113 v3 fo fst fb fp fg))))) else ((-4), fo, fst, fb, fp, fg))
def ok_X6_warmest (o : (Nat → Int32)) (st : (Nat → Int32)) (b : (Nat → Nat → Int32)) (pf : (Nat → Nat → Int32)) (g : (Nat → Nat → Int32)) (fo : (Nat → Int32)) (fst : (Nat → Int32)) (fb : (Nat → Nat → Int32)) (fp : (Nat → Nat → Int32)) (fg : (Nat → Nat → Int32)) : Prop := (((o 0) = 1 → (gL (st 5) (fun (v2 : Int32) => (gL (st 6) (fun (v3 : Int32) => (okl_X6_warmest_35 o st b pf g v2 113 v3 fo fst fb fp fg)))))) ∧ (¬ (o 0) = 1 → True))
set_option maxHeartbeats 4000000 in
set_option maxRecDepth 100000 in
theorem c_X6_warmest (l : Launch) (G : gG) (x : Nat → Nat) (cx : (Nat → Int32)) (o : (Nat → Int32)) (st : (Nat → Int32)) (b : (Nat → Nat → Int32)) (pf : (Nat → Nat → Int32)) (g : (Nat → Nat → Int32)) (fo : (Nat → Int32)) (fst : (Nat → Int32)) (fb : (Nat → Nat → Int32)) (fp : (Nat → Nat → Int32)) (fg : (Nat → Nat → Int32)) (R : Int32 × (Nat → Int32) × (Nat → Int32) × (Nat → Nat → Int32) × (Nat → Nat → Int32) × (Nat → Nat → Int32)) (hR : R = f_X6_warmest o st b pf g fo fst fb fp fg) (hok : ok_X6_warmest o st b pf g fo fst fb fp fg) : CT l G yX6_warmest wsX6_warmest 7 142 [.ref (x 0)] [CW G x cx, OW G (fun k => x (k + 1)) o, AW G (x 2) 9 st, BW G (fun k => x (k + 3)) b, PW G (fun k => x (k + 11)) pf, LW G (fun k => x (k + 16)) g, OW G (fun k => x (k + 20)) fo, AW G (x 21) 9 fst, BW G (fun k => x (k + 22)) fb, PW G (fun k => x (k + 30)) fp, LW G (fun k => x (k + 35)) fg] (some (.int R.1)) [CW G x cx, OW G (fun k => x (k + 1)) o, AW G (x 2) 9 st, BW G (fun k => x (k + 3)) b, PW G (fun k => x (k + 11)) pf, LW G (fun k => x (k + 16)) g, OW G (fun k => x (k + 20)) R.2.1, AW G (x 21) 9 R.2.2.1, BW G (fun k => x (k + 22)) R.2.2.2.1, PW G (fun k => x (k + 30)) R.2.2.2.2.1, LW G (fun k => x (k + 35)) R.2.2.2.2.2] := by
  unfold f_X6_warmest at hR
  unfold ok_X6_warmest at hok
  refine CT.of (cc := cX6_warmest) (maxL := 3) (ret := (some .int)) (plainFor_of_name (by decide +kernel)) rfl rfl (Nat.le_of_ble_eq_true rfl) ?_
  intro p e s m below meth c A ls hx hb hml hr hts hown hlocks hK hP hD hA hS hl
  have hown : s.vm.findClass RX6 = some m.cls := hown
  have hl : lv_has ls 3 [(0, .ref (x 0))] := hl
  have hinX4 : ∀ w ∈ wsX40, w ∈ wsX6_warmest := fun w h => List.mem_cons_of_mem _ (List.mem_append_left _ (List.mem_append_left _ (List.mem_append_left _ (List.mem_append_right _ h))))
  have hinX6 : ∀ w ∈ wsX60, w ∈ wsX6_warmest := fun w h => List.mem_cons_of_mem _ (List.mem_append_left _ (List.mem_append_left _ (List.mem_append_left _ (List.mem_append_left _ (List.mem_append_right _ h)))))
  refine lv_aload_n hx hb dX6_warmest_0 rfl (lv_at hl 0 rfl) ?_
  refine g_get (ci := 6) (v := .ref (x 1)) (C := RX6) (T := TX6) (N := 7) hx hb hts hinX6 hown hK hP 0 rfl rfl 0 (by decide) (hts (.fieldLink RX6 10 "ChargeStages" "now" "LChargeStages$State;") (List.mem_of_getElem? (i := 1) rfl)) rfl dX6_warmest_1 ?_
  refine g_get (ci := 4) (v := .int (o 0)) (C := RX4) (T := TX4) (N := 12) hx hb hts hinX4 hown hK hP 1 rfl rfl 4 (by decide) (hts (.fieldLink RX6 68 "ChargeStages$State" "mode" "I") (List.mem_of_getElem? (i := 2) rfl)) rfl dX6_warmest_4 ?_
  refine lv_iconst (v := 1) hx hb dX6_warmest_7 (by decide) ?_
  refine lv_icmp_eq (tgt := 14) hx hb dX6_warmest_8 (by decide) (fun c1 => ?_) (fun c1 => ?_)
  · rw [if_pos c1] at hR
    have hok := hok.1 c1
    refine lv_aload_n hx hb dX6_warmest_14 rfl (lv_at hl 0 rfl) ?_
    refine g_get (ci := 6) (v := .ref (x 1)) (C := RX6) (T := TX6) (N := 7) hx hb hts hinX6 hown hK hP 0 rfl rfl 0 (by decide) (hts (.fieldLink RX6 10 "ChargeStages" "now" "LChargeStages$State;") (List.mem_of_getElem? (i := 1) rfl)) rfl dX6_warmest_15 ?_
    refine g_get (ci := 4) (v := .ref (x 2)) (C := RX4) (T := TX4) (N := 12) hx hb hts hinX4 hown hK hP 1 rfl rfl 0 (by decide) (hts (.fieldLink RX6 75 "ChargeStages$State" "settings" "[I") (List.mem_of_getElem? (i := 3) rfl)) rfl dX6_warmest_18 ?_
    refine lv_iconst (v := 5) hx hb dX6_warmest_21 (by decide) ?_
    refine g_ld (n := 9) (f := st) (v := st 5) (k := 5) hx hb hK hP 2 rfl (by decide) (by unfold vp_in; decide) rfl dX6_warmest_22 ?_
    obtain ⟨v2, ev2, hR, hok⟩ := g_let2 hR hok
    refine g_topE ev2.symm ?_
    refine lv_istore_n (lv' := [(1, .int v2), (0, .ref (x 0))]) hx hb dX6_warmest_23 rfl hl (by decide) rfl (fun ls hl => ?_)
    refine lv_aload_n hx hb dX6_warmest_24 rfl (lv_at hl 1 rfl) ?_
    refine g_get (ci := 6) (v := .ref (x 1)) (C := RX6) (T := TX6) (N := 7) hx hb hts hinX6 hown hK hP 0 rfl rfl 0 (by decide) (hts (.fieldLink RX6 10 "ChargeStages" "now" "LChargeStages$State;") (List.mem_of_getElem? (i := 1) rfl)) rfl dX6_warmest_25 ?_
    refine g_get (ci := 4) (v := .ref (x 2)) (C := RX4) (T := TX4) (N := 12) hx hb hts hinX4 hown hK hP 1 rfl rfl 0 (by decide) (hts (.fieldLink RX6 75 "ChargeStages$State" "settings" "[I") (List.mem_of_getElem? (i := 3) rfl)) rfl dX6_warmest_28 ?_
    refine lv_bipush (v := 6) hx hb dX6_warmest_31 (by decide) ?_
    refine g_ld (n := 9) (f := st) (v := st 6) (k := 6) hx hb hK hP 2 rfl (by decide) (by unfold vp_in; decide) rfl dX6_warmest_33 ?_
    obtain ⟨v3, ev3, hR, hok⟩ := g_let2 hR hok
    refine g_topE ev3.symm ?_
    refine lv_istore_n (lv' := [(2, .int v3), (1, .int v2), (0, .ref (x 0))]) hx hb dX6_warmest_34 rfl hl (by decide) rfl (fun ls hl => ?_)
    have lp35 : ∀ (n : Nat) (x35_2 : Int32) (w35_6 : (Nat → Int32)) (w35_7 : (Nat → Int32)) (w35_8 : (Nat → Nat → Int32)) (w35_9 : (Nat → Nat → Int32)) (w35_10 : (Nat → Nat → Int32)) (H : Heap) (locs : List Loc) (ls : Array Slot), R = fl_X6_warmest_35 o st b pf g v2 n x35_2 w35_6 w35_7 w35_8 w35_9 w35_10 → okl_X6_warmest_35 o st b pf g v2 n x35_2 w35_6 w35_7 w35_8 w35_9 w35_10 → va_P G.1 vwCl (List.flatten [CW G x cx, OW G (fun k => x (k + 1)) o, AW G (x 2) 9 st, BW G (fun k => x (k + 3)) b, PW G (fun k => x (k + 11)) pf, LW G (fun k => x (k + 16)) g, OW G (fun k => x (k + 20)) w35_6, AW G (x 21) 9 w35_7, BW G (fun k => x (k + 22)) w35_8, PW G (fun k => x (k + 30)) w35_9, LW G (fun k => x (k + 35)) w35_10]) H → va_D A (List.flatten [CW G x cx, OW G (fun k => x (k + 1)) o, AW G (x 2) 9 st, BW G (fun k => x (k + 3)) b, PW G (fun k => x (k + 11)) pf, LW G (fun k => x (k + 16)) g, OW G (fun k => x (k + 20)) w35_6, AW G (x 21) 9 w35_7, BW G (fun k => x (k + 22)) w35_8, PW G (fun k => x (k + 30)) w35_9, LW G (fun k => x (k + 35)) w35_10]) → va_S A s.heap H locs → lv_has ls 3 [(0, .ref (x 0)), (1, .int v2), (2, .int x35_2)] → W p l e { frames := 7, cells := 0, slots := 0, locals := 142 } s m (List.toArray [.ref (x 0)]) below meth c H locs 0 0 (gQ G below (List.toArray [.ref (x 0)]) s (some (.int R.1)) [CW G x cx, OW G (fun k => x (k + 1)) o, AW G (x 2) 9 st, BW G (fun k => x (k + 3)) b, PW G (fun k => x (k + 11)) pf, LW G (fun k => x (k + 16)) g, OW G (fun k => x (k + 20)) R.2.1, AW G (x 21) 9 R.2.2.1, BW G (fun k => x (k + 22)) R.2.2.2.1, PW G (fun k => x (k + 30)) R.2.2.2.2.1, LW G (fun k => x (k + 35)) R.2.2.2.2.2] A) (F0 m 35 ls []) := by
      intro n
      induction n with
      | zero =>
        intro x35_2 w35_6 w35_7 w35_8 w35_9 w35_10 H locs ls hR hok hP hD hS hl
        rw [okl_X6_warmest_35] at hok
        exact hok.elim
      | succ n ih =>
        intro x35_2 w35_6 w35_7 w35_8 w35_9 w35_10 H locs ls hR hok hP hD hS hl
        rw [fl_X6_warmest_35] at hR
        rw [okl_X6_warmest_35] at hok
        refine lv_iload_n hx hb dX6_warmest_35 rfl (lv_at hl 2 rfl) ?_
        refine lv_iload_n hx hb dX6_warmest_36 rfl (lv_at hl 1 rfl) ?_
        refine lv_icmp_lt (tgt := 88) hx hb dX6_warmest_37 (by decide) (fun c11 => ?_) (fun c11 => ?_)
        · rw [if_pos c11] at hR
          have hok := hok.1 c11
          refine lv_bipush (v := (-5)) hx hb dX6_warmest_88 (by decide) ?_
          subst hR
          exact g_ret hx hb hr hlocks hS dX6_warmest_90 rfl hP
        · rw [if_neg c11] at hR
          have hok := hok.2 c11
          refine lv_aload_n hx hb dX6_warmest_40 rfl (lv_at hl 0 rfl) ?_
          refine g_get (ci := 6) (v := .ref (x 20)) (C := RX6) (T := TX6) (N := 7) hx hb hts hinX6 hown hK hP 0 rfl rfl 1 (by decide) (hts (.fieldLink RX6 16 "ChargeStages" "forecast" "LChargeStages$State;") (List.mem_of_getElem? (i := 4) rfl)) rfl dX6_warmest_41 ?_
          refine lv_aload_n hx hb dX6_warmest_44 rfl (lv_at hl 0 rfl) ?_
          refine g_get (ci := 6) (v := .ref (x 1)) (C := RX6) (T := TX6) (N := 7) hx hb hts hinX6 hown hK hP 0 rfl rfl 0 (by decide) (hts (.fieldLink RX6 10 "ChargeStages" "now" "LChargeStages$State;") (List.mem_of_getElem? (i := 1) rfl)) rfl dX6_warmest_45 ?_
          obtain ⟨k12, hok⟩ := hok
          refine g_callV (c_X4_copyFrom l G (fun k => x (k + 20)) (fun k => x (k + 1)) w35_6 w35_7 w35_8 w35_9 w35_10 o st b pf g k12) hx hb hml hown hts hK hP hD hS hA gX6_warmest_X4_copyFrom rfl (n := 1) (by decide +kernel) rfl ⟨Nat.le_of_ble_eq_true rfl, Nat.le_of_ble_eq_true rfl⟩ [6, 7, 8, 9, 10, 1, 2, 3, 4, 5] rfl (by decide) 20 rfl (ci := 4) rfl hl.1 rfl (Nat.le_of_ble_eq_true rfl) ⟨Nat.zero_le _, Nat.zero_le _⟩ dX6_warmest_48 (fun H locs hP hD hS => ?_)
          have hP : va_P G.1 vwCl (List.flatten [CW G x cx, OW G (fun k => x (k + 1)) o, AW G (x 2) 9 st, BW G (fun k => x (k + 3)) b, PW G (fun k => x (k + 11)) pf, LW G (fun k => x (k + 16)) g, OW G (fun k => x (k + 20)) o, AW G (x 21) 9 st, BW G (fun k => x (k + 22)) b, PW G (fun k => x (k + 30)) pf, LW G (fun k => x (k + 35)) g]) H := hP
          have hD : va_D A (List.flatten [CW G x cx, OW G (fun k => x (k + 1)) o, AW G (x 2) 9 st, BW G (fun k => x (k + 3)) b, PW G (fun k => x (k + 11)) pf, LW G (fun k => x (k + 16)) g, OW G (fun k => x (k + 20)) o, AW G (x 21) 9 st, BW G (fun k => x (k + 22)) b, PW G (fun k => x (k + 30)) pf, LW G (fun k => x (k + 35)) g]) := hD
          refine lv_aload_n hx hb dX6_warmest_51 rfl (lv_at hl 0 rfl) ?_
          refine g_get (ci := 6) (v := .ref (x 20)) (C := RX6) (T := TX6) (N := 7) hx hb hts hinX6 hown hK hP 0 rfl rfl 1 (by decide) (hts (.fieldLink RX6 16 "ChargeStages" "forecast" "LChargeStages$State;") (List.mem_of_getElem? (i := 4) rfl)) rfl dX6_warmest_52 ?_
          refine g_get (ci := 4) (v := .ref (x 21)) (C := RX4) (T := TX4) (N := 12) hx hb hts hinX4 hown hK hP 20 rfl rfl 0 (by decide) (hts (.fieldLink RX6 75 "ChargeStages$State" "settings" "[I") (List.mem_of_getElem? (i := 3) rfl)) rfl dX6_warmest_55 ?_
          refine lv_iconst (v := 3) hx hb dX6_warmest_58 (by decide) ?_
          refine lv_iload_n hx hb dX6_warmest_59 rfl (lv_at hl 2 rfl) ?_
          obtain ⟨z13, ez13, hR, hok⟩ := g_let2 hR hok
          refine g_st (n := 9) (f := st) (k := 3) (B2 := [CW G x cx, OW G (fun k => x (k + 1)) o, AW G (x 2) 9 st, BW G (fun k => x (k + 3)) b, PW G (fun k => x (k + 11)) pf, LW G (fun k => x (k + 16)) g, OW G (fun k => x (k + 20)) o, AW G (x 21) 9 z13, BW G (fun k => x (k + 22)) b, PW G (fun k => x (k + 30)) pf, LW G (fun k => x (k + 35)) g]) hx hb hK hP hD hS 21 rfl (by decide) (by unfold vp_in; decide) (by subst ez13; rfl) dX6_warmest_60 (fun H locs hP hD hS => ?_)
          refine lv_aload_n hx hb dX6_warmest_61 rfl (lv_at hl 0 rfl) ?_
          refine g_get (ci := 6) (v := .ref (x 20)) (C := RX6) (T := TX6) (N := 7) hx hb hts hinX6 hown hK hP 0 rfl rfl 1 (by decide) (hts (.fieldLink RX6 16 "ChargeStages" "forecast" "LChargeStages$State;") (List.mem_of_getElem? (i := 4) rfl)) rfl dX6_warmest_62 ?_
          refine lv_sipush (v := 500) hx hb dX6_warmest_65 (by decide) ?_
          obtain ⟨k15, hok⟩ := hok
          obtain ⟨R14, eR14, hR, hok⟩ := g_let2 hR hok
          refine g_callV (c_X4_runUntilDone l G (fun k => x (k + 20)) o z13 b pf g 500 R14 eR14 k15) hx hb hml hown hts hK hP hD hS hA gX6_warmest_X4_runUntilDone rfl (n := 1) (by decide +kernel) rfl ⟨Nat.le_of_ble_eq_true rfl, Nat.le_of_ble_eq_true rfl⟩ [6, 7, 8, 9, 10] rfl (by decide) 20 rfl (ci := 4) rfl hl.1 rfl (Nat.le_of_ble_eq_true rfl) ⟨Nat.zero_le _, Nat.zero_le _⟩ dX6_warmest_68 (fun H locs hP hD hS => ?_)
          have hP : va_P G.1 vwCl (List.flatten [CW G x cx, OW G (fun k => x (k + 1)) o, AW G (x 2) 9 st, BW G (fun k => x (k + 3)) b, PW G (fun k => x (k + 11)) pf, LW G (fun k => x (k + 16)) g, OW G (fun k => x (k + 20)) R14.2.1, AW G (x 21) 9 z13, BW G (fun k => x (k + 22)) R14.2.2.1, PW G (fun k => x (k + 30)) pf, LW G (fun k => x (k + 35)) R14.2.2.2]) H := hP
          have hD : va_D A (List.flatten [CW G x cx, OW G (fun k => x (k + 1)) o, AW G (x 2) 9 st, BW G (fun k => x (k + 3)) b, PW G (fun k => x (k + 11)) pf, LW G (fun k => x (k + 16)) g, OW G (fun k => x (k + 20)) R14.2.1, AW G (x 21) 9 z13, BW G (fun k => x (k + 22)) R14.2.2.1, PW G (fun k => x (k + 30)) pf, LW G (fun k => x (k + 35)) R14.2.2.2]) := hD
          refine lv_bipush (v := (-5)) hx hb dX6_warmest_71 (by decide) ?_
          refine lv_icmp_eq (tgt := 82) hx hb dX6_warmest_73 (by decide) (fun c16 => ?_) (fun c16 => ?_)
          · rw [if_pos c16] at hR
            have hok := hok.1 c16
            obtain ⟨v17, ev17, hR, hok⟩ := g_let2 hR hok
            refine lv_iinc (v := v17) (lv' := [(2, .int v17), (0, .ref (x 0)), (1, .int v2)]) hx hb dX6_warmest_82 hl (k := 2) rfl (by subst ev17; rfl) (by decide) rfl (fun ls hl => ?_)
            refine lv_goto (tgt := 35) hx hb dX6_warmest_85 (by decide) ?_
            exact ih v17 R14.2.1 z13 R14.2.2.1 pf R14.2.2.2 _ _ _ hR hok hP hD hS (lv_sub hl [1, 2, 0] rfl)
          · rw [if_neg c16] at hR
            have hok := hok.2 c16
            refine lv_iload_n hx hb dX6_warmest_76 rfl (lv_at hl 2 rfl) ?_
            refine lv_sipush (v := 1000) hx hb dX6_warmest_77 (by decide) ?_
            refine lv_iadd hx hb dX6_warmest_80 ?_
            subst hR
            exact g_ret hx hb hr hlocks hS dX6_warmest_81 rfl hP
    exact lp35 113 v3 fo fst fb fp fg _ _ _ hR hok hP hD hS (lv_sub hl [2, 1, 0] rfl)
  · rw [if_neg c1] at hR
    have hok := hok.2 c1
    refine lv_bipush (v := (-4)) hx hb dX6_warmest_11 (by decide) ?_
    subst hR
    exact g_ret hx hb hr hlocks hS dX6_warmest_13 rfl hP
def f_X6_event (g : (Nat → Nat → Int32)) (p1 : Int32) (p2 : Int32) : Int32 := (if p1 < 0 then (-2) else (if p2 < 0 then (-2) else (if p2 ≤ 2 then (if p1 < ((g 0) 0) then (gL (f_X2_placeOf g p1) (fun (R5 : Int32) => (if p2 = 0 then (g 1) ((R5).toNatClampNeg) else (if p2 = 1 then (g 2) ((R5).toNatClampNeg) else (g 3) ((R5).toNatClampNeg))))) else (-5)) else (-2))))
def ok_X6_event (g : (Nat → Nat → Int32)) (p1 : Int32) (p2 : Int32) : Prop := ((p1 < 0 → True) ∧ (¬ p1 < 0 → ((p2 < 0 → True) ∧ (¬ p2 < 0 → ((p2 ≤ 2 → ((p1 < ((g 0) 0) → (ok_X2_placeOf ) ∧ (gL (f_X2_placeOf g p1) (fun (R5 : Int32) => ((p2 = 0 → (vp_in R5 10) ∧ True) ∧ (¬ p2 = 0 → ((p2 = 1 → (vp_in R5 10) ∧ True) ∧ (¬ p2 = 1 → (vp_in R5 10) ∧ True))))))) ∧ (¬ p1 < ((g 0) 0) → True))) ∧ (¬ p2 ≤ 2 → True))))))
set_option maxHeartbeats 4000000 in
set_option maxRecDepth 100000 in
theorem c_X6_event (l : Launch) (G : gG) (x : Nat → Nat) (cx : (Nat → Int32)) (o : (Nat → Int32)) (st : (Nat → Int32)) (b : (Nat → Nat → Int32)) (pf : (Nat → Nat → Int32)) (g : (Nat → Nat → Int32)) (p1 : Int32) (p2 : Int32) (R : Int32) (hR : R = f_X6_event g p1 p2) (hok : ok_X6_event g p1 p2) : CT l G yX6_event wsX6_event 2 43 [.ref (x 0), .int p1, .int p2] [CW G x cx, OW G (fun k => x (k + 1)) o, AW G (x 2) 9 st, BW G (fun k => x (k + 3)) b, PW G (fun k => x (k + 11)) pf, LW G (fun k => x (k + 16)) g] (some (.int R)) [CW G x cx, OW G (fun k => x (k + 1)) o, AW G (x 2) 9 st, BW G (fun k => x (k + 3)) b, PW G (fun k => x (k + 11)) pf, LW G (fun k => x (k + 16)) g] := by
  unfold f_X6_event at hR
  unfold ok_X6_event at hok
  refine CT.of (cc := cX6_event) (maxL := 4) (ret := (some .int)) (plainFor_of_name (by decide +kernel)) rfl rfl (Nat.le_of_ble_eq_true rfl) ?_
  intro p e s m below meth c A ls hx hb hml hr hts hown hlocks hK hP hD hA hS hl
  have hown : s.vm.findClass RX6 = some m.cls := hown
  have hl : lv_has ls 4 [(0, .ref (x 0)), (1, .int p1), (2, .int p2)] := hl
  have hinX2 : ∀ w ∈ wsX20, w ∈ wsX6_event := fun w h => List.mem_cons_of_mem _ (List.mem_append_right _ h)
  have hinX4 : ∀ w ∈ wsX40, w ∈ wsX6_event := fun w h => List.mem_cons_of_mem _ (List.mem_append_left _ (List.mem_append_right _ h))
  have hinX6 : ∀ w ∈ wsX60, w ∈ wsX6_event := fun w h => List.mem_cons_of_mem _ (List.mem_append_left _ (List.mem_append_left _ (List.mem_append_right _ h)))
  refine lv_iload_n hx hb dX6_event_0 rfl (lv_at hl 1 rfl) ?_
  refine lv_if_lt (tgt := 13) hx hb dX6_event_1 (by decide) (fun c1 => ?_) (fun c1 => ?_)
  · rw [if_pos c1] at hR
    have hok := hok.1 c1
    refine lv_bipush (v := (-2)) hx hb dX6_event_13 (by decide) ?_
    subst hR
    exact g_ret hx hb hr hlocks hS dX6_event_15 rfl hP
  · rw [if_neg c1] at hR
    have hok := hok.2 c1
    refine lv_iload_n hx hb dX6_event_4 rfl (lv_at hl 2 rfl) ?_
    refine lv_if_lt (tgt := 13) hx hb dX6_event_5 (by decide) (fun c2 => ?_) (fun c2 => ?_)
    · rw [if_pos c2] at hR
      have hok := hok.1 c2
      refine lv_bipush (v := (-2)) hx hb dX6_event_13 (by decide) ?_
      subst hR
      exact g_ret hx hb hr hlocks hS dX6_event_15 rfl hP
    · rw [if_neg c2] at hR
      have hok := hok.2 c2
      refine lv_iload_n hx hb dX6_event_8 rfl (lv_at hl 2 rfl) ?_
      refine lv_iconst (v := 2) hx hb dX6_event_9 (by decide) ?_
      refine lv_icmp_le (tgt := 16) hx hb dX6_event_10 (by decide) (fun c3 => ?_) (fun c3 => ?_)
      · rw [if_pos c3] at hR
        have hok := hok.1 c3
        refine lv_iload_n hx hb dX6_event_16 rfl (lv_at hl 1 rfl) ?_
        refine lv_aload_n hx hb dX6_event_17 rfl (lv_at hl 0 rfl) ?_
        refine g_get (ci := 6) (v := .ref (x 1)) (C := RX6) (T := TX6) (N := 7) hx hb hts hinX6 hown hK hP 0 rfl rfl 0 (by decide) (hts (.fieldLink RX6 10 "ChargeStages" "now" "LChargeStages$State;") (List.mem_of_getElem? (i := 1) rfl)) rfl dX6_event_18 ?_
        refine g_get (ci := 4) (v := .ref (x 16)) (C := RX4) (T := TX4) (N := 12) hx hb hts hinX4 hown hK hP 1 rfl rfl 3 (by decide) (hts (.fieldLink RX6 203 "ChargeStages$State" "log" "LChargeStages$Log;") (List.mem_of_getElem? (i := 2) rfl)) rfl dX6_event_21 ?_
        refine g_get (ci := 2) (v := .int ((g 0) 0)) (C := RX2) (T := TX2) (N := 5) hx hb hts hinX2 hown hK hP 16 rfl rfl 0 (by decide) (hts (.fieldLink RX6 207 "ChargeStages$Log" "events" "I") (List.mem_of_getElem? (i := 3) rfl)) rfl dX6_event_24 ?_
        refine lv_icmp_lt (tgt := 33) hx hb dX6_event_27 (by decide) (fun c4 => ?_) (fun c4 => ?_)
        · rw [if_pos c4] at hR
          have hok := hok.1 c4
          refine lv_aload_n hx hb dX6_event_33 rfl (lv_at hl 0 rfl) ?_
          refine g_get (ci := 6) (v := .ref (x 1)) (C := RX6) (T := TX6) (N := 7) hx hb hts hinX6 hown hK hP 0 rfl rfl 0 (by decide) (hts (.fieldLink RX6 10 "ChargeStages" "now" "LChargeStages$State;") (List.mem_of_getElem? (i := 1) rfl)) rfl dX6_event_34 ?_
          refine g_get (ci := 4) (v := .ref (x 16)) (C := RX4) (T := TX4) (N := 12) hx hb hts hinX4 hown hK hP 1 rfl rfl 3 (by decide) (hts (.fieldLink RX6 203 "ChargeStages$State" "log" "LChargeStages$Log;") (List.mem_of_getElem? (i := 2) rfl)) rfl dX6_event_37 ?_
          refine lv_iload_n hx hb dX6_event_40 rfl (lv_at hl 1 rfl) ?_
          obtain ⟨k6, hok⟩ := hok
          obtain ⟨R5, eR5, hR, hok⟩ := g_let2 hR hok
          refine g_callV (c_X2_placeOf l G (fun k => x (k + 16)) g p1 R5 eR5 k6) hx hb hml hown hts hK hP hD hS hA gX6_event_X2_placeOf rfl (n := 1) (by decide +kernel) rfl ⟨Nat.le_of_ble_eq_true rfl, Nat.le_of_ble_eq_true rfl⟩ [5] rfl (by decide) 16 rfl (ci := 2) rfl hl.1 rfl (Nat.le_of_ble_eq_true rfl) ⟨Nat.zero_le _, Nat.zero_le _⟩ dX6_event_41 (fun H locs hP hD hS => ?_)
          have hP : va_P G.1 vwCl (List.flatten [CW G x cx, OW G (fun k => x (k + 1)) o, AW G (x 2) 9 st, BW G (fun k => x (k + 3)) b, PW G (fun k => x (k + 11)) pf, LW G (fun k => x (k + 16)) g]) H := hP
          have hD : va_D A (List.flatten [CW G x cx, OW G (fun k => x (k + 1)) o, AW G (x 2) 9 st, BW G (fun k => x (k + 3)) b, PW G (fun k => x (k + 11)) pf, LW G (fun k => x (k + 16)) g]) := hD
          refine lv_istore_n (lv' := [(3, .int R5), (0, .ref (x 0)), (1, .int p1), (2, .int p2)]) hx hb dX6_event_44 rfl hl (by decide) rfl (fun ls hl => ?_)
          refine lv_iload_n hx hb dX6_event_45 rfl (lv_at hl 3 rfl) ?_
          by_cases c7 : p2 = 0
          · rw [if_pos c7] at hR
            have hok := hok.1 c7
            refine lv_lookup (tgt := 72) (off := 26) hx hb dX6_event_46 (by decide) (by rw [c7]; rfl) (by decide) ?_
            refine lv_aload_n hx hb dX6_event_72 rfl (lv_at hl 1 rfl) ?_
            refine g_get (ci := 6) (v := .ref (x 1)) (C := RX6) (T := TX6) (N := 7) hx hb hts hinX6 hown hK hP 0 rfl rfl 0 (by decide) (hts (.fieldLink RX6 10 "ChargeStages" "now" "LChargeStages$State;") (List.mem_of_getElem? (i := 1) rfl)) rfl dX6_event_73 ?_
            refine g_get (ci := 4) (v := .ref (x 16)) (C := RX4) (T := TX4) (N := 12) hx hb hts hinX4 hown hK hP 1 rfl rfl 3 (by decide) (hts (.fieldLink RX6 203 "ChargeStages$State" "log" "LChargeStages$Log;") (List.mem_of_getElem? (i := 2) rfl)) rfl dX6_event_76 ?_
            refine g_get (ci := 2) (v := .ref (x 17)) (C := RX2) (T := TX2) (N := 5) hx hb hts hinX2 hown hK hP 16 rfl rfl 2 (by decide) (hts (.fieldLink RX6 215 "ChargeStages$Log" "kind" "[I") (List.mem_of_getElem? (i := 4) rfl)) rfl dX6_event_79 ?_
            refine lv_iload_n hx hb dX6_event_82 rfl (lv_at hl 0 rfl) ?_
            obtain ⟨k8, hok⟩ := hok
            refine g_ld (n := 10) (f := (g 1)) (v := (g 1) ((R5).toNatClampNeg)) (k := ((R5).toNatClampNeg)) hx hb hK hP 17 rfl rfl k8 rfl dX6_event_83 ?_
            subst hR
            exact g_ret hx hb hr hlocks hS dX6_event_84 rfl hP
          · rw [if_neg c7] at hR
            have hok := hok.2 c7
            by_cases c9 : p2 = 1
            · rw [if_pos c9] at hR
              have hok := hok.1 c9
              refine lv_lookup (tgt := 85) (off := 39) hx hb dX6_event_46 (by decide) (by rw [c9]; rfl) (by decide) ?_
              refine lv_aload_n hx hb dX6_event_85 rfl (lv_at hl 1 rfl) ?_
              refine g_get (ci := 6) (v := .ref (x 1)) (C := RX6) (T := TX6) (N := 7) hx hb hts hinX6 hown hK hP 0 rfl rfl 0 (by decide) (hts (.fieldLink RX6 10 "ChargeStages" "now" "LChargeStages$State;") (List.mem_of_getElem? (i := 1) rfl)) rfl dX6_event_86 ?_
              refine g_get (ci := 4) (v := .ref (x 16)) (C := RX4) (T := TX4) (N := 12) hx hb hts hinX4 hown hK hP 1 rfl rfl 3 (by decide) (hts (.fieldLink RX6 203 "ChargeStages$State" "log" "LChargeStages$Log;") (List.mem_of_getElem? (i := 2) rfl)) rfl dX6_event_89 ?_
              refine g_get (ci := 2) (v := .ref (x 18)) (C := RX2) (T := TX2) (N := 5) hx hb hts hinX2 hown hK hP 16 rfl rfl 3 (by decide) (hts (.fieldLink RX6 216 "ChargeStages$Log" "tick" "[I") (List.mem_of_getElem? (i := 5) rfl)) rfl dX6_event_92 ?_
              refine lv_iload_n hx hb dX6_event_95 rfl (lv_at hl 0 rfl) ?_
              obtain ⟨k10, hok⟩ := hok
              refine g_ld (n := 10) (f := (g 2)) (v := (g 2) ((R5).toNatClampNeg)) (k := ((R5).toNatClampNeg)) hx hb hK hP 18 rfl rfl k10 rfl dX6_event_96 ?_
              subst hR
              exact g_ret hx hb hr hlocks hS dX6_event_97 rfl hP
            · rw [if_neg c9] at hR
              have hok := hok.2 c9
              refine lv_lookup (tgt := 98) (off := 52) hx hb dX6_event_46 (by decide) (g_lk2 c7 c9) (by decide) ?_
              refine lv_aload_n hx hb dX6_event_98 rfl (lv_at hl 1 rfl) ?_
              refine g_get (ci := 6) (v := .ref (x 1)) (C := RX6) (T := TX6) (N := 7) hx hb hts hinX6 hown hK hP 0 rfl rfl 0 (by decide) (hts (.fieldLink RX6 10 "ChargeStages" "now" "LChargeStages$State;") (List.mem_of_getElem? (i := 1) rfl)) rfl dX6_event_99 ?_
              refine g_get (ci := 4) (v := .ref (x 16)) (C := RX4) (T := TX4) (N := 12) hx hb hts hinX4 hown hK hP 1 rfl rfl 3 (by decide) (hts (.fieldLink RX6 203 "ChargeStages$State" "log" "LChargeStages$Log;") (List.mem_of_getElem? (i := 2) rfl)) rfl dX6_event_102 ?_
              refine g_get (ci := 2) (v := .ref (x 19)) (C := RX2) (T := TX2) (N := 5) hx hb hts hinX2 hown hK hP 16 rfl rfl 4 (by decide) (hts (.fieldLink RX6 218 "ChargeStages$Log" "stage" "[I") (List.mem_of_getElem? (i := 6) rfl)) rfl dX6_event_105 ?_
              refine lv_iload_n hx hb dX6_event_108 rfl (lv_at hl 0 rfl) ?_
              obtain ⟨k11, hok⟩ := hok
              refine g_ld (n := 10) (f := (g 3)) (v := (g 3) ((R5).toNatClampNeg)) (k := ((R5).toNatClampNeg)) hx hb hK hP 19 rfl rfl k11 rfl dX6_event_109 ?_
              subst hR
              exact g_ret hx hb hr hlocks hS dX6_event_110 rfl hP
        · rw [if_neg c4] at hR
          have hok := hok.2 c4
          refine lv_bipush (v := (-5)) hx hb dX6_event_30 (by decide) ?_
          subst hR
          exact g_ret hx hb hr hlocks hS dX6_event_32 rfl hP
      · rw [if_neg c3] at hR
        have hok := hok.2 c3
        refine lv_bipush (v := (-2)) hx hb dX6_event_13 (by decide) ?_
        subst hR
        exact g_ret hx hb hr hlocks hS dX6_event_15 rfl hP
def f_X6_count (o : (Nat → Int32)) (st : (Nat → Int32)) (b : (Nat → Nat → Int32)) (pf : (Nat → Nat → Int32)) (hh : HVal) (t : (Nat → Nat → Int32)) (p1 : Int32) : Int32 := (if p1 = 0 then o 3 else (if p1 = 1 then (b 0) 0 else (if p1 = 2 then (pf 0) 0 else (if p1 = 3 then o 0 else (if p1 = 4 then (if (o 0) = 1 then o 1 else (-5)) else (if p1 = 5 then (if (o 0) = 1 then o 2 else 0) else (if p1 = 6 then o 4 else (if p1 = 7 then (gL (f_X0_leastCharge b) (fun (R11 : Int32) => R11)) else (if p1 = 8 then (gL (f_X0_greatestCharge b) (fun (R14 : Int32) => R14)) else (if p1 = 9 then (gL (f_X4_isPaused o st) (fun (R17 : Int32) => (if R17 = 0 then 0 else 1))) else (if p1 = 10 then o 6 else (if p1 = 11 then o 7 else (if p1 = 12 then nI hh.1 else (if p1 = 13 then (t 0) 0 else (-2)))))))))))))))
def ok_X6_count (b : (Nat → Nat → Int32)) (p1 : Int32) : Prop := ((p1 = 0 → True) ∧ (¬ p1 = 0 → ((p1 = 1 → True) ∧ (¬ p1 = 1 → ((p1 = 2 → True) ∧ (¬ p1 = 2 → ((p1 = 3 → True) ∧ (¬ p1 = 3 → ((p1 = 4 → True) ∧ (¬ p1 = 4 → ((p1 = 5 → True) ∧ (¬ p1 = 5 → ((p1 = 6 → True) ∧ (¬ p1 = 6 → ((p1 = 7 → (ok_X0_leastCharge b) ∧ True) ∧ (¬ p1 = 7 → ((p1 = 8 → (ok_X0_greatestCharge b) ∧ True) ∧ (¬ p1 = 8 → True))))))))))))))))))
set_option maxHeartbeats 4000000 in
set_option maxRecDepth 100000 in
theorem c_X6_count (l : Launch) (G : gG) (x : Nat → Nat) (cx : (Nat → Int32)) (o : (Nat → Int32)) (st : (Nat → Int32)) (b : (Nat → Nat → Int32)) (pf : (Nat → Nat → Int32)) (g : (Nat → Nat → Int32)) (hh : HVal) (t : (Nat → Nat → Int32)) (p1 : Int32) (R : Int32) (hR : R = f_X6_count o st b pf hh t p1) (hok : ok_X6_count b p1) : CT l G yX6_count wsX6_count 2 42 [.ref (x 0), .int p1] [CW G x cx, OW G (fun k => x (k + 1)) o, AW G (x 2) 9 st, BW G (fun k => x (k + 3)) b, PW G (fun k => x (k + 11)) pf, LW G (fun k => x (k + 16)) g, HGW G (fun k => x (k + 58)) hh, TW G (fun k => x (k + 136)) t] (some (.int R)) [CW G x cx, OW G (fun k => x (k + 1)) o, AW G (x 2) 9 st, BW G (fun k => x (k + 3)) b, PW G (fun k => x (k + 11)) pf, LW G (fun k => x (k + 16)) g, HGW G (fun k => x (k + 58)) hh, TW G (fun k => x (k + 136)) t] := by
  unfold f_X6_count at hR
  unfold ok_X6_count at hok
  refine CT.of (cc := cX6_count) (maxL := 2) (ret := (some .int)) (plainFor_of_name (by decide +kernel)) rfl rfl (Nat.le_of_ble_eq_true rfl) ?_
  intro p e s m below meth c A ls hx hb hml hr hts hown hlocks hK hP hD hA hS hl
  have hown : s.vm.findClass RX6 = some m.cls := hown
  have hl : lv_has ls 2 [(0, .ref (x 0)), (1, .int p1)] := hl
  have hinX0 : ∀ w ∈ wsX00, w ∈ wsX6_count := fun w h => List.mem_cons_of_mem _ (List.mem_append_left _ (List.mem_append_left _ (List.mem_append_left _ (List.mem_append_right _ h))))
  have hinX1 : ∀ w ∈ wsX10, w ∈ wsX6_count := fun w h => List.mem_cons_of_mem _ (List.mem_append_left _ (List.mem_append_right _ h))
  have hinX3 : ∀ w ∈ wsX30, w ∈ wsX6_count := fun w h => List.mem_cons_of_mem _ (List.mem_append_left _ (List.mem_append_left _ (List.mem_append_right _ h)))
  have hinX4 : ∀ w ∈ wsX40, w ∈ wsX6_count := fun w h => List.mem_cons_of_mem _ (List.mem_append_left _ (List.mem_append_left _ (List.mem_append_left _ (List.mem_append_left _ (List.mem_append_right _ h)))))
  have hinX5 : ∀ w ∈ wsX50, w ∈ wsX6_count := fun w h => List.mem_cons_of_mem _ (List.mem_append_right _ h)
  have hinX6 : ∀ w ∈ wsX60, w ∈ wsX6_count := fun w h => List.mem_cons_of_mem _ (List.mem_append_left _ (List.mem_append_left _ (List.mem_append_left _ (List.mem_append_left _ (List.mem_append_left _ (List.mem_append_right _ h))))))
  refine lv_iload_n hx hb dX6_count_0 rfl (lv_at hl 1 rfl) ?_
  by_cases c1 : p1 = 0
  · rw [if_pos c1] at hR
    have hok := hok.1 c1
    refine lv_tableIn (off := 71) (tgt := 72) hx hb dX6_count_1 (by rw [c1]; decide) (by rw [c1]; decide) (by rw [c1]; rfl) (by decide) ?_
    refine lv_aload_n hx hb dX6_count_72 rfl (lv_at hl 0 rfl) ?_
    refine g_get (ci := 6) (v := .ref (x 1)) (C := RX6) (T := TX6) (N := 7) hx hb hts hinX6 hown hK hP 0 rfl rfl 0 (by decide) (hts (.fieldLink RX6 10 "ChargeStages" "now" "LChargeStages$State;") (List.mem_of_getElem? (i := 1) rfl)) rfl dX6_count_73 ?_
    refine g_get (ci := 4) (v := .int (o 3)) (C := RX4) (T := TX4) (N := 12) hx hb hts hinX4 hown hK hP 1 rfl rfl 7 (by decide) (hts (.fieldLink RX6 129 "ChargeStages$State" "tick" "I") (List.mem_of_getElem? (i := 2) rfl)) rfl dX6_count_76 ?_
    subst hR
    exact g_ret hx hb hr hlocks hS dX6_count_79 rfl hP
  · rw [if_neg c1] at hR
    have hok := hok.2 c1
    by_cases c2 : p1 = 1
    · rw [if_pos c2] at hR
      have hok := hok.1 c2
      refine lv_tableIn (off := 79) (tgt := 80) hx hb dX6_count_1 (by rw [c2]; decide) (by rw [c2]; decide) (by rw [c2]; rfl) (by decide) ?_
      refine lv_aload_n hx hb dX6_count_80 rfl (lv_at hl 0 rfl) ?_
      refine g_get (ci := 6) (v := .ref (x 1)) (C := RX6) (T := TX6) (N := 7) hx hb hts hinX6 hown hK hP 0 rfl rfl 0 (by decide) (hts (.fieldLink RX6 10 "ChargeStages" "now" "LChargeStages$State;") (List.mem_of_getElem? (i := 1) rfl)) rfl dX6_count_81 ?_
      refine g_get (ci := 4) (v := .ref (x 3)) (C := RX4) (T := TX4) (N := 12) hx hb hts hinX4 hown hK hP 1 rfl rfl 1 (by decide) (hts (.fieldLink RX6 50 "ChargeStages$State" "row" "LChargeStages$Battery;") (List.mem_of_getElem? (i := 3) rfl)) rfl dX6_count_84 ?_
      refine g_get (ci := 0) (v := .int ((b 0) 0)) (C := RX0) (T := TX0) (N := 8) hx hb hts hinX0 hown hK hP 3 rfl rfl 0 (by decide) (hts (.fieldLink RX6 54 "ChargeStages$Battery" "cells" "I") (List.mem_of_getElem? (i := 4) rfl)) rfl dX6_count_87 ?_
      subst hR
      exact g_ret hx hb hr hlocks hS dX6_count_90 rfl hP
    · rw [if_neg c2] at hR
      have hok := hok.2 c2
      by_cases c3 : p1 = 2
      · rw [if_pos c3] at hR
        have hok := hok.1 c3
        refine lv_tableIn (off := 90) (tgt := 91) hx hb dX6_count_1 (by rw [c3]; decide) (by rw [c3]; decide) (by rw [c3]; rfl) (by decide) ?_
        refine lv_aload_n hx hb dX6_count_91 rfl (lv_at hl 0 rfl) ?_
        refine g_get (ci := 6) (v := .ref (x 1)) (C := RX6) (T := TX6) (N := 7) hx hb hts hinX6 hown hK hP 0 rfl rfl 0 (by decide) (hts (.fieldLink RX6 10 "ChargeStages" "now" "LChargeStages$State;") (List.mem_of_getElem? (i := 1) rfl)) rfl dX6_count_92 ?_
        refine g_get (ci := 4) (v := .ref (x 11)) (C := RX4) (T := TX4) (N := 12) hx hb hts hinX4 hown hK hP 1 rfl rfl 2 (by decide) (hts (.fieldLink RX6 116 "ChargeStages$State" "profile" "LChargeStages$Profile;") (List.mem_of_getElem? (i := 5) rfl)) rfl dX6_count_95 ?_
        refine g_get (ci := 3) (v := .int ((pf 0) 0)) (C := RX3) (T := TX3) (N := 5) hx hb hts hinX3 hown hK hP 11 rfl rfl 0 (by decide) (hts (.fieldLink RX6 123 "ChargeStages$Profile" "stages" "I") (List.mem_of_getElem? (i := 6) rfl)) rfl dX6_count_98 ?_
        subst hR
        exact g_ret hx hb hr hlocks hS dX6_count_101 rfl hP
      · rw [if_neg c3] at hR
        have hok := hok.2 c3
        by_cases c4 : p1 = 3
        · rw [if_pos c4] at hR
          have hok := hok.1 c4
          refine lv_tableIn (off := 101) (tgt := 102) hx hb dX6_count_1 (by rw [c4]; decide) (by rw [c4]; decide) (by rw [c4]; rfl) (by decide) ?_
          refine lv_aload_n hx hb dX6_count_102 rfl (lv_at hl 0 rfl) ?_
          refine g_get (ci := 6) (v := .ref (x 1)) (C := RX6) (T := TX6) (N := 7) hx hb hts hinX6 hown hK hP 0 rfl rfl 0 (by decide) (hts (.fieldLink RX6 10 "ChargeStages" "now" "LChargeStages$State;") (List.mem_of_getElem? (i := 1) rfl)) rfl dX6_count_103 ?_
          refine g_get (ci := 4) (v := .int (o 0)) (C := RX4) (T := TX4) (N := 12) hx hb hts hinX4 hown hK hP 1 rfl rfl 4 (by decide) (hts (.fieldLink RX6 68 "ChargeStages$State" "mode" "I") (List.mem_of_getElem? (i := 7) rfl)) rfl dX6_count_106 ?_
          subst hR
          exact g_ret hx hb hr hlocks hS dX6_count_109 rfl hP
        · rw [if_neg c4] at hR
          have hok := hok.2 c4
          by_cases c5 : p1 = 4
          · rw [if_pos c5] at hR
            have hok := hok.1 c5
            refine lv_tableIn (off := 109) (tgt := 110) hx hb dX6_count_1 (by rw [c5]; decide) (by rw [c5]; decide) (by rw [c5]; rfl) (by decide) ?_
            refine lv_aload_n hx hb dX6_count_110 rfl (lv_at hl 0 rfl) ?_
            refine g_get (ci := 6) (v := .ref (x 1)) (C := RX6) (T := TX6) (N := 7) hx hb hts hinX6 hown hK hP 0 rfl rfl 0 (by decide) (hts (.fieldLink RX6 10 "ChargeStages" "now" "LChargeStages$State;") (List.mem_of_getElem? (i := 1) rfl)) rfl dX6_count_111 ?_
            refine g_get (ci := 4) (v := .int (o 0)) (C := RX4) (T := TX4) (N := 12) hx hb hts hinX4 hown hK hP 1 rfl rfl 4 (by decide) (hts (.fieldLink RX6 68 "ChargeStages$State" "mode" "I") (List.mem_of_getElem? (i := 7) rfl)) rfl dX6_count_114 ?_
            refine lv_iconst (v := 1) hx hb dX6_count_117 (by decide) ?_
            refine lv_icmp_ne (tgt := 131) hx hb dX6_count_118 (by decide) (fun c6 => ?_) (fun c6 => ?_)
            · rw [if_neg c6] at hR
              refine lv_bipush (v := (-5)) hx hb dX6_count_131 (by decide) ?_
              subst hR
              exact g_ret hx hb hr hlocks hS dX6_count_133 rfl hP
            · rw [if_pos c6] at hR
              refine lv_aload_n hx hb dX6_count_121 rfl (lv_at hl 0 rfl) ?_
              refine g_get (ci := 6) (v := .ref (x 1)) (C := RX6) (T := TX6) (N := 7) hx hb hts hinX6 hown hK hP 0 rfl rfl 0 (by decide) (hts (.fieldLink RX6 10 "ChargeStages" "now" "LChargeStages$State;") (List.mem_of_getElem? (i := 1) rfl)) rfl dX6_count_122 ?_
              refine g_get (ci := 4) (v := .int (o 1)) (C := RX4) (T := TX4) (N := 12) hx hb hts hinX4 hown hK hP 1 rfl rfl 5 (by decide) (hts (.fieldLink RX6 221 "ChargeStages$State" "stage" "I") (List.mem_of_getElem? (i := 8) rfl)) rfl dX6_count_125 ?_
              refine lv_goto (tgt := 133) hx hb dX6_count_128 (by decide) ?_
              subst hR
              exact g_ret hx hb hr hlocks hS dX6_count_133 rfl hP
          · rw [if_neg c5] at hR
            have hok := hok.2 c5
            by_cases c7 : p1 = 5
            · rw [if_pos c7] at hR
              have hok := hok.1 c7
              refine lv_tableIn (off := 133) (tgt := 134) hx hb dX6_count_1 (by rw [c7]; decide) (by rw [c7]; decide) (by rw [c7]; rfl) (by decide) ?_
              refine lv_aload_n hx hb dX6_count_134 rfl (lv_at hl 0 rfl) ?_
              refine g_get (ci := 6) (v := .ref (x 1)) (C := RX6) (T := TX6) (N := 7) hx hb hts hinX6 hown hK hP 0 rfl rfl 0 (by decide) (hts (.fieldLink RX6 10 "ChargeStages" "now" "LChargeStages$State;") (List.mem_of_getElem? (i := 1) rfl)) rfl dX6_count_135 ?_
              refine g_get (ci := 4) (v := .int (o 0)) (C := RX4) (T := TX4) (N := 12) hx hb hts hinX4 hown hK hP 1 rfl rfl 4 (by decide) (hts (.fieldLink RX6 68 "ChargeStages$State" "mode" "I") (List.mem_of_getElem? (i := 7) rfl)) rfl dX6_count_138 ?_
              refine lv_iconst (v := 1) hx hb dX6_count_141 (by decide) ?_
              refine lv_icmp_ne (tgt := 155) hx hb dX6_count_142 (by decide) (fun c8 => ?_) (fun c8 => ?_)
              · rw [if_neg c8] at hR
                refine lv_iconst (v := 0) hx hb dX6_count_155 (by decide) ?_
                subst hR
                exact g_ret hx hb hr hlocks hS dX6_count_156 rfl hP
              · rw [if_pos c8] at hR
                refine lv_aload_n hx hb dX6_count_145 rfl (lv_at hl 0 rfl) ?_
                refine g_get (ci := 6) (v := .ref (x 1)) (C := RX6) (T := TX6) (N := 7) hx hb hts hinX6 hown hK hP 0 rfl rfl 0 (by decide) (hts (.fieldLink RX6 10 "ChargeStages" "now" "LChargeStages$State;") (List.mem_of_getElem? (i := 1) rfl)) rfl dX6_count_146 ?_
                refine g_get (ci := 4) (v := .int (o 2)) (C := RX4) (T := TX4) (N := 12) hx hb hts hinX4 hown hK hP 1 rfl rfl 6 (by decide) (hts (.fieldLink RX6 223 "ChargeStages$State" "lasted" "I") (List.mem_of_getElem? (i := 9) rfl)) rfl dX6_count_149 ?_
                refine lv_goto (tgt := 156) hx hb dX6_count_152 (by decide) ?_
                subst hR
                exact g_ret hx hb hr hlocks hS dX6_count_156 rfl hP
            · rw [if_neg c7] at hR
              have hok := hok.2 c7
              by_cases c9 : p1 = 6
              · rw [if_pos c9] at hR
                have hok := hok.1 c9
                refine lv_tableIn (off := 156) (tgt := 157) hx hb dX6_count_1 (by rw [c9]; decide) (by rw [c9]; decide) (by rw [c9]; rfl) (by decide) ?_
                refine lv_aload_n hx hb dX6_count_157 rfl (lv_at hl 0 rfl) ?_
                refine g_get (ci := 6) (v := .ref (x 1)) (C := RX6) (T := TX6) (N := 7) hx hb hts hinX6 hown hK hP 0 rfl rfl 0 (by decide) (hts (.fieldLink RX6 10 "ChargeStages" "now" "LChargeStages$State;") (List.mem_of_getElem? (i := 1) rfl)) rfl dX6_count_158 ?_
                refine g_get (ci := 4) (v := .int (o 4)) (C := RX4) (T := TX4) (N := 12) hx hb hts hinX4 hown hK hP 1 rfl rfl 8 (by decide) (hts (.fieldLink RX6 226 "ChargeStages$State" "pausedTicks" "I") (List.mem_of_getElem? (i := 10) rfl)) rfl dX6_count_161 ?_
                subst hR
                exact g_ret hx hb hr hlocks hS dX6_count_164 rfl hP
              · rw [if_neg c9] at hR
                have hok := hok.2 c9
                by_cases c10 : p1 = 7
                · rw [if_pos c10] at hR
                  have hok := hok.1 c10
                  refine lv_tableIn (off := 164) (tgt := 165) hx hb dX6_count_1 (by rw [c10]; decide) (by rw [c10]; decide) (by rw [c10]; rfl) (by decide) ?_
                  refine lv_aload_n hx hb dX6_count_165 rfl (lv_at hl 0 rfl) ?_
                  refine g_get (ci := 6) (v := .ref (x 1)) (C := RX6) (T := TX6) (N := 7) hx hb hts hinX6 hown hK hP 0 rfl rfl 0 (by decide) (hts (.fieldLink RX6 10 "ChargeStages" "now" "LChargeStages$State;") (List.mem_of_getElem? (i := 1) rfl)) rfl dX6_count_166 ?_
                  refine g_get (ci := 4) (v := .ref (x 3)) (C := RX4) (T := TX4) (N := 12) hx hb hts hinX4 hown hK hP 1 rfl rfl 1 (by decide) (hts (.fieldLink RX6 50 "ChargeStages$State" "row" "LChargeStages$Battery;") (List.mem_of_getElem? (i := 3) rfl)) rfl dX6_count_169 ?_
                  obtain ⟨k12, hok⟩ := hok
                  obtain ⟨R11, eR11, hR⟩ := g_let hR
                  refine g_callV (c_X0_leastCharge l G (fun k => x (k + 3)) b R11 eR11 k12) hx hb hml hown hts hK hP hD hS hA gX6_count_X0_leastCharge rfl (n := 0) (by decide +kernel) rfl ⟨Nat.le_of_ble_eq_true rfl, Nat.le_of_ble_eq_true rfl⟩ [3] rfl (by decide) 3 rfl (ci := 0) rfl hl.1 rfl (Nat.le_of_ble_eq_true rfl) ⟨Nat.zero_le _, Nat.zero_le _⟩ dX6_count_172 (fun H locs hP hD hS => ?_)
                  have hP : va_P G.1 vwCl (List.flatten [CW G x cx, OW G (fun k => x (k + 1)) o, AW G (x 2) 9 st, BW G (fun k => x (k + 3)) b, PW G (fun k => x (k + 11)) pf, LW G (fun k => x (k + 16)) g, HGW G (fun k => x (k + 58)) hh, TW G (fun k => x (k + 136)) t]) H := hP
                  have hD : va_D A (List.flatten [CW G x cx, OW G (fun k => x (k + 1)) o, AW G (x 2) 9 st, BW G (fun k => x (k + 3)) b, PW G (fun k => x (k + 11)) pf, LW G (fun k => x (k + 16)) g, HGW G (fun k => x (k + 58)) hh, TW G (fun k => x (k + 136)) t]) := hD
                  subst hR
                  exact g_ret hx hb hr hlocks hS dX6_count_175 rfl hP
                · rw [if_neg c10] at hR
                  have hok := hok.2 c10
                  by_cases c13 : p1 = 8
                  · rw [if_pos c13] at hR
                    have hok := hok.1 c13
                    refine lv_tableIn (off := 175) (tgt := 176) hx hb dX6_count_1 (by rw [c13]; decide) (by rw [c13]; decide) (by rw [c13]; rfl) (by decide) ?_
                    refine lv_aload_n hx hb dX6_count_176 rfl (lv_at hl 0 rfl) ?_
                    refine g_get (ci := 6) (v := .ref (x 1)) (C := RX6) (T := TX6) (N := 7) hx hb hts hinX6 hown hK hP 0 rfl rfl 0 (by decide) (hts (.fieldLink RX6 10 "ChargeStages" "now" "LChargeStages$State;") (List.mem_of_getElem? (i := 1) rfl)) rfl dX6_count_177 ?_
                    refine g_get (ci := 4) (v := .ref (x 3)) (C := RX4) (T := TX4) (N := 12) hx hb hts hinX4 hown hK hP 1 rfl rfl 1 (by decide) (hts (.fieldLink RX6 50 "ChargeStages$State" "row" "LChargeStages$Battery;") (List.mem_of_getElem? (i := 3) rfl)) rfl dX6_count_180 ?_
                    obtain ⟨k15, hok⟩ := hok
                    obtain ⟨R14, eR14, hR⟩ := g_let hR
                    refine g_callV (c_X0_greatestCharge l G (fun k => x (k + 3)) b R14 eR14 k15) hx hb hml hown hts hK hP hD hS hA gX6_count_X0_greatestCharge rfl (n := 0) (by decide +kernel) rfl ⟨Nat.le_of_ble_eq_true rfl, Nat.le_of_ble_eq_true rfl⟩ [3] rfl (by decide) 3 rfl (ci := 0) rfl hl.1 rfl (Nat.le_of_ble_eq_true rfl) ⟨Nat.zero_le _, Nat.zero_le _⟩ dX6_count_183 (fun H locs hP hD hS => ?_)
                    have hP : va_P G.1 vwCl (List.flatten [CW G x cx, OW G (fun k => x (k + 1)) o, AW G (x 2) 9 st, BW G (fun k => x (k + 3)) b, PW G (fun k => x (k + 11)) pf, LW G (fun k => x (k + 16)) g, HGW G (fun k => x (k + 58)) hh, TW G (fun k => x (k + 136)) t]) H := hP
                    have hD : va_D A (List.flatten [CW G x cx, OW G (fun k => x (k + 1)) o, AW G (x 2) 9 st, BW G (fun k => x (k + 3)) b, PW G (fun k => x (k + 11)) pf, LW G (fun k => x (k + 16)) g, HGW G (fun k => x (k + 58)) hh, TW G (fun k => x (k + 136)) t]) := hD
                    subst hR
                    exact g_ret hx hb hr hlocks hS dX6_count_186 rfl hP
                  · rw [if_neg c13] at hR
                    have hok := hok.2 c13
                    by_cases c16 : p1 = 9
                    · rw [if_pos c16] at hR
                      refine lv_tableIn (off := 186) (tgt := 187) hx hb dX6_count_1 (by rw [c16]; decide) (by rw [c16]; decide) (by rw [c16]; rfl) (by decide) ?_
                      refine lv_aload_n hx hb dX6_count_187 rfl (lv_at hl 0 rfl) ?_
                      refine g_get (ci := 6) (v := .ref (x 1)) (C := RX6) (T := TX6) (N := 7) hx hb hts hinX6 hown hK hP 0 rfl rfl 0 (by decide) (hts (.fieldLink RX6 10 "ChargeStages" "now" "LChargeStages$State;") (List.mem_of_getElem? (i := 1) rfl)) rfl dX6_count_188 ?_
                      obtain ⟨R17, eR17, hR⟩ := g_let hR
                      refine g_callV (c_X4_isPaused l G (fun k => x (k + 1)) o st R17 eR17) hx hb hml hown hts hK hP hD hS hA gX6_count_X4_isPaused rfl (n := 0) (by decide +kernel) rfl ⟨Nat.le_of_ble_eq_true rfl, Nat.le_of_ble_eq_true rfl⟩ [1, 2] rfl (by decide) 1 rfl (ci := 4) rfl hl.1 rfl (Nat.le_of_ble_eq_true rfl) ⟨Nat.zero_le _, Nat.zero_le _⟩ dX6_count_191 (fun H locs hP hD hS => ?_)
                      have hP : va_P G.1 vwCl (List.flatten [CW G x cx, OW G (fun k => x (k + 1)) o, AW G (x 2) 9 st, BW G (fun k => x (k + 3)) b, PW G (fun k => x (k + 11)) pf, LW G (fun k => x (k + 16)) g, HGW G (fun k => x (k + 58)) hh, TW G (fun k => x (k + 136)) t]) H := hP
                      have hD : va_D A (List.flatten [CW G x cx, OW G (fun k => x (k + 1)) o, AW G (x 2) 9 st, BW G (fun k => x (k + 3)) b, PW G (fun k => x (k + 11)) pf, LW G (fun k => x (k + 16)) g, HGW G (fun k => x (k + 58)) hh, TW G (fun k => x (k + 136)) t]) := hD
                      refine lv_if_eq (tgt := 201) hx hb dX6_count_194 (by decide) (fun c19 => ?_) (fun c19 => ?_)
                      · rw [if_pos c19] at hR
                        refine lv_iconst (v := 0) hx hb dX6_count_201 (by decide) ?_
                        subst hR
                        exact g_ret hx hb hr hlocks hS dX6_count_202 rfl hP
                      · rw [if_neg c19] at hR
                        refine lv_iconst (v := 1) hx hb dX6_count_197 (by decide) ?_
                        refine lv_goto (tgt := 202) hx hb dX6_count_198 (by decide) ?_
                        subst hR
                        exact g_ret hx hb hr hlocks hS dX6_count_202 rfl hP
                    · rw [if_neg c16] at hR
                      by_cases c20 : p1 = 10
                      · rw [if_pos c20] at hR
                        refine lv_tableIn (off := 202) (tgt := 203) hx hb dX6_count_1 (by rw [c20]; decide) (by rw [c20]; decide) (by rw [c20]; rfl) (by decide) ?_
                        refine lv_aload_n hx hb dX6_count_203 rfl (lv_at hl 0 rfl) ?_
                        refine g_get (ci := 6) (v := .ref (x 1)) (C := RX6) (T := TX6) (N := 7) hx hb hts hinX6 hown hK hP 0 rfl rfl 0 (by decide) (hts (.fieldLink RX6 10 "ChargeStages" "now" "LChargeStages$State;") (List.mem_of_getElem? (i := 1) rfl)) rfl dX6_count_204 ?_
                        refine g_get (ci := 4) (v := .int (o 6)) (C := RX4) (T := TX4) (N := 12) hx hb hts hinX4 hown hK hP 1 rfl rfl 10 (by decide) (hts (.fieldLink RX6 232 "ChargeStages$State" "timesDone" "I") (List.mem_of_getElem? (i := 11) rfl)) rfl dX6_count_207 ?_
                        subst hR
                        exact g_ret hx hb hr hlocks hS dX6_count_210 rfl hP
                      · rw [if_neg c20] at hR
                        by_cases c21 : p1 = 11
                        · rw [if_pos c21] at hR
                          refine lv_tableIn (off := 210) (tgt := 211) hx hb dX6_count_1 (by rw [c21]; decide) (by rw [c21]; decide) (by rw [c21]; rfl) (by decide) ?_
                          refine lv_aload_n hx hb dX6_count_211 rfl (lv_at hl 0 rfl) ?_
                          refine g_get (ci := 6) (v := .ref (x 1)) (C := RX6) (T := TX6) (N := 7) hx hb hts hinX6 hown hK hP 0 rfl rfl 0 (by decide) (hts (.fieldLink RX6 10 "ChargeStages" "now" "LChargeStages$State;") (List.mem_of_getElem? (i := 1) rfl)) rfl dX6_count_212 ?_
                          refine g_get (ci := 4) (v := .int (o 7)) (C := RX4) (T := TX4) (N := 12) hx hb hts hinX4 hown hK hP 1 rfl rfl 11 (by decide) (hts (.fieldLink RX6 235 "ChargeStages$State" "timesAtFault" "I") (List.mem_of_getElem? (i := 12) rfl)) rfl dX6_count_215 ?_
                          subst hR
                          exact g_ret hx hb hr hlocks hS dX6_count_218 rfl hP
                        · rw [if_neg c21] at hR
                          by_cases c22 : p1 = 12
                          · rw [if_pos c22] at hR
                            refine lv_tableIn (off := 218) (tgt := 219) hx hb dX6_count_1 (by rw [c22]; decide) (by rw [c22]; decide) (by rw [c22]; rfl) (by decide) ?_
                            refine lv_aload_n hx hb dX6_count_219 rfl (lv_at hl 0 rfl) ?_
                            refine g_get (ci := 6) (v := .ref (x 58)) (C := RX6) (T := TX6) (N := 7) hx hb hts hinX6 hown hK hP 0 rfl rfl 4 (by decide) (hts (.fieldLink RX6 29 "ChargeStages" "history" "LChargeStages$History;") (List.mem_of_getElem? (i := 13) rfl)) rfl dX6_count_220 ?_
                            refine g_get (ci := 1) (v := .int (nI hh.1)) (C := RX1) (T := TX1) (N := 2) hx hb hts hinX1 hown hK hP 20 rfl rfl 0 (by decide) (hts (.fieldLink RX6 142 "ChargeStages$History" "states" "I") (List.mem_of_getElem? (i := 14) rfl)) rfl dX6_count_223 ?_
                            subst hR
                            exact g_ret hx hb hr hlocks hS dX6_count_226 rfl hP
                          · rw [if_neg c22] at hR
                            by_cases c23 : p1 = 13
                            · rw [if_pos c23] at hR
                              refine lv_tableIn (off := 226) (tgt := 227) hx hb dX6_count_1 (by rw [c23]; decide) (by rw [c23]; decide) (by rw [c23]; rfl) (by decide) ?_
                              refine lv_aload_n hx hb dX6_count_227 rfl (lv_at hl 0 rfl) ?_
                              refine g_get (ci := 6) (v := .ref (x 136)) (C := RX6) (T := TX6) (N := 7) hx hb hts hinX6 hown hK hP 0 rfl rfl 5 (by decide) (hts (.fieldLink RX6 36 "ChargeStages" "text" "LChargeStages$Text;") (List.mem_of_getElem? (i := 15) rfl)) rfl dX6_count_228 ?_
                              refine g_get (ci := 5) (v := .int ((t 0) 0)) (C := RX5) (T := TX5) (N := 3) hx hb hts hinX5 hown hK hP 98 rfl rfl 0 (by decide) (hts (.fieldLink RX6 136 "ChargeStages$Text" "length" "I") (List.mem_of_getElem? (i := 16) rfl)) rfl dX6_count_231 ?_
                              subst hR
                              exact g_ret hx hb hr hlocks hS dX6_count_234 rfl hP
                            · rw [if_neg c23] at hR
                              refine lv_tableOut (tgt := 235) hx hb dX6_count_1 (g_out 14 (lt_s (lt_s (lt_s (lt_s (lt_s (lt_s (lt_s (lt_s (lt_s (lt_s (lt_s (lt_s (lt_s (lt_s lt_0 c1) c2) c3) c4) c5) c7) c9) c10) c13) c16) c20) c21) c22) c23)) (by decide) ?_
                              refine lv_bipush (v := (-2)) hx hb dX6_count_235 (by decide) ?_
                              subst hR
                              exact g_ret hx hb hr hlocks hS dX6_count_237 rfl hP
