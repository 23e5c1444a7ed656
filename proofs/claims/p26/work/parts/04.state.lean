def ok_X4_copyFrom (o2 : (Nat → Int32)) : Prop := (gz (o2 5)) ∧ True
set_option maxHeartbeats 4000000 in
set_option maxRecDepth 100000 in
theorem c_X4_copyFrom (l : Launch) (G : gG) (a : Nat → Nat) (h : Nat → Nat) (o : (Nat → Int32)) (st : (Nat → Int32)) (b : (Nat → Nat → Int32)) (pf : (Nat → Nat → Int32)) (g : (Nat → Nat → Int32)) (o2 : (Nat → Int32)) (st2 : (Nat → Int32)) (b2 : (Nat → Nat → Int32)) (q : (Nat → Nat → Int32)) (g2 : (Nat → Nat → Int32)) (hok : ok_X4_copyFrom o2) : CT l G yX4_copyFrom wsX4_copyFrom 2 39 [.ref (a 0), .ref (h 0)] [OW G a o, AW G (a 1) 9 st, BW G (fun k => a (k + 2)) b, PW G (fun k => a (k + 10)) pf, LW G (fun k => a (k + 15)) g, OW G h o2, AW G (h 1) 9 st2, BW G (fun k => h (k + 2)) b2, PW G (fun k => h (k + 10)) q, LW G (fun k => h (k + 15)) g2] none [OW G a o2, AW G (a 1) 9 st2, BW G (fun k => a (k + 2)) b2, PW G (fun k => a (k + 10)) q, LW G (fun k => a (k + 15)) g2, OW G h o2, AW G (h 1) 9 st2, BW G (fun k => h (k + 2)) b2, PW G (fun k => h (k + 10)) q, LW G (fun k => h (k + 15)) g2] := by
  unfold ok_X4_copyFrom at hok
  refine CT.of (cc := cX4_copyFrom) (maxL := 2) (ret := none) (plainFor_of_name (by decide +kernel)) rfl rfl (Nat.le_of_ble_eq_true rfl) ?_
  intro p e s m below meth c A ls hx hb hml hr hts hown hlocks hK hP hD hA hS hl
  have hown : s.vm.findClass RX4 = some m.cls := hown
  have hl : lv_has ls 2 [(0, .ref (a 0)), (1, .ref (h 0))] := hl
  have hinX4 : ∀ w ∈ wsX40, w ∈ wsX4_copyFrom := fun w h => List.mem_cons_of_mem _ (List.mem_append_left _ (List.mem_append_left _ (List.mem_append_left _ (List.mem_append_right _ h))))
  refine lv_aload_n hx hb dX4_copyFrom_0 rfl (lv_at hl 1 rfl) ?_
  refine g_get (ci := 4) (v := .ref (h 1)) (C := RX4) (T := TX4) (N := 12) hx hb hts hinX4 hown hK hP 19 rfl rfl 0 (by decide) (hts (.fieldLink RX4 9 "ChargeStages$State" "settings" "[I") (List.mem_of_getElem? (i := 1) rfl)) rfl dX4_copyFrom_1 ?_
  refine lv_iconst (v := 0) hx hb dX4_copyFrom_4 (by decide) ?_
  refine lv_aload_n hx hb dX4_copyFrom_5 rfl (lv_at hl 0 rfl) ?_
  refine g_get (ci := 4) (v := .ref (a 1)) (C := RX4) (T := TX4) (N := 12) hx hb hts hinX4 hown hK hP 0 rfl rfl 0 (by decide) (hts (.fieldLink RX4 9 "ChargeStages$State" "settings" "[I") (List.mem_of_getElem? (i := 1) rfl)) rfl dX4_copyFrom_6 ?_
  refine lv_iconst (v := 0) hx hb dX4_copyFrom_9 (by decide) ?_
  refine lv_bipush (v := 9) hx hb dX4_copyFrom_10 (by decide) ?_
  refine g_copy (N := 9) (B2 := [OW G a o, AW G (a 1) 9 st2, BW G (fun k => a (k + 2)) b, PW G (fun k => a (k + 10)) pf, LW G (fun k => a (k + 15)) g, OW G h o2, AW G (h 1) 9 st2, BW G (fun k => h (k + 2)) b2, PW G (fun k => h (k + 10)) q, LW G (fun k => h (k + 15)) g2]) hx hb (hml.trans hl.1.symm) hown (hts (.methodLink RX4 65 arraycopyName) (List.mem_of_getElem? (i := 2) rfl)) (hts (.native arraycopyName) (List.mem_of_getElem? (i := 3) rfl)) (hts (.static arraycopyName) (List.mem_of_getElem? (i := 4) rfl)) (hts (.initialized "java/lang/System") (List.mem_of_getElem? (i := 5) rfl)) hK hP hD hS 20 1 rfl rfl (by decide) (by decide) rfl (Nat.le_of_ble_eq_true rfl) (Nat.le_of_ble_eq_true rfl) dX4_copyFrom_12 (fun H locs hP hD hS => ?_)
  refine lv_aload_n hx hb dX4_copyFrom_15 rfl (lv_at hl 0 rfl) ?_
  refine g_get (ci := 4) (v := .ref (a 2)) (C := RX4) (T := TX4) (N := 12) hx hb hts hinX4 hown hK hP 0 rfl rfl 1 (by decide) (hts (.fieldLink RX4 18 "ChargeStages$State" "row" "LChargeStages$Battery;") (List.mem_of_getElem? (i := 6) rfl)) rfl dX4_copyFrom_16 ?_
  refine lv_aload_n hx hb dX4_copyFrom_19 rfl (lv_at hl 1 rfl) ?_
  refine g_get (ci := 4) (v := .ref (h 2)) (C := RX4) (T := TX4) (N := 12) hx hb hts hinX4 hown hK hP 19 rfl rfl 1 (by decide) (hts (.fieldLink RX4 18 "ChargeStages$State" "row" "LChargeStages$Battery;") (List.mem_of_getElem? (i := 6) rfl)) rfl dX4_copyFrom_20 ?_
  refine g_callV (c_X0_copyFrom l G (fun k => a (k + 2)) (fun k => h (k + 2)) b b2) hx hb hml hown hts hK hP hD hS hA gX4_copyFrom_X0_copyFrom rfl (n := 1) (by decide +kernel) rfl ⟨Nat.le_of_ble_eq_true rfl, Nat.le_of_ble_eq_true rfl⟩ [2, 7] rfl (by decide) 2 rfl (ci := 0) rfl hl.1 rfl (Nat.le_of_ble_eq_true rfl) ⟨Nat.zero_le _, Nat.zero_le _⟩ dX4_copyFrom_23 (fun H locs hP hD hS => ?_)
  have hP : va_P G.1 vwCl (List.flatten [OW G a o, AW G (a 1) 9 st2, BW G (fun k => a (k + 2)) b2, PW G (fun k => a (k + 10)) pf, LW G (fun k => a (k + 15)) g, OW G h o2, AW G (h 1) 9 st2, BW G (fun k => h (k + 2)) b2, PW G (fun k => h (k + 10)) q, LW G (fun k => h (k + 15)) g2]) H := hP
  have hD : va_D A (List.flatten [OW G a o, AW G (a 1) 9 st2, BW G (fun k => a (k + 2)) b2, PW G (fun k => a (k + 10)) pf, LW G (fun k => a (k + 15)) g, OW G h o2, AW G (h 1) 9 st2, BW G (fun k => h (k + 2)) b2, PW G (fun k => h (k + 10)) q, LW G (fun k => h (k + 15)) g2]) := hD
  refine lv_aload_n hx hb dX4_copyFrom_26 rfl (lv_at hl 0 rfl) ?_
  refine g_get (ci := 4) (v := .ref (a 10)) (C := RX4) (T := TX4) (N := 12) hx hb hts hinX4 hown hK hP 0 rfl rfl 2 (by decide) (hts (.fieldLink RX4 25 "ChargeStages$State" "profile" "LChargeStages$Profile;") (List.mem_of_getElem? (i := 7) rfl)) rfl dX4_copyFrom_27 ?_
  refine lv_aload_n hx hb dX4_copyFrom_30 rfl (lv_at hl 1 rfl) ?_
  refine g_get (ci := 4) (v := .ref (h 10)) (C := RX4) (T := TX4) (N := 12) hx hb hts hinX4 hown hK hP 19 rfl rfl 2 (by decide) (hts (.fieldLink RX4 25 "ChargeStages$State" "profile" "LChargeStages$Profile;") (List.mem_of_getElem? (i := 7) rfl)) rfl dX4_copyFrom_31 ?_
  refine g_callV (c_X3_copyFrom l G (fun k => a (k + 10)) (fun k => h (k + 10)) pf q) hx hb hml hown hts hK hP hD hS hA gX4_copyFrom_X3_copyFrom rfl (n := 1) (by decide +kernel) rfl ⟨Nat.le_of_ble_eq_true rfl, Nat.le_of_ble_eq_true rfl⟩ [3, 8] rfl (by decide) 10 rfl (ci := 3) rfl hl.1 rfl (Nat.le_of_ble_eq_true rfl) ⟨Nat.zero_le _, Nat.zero_le _⟩ dX4_copyFrom_34 (fun H locs hP hD hS => ?_)
  have hP : va_P G.1 vwCl (List.flatten [OW G a o, AW G (a 1) 9 st2, BW G (fun k => a (k + 2)) b2, PW G (fun k => a (k + 10)) q, LW G (fun k => a (k + 15)) g, OW G h o2, AW G (h 1) 9 st2, BW G (fun k => h (k + 2)) b2, PW G (fun k => h (k + 10)) q, LW G (fun k => h (k + 15)) g2]) H := hP
  have hD : va_D A (List.flatten [OW G a o, AW G (a 1) 9 st2, BW G (fun k => a (k + 2)) b2, PW G (fun k => a (k + 10)) q, LW G (fun k => a (k + 15)) g, OW G h o2, AW G (h 1) 9 st2, BW G (fun k => h (k + 2)) b2, PW G (fun k => h (k + 10)) q, LW G (fun k => h (k + 15)) g2]) := hD
  refine lv_aload_n hx hb dX4_copyFrom_37 rfl (lv_at hl 0 rfl) ?_
  refine g_get (ci := 4) (v := .ref (a 15)) (C := RX4) (T := TX4) (N := 12) hx hb hts hinX4 hown hK hP 0 rfl rfl 3 (by decide) (hts (.fieldLink RX4 32 "ChargeStages$State" "log" "LChargeStages$Log;") (List.mem_of_getElem? (i := 8) rfl)) rfl dX4_copyFrom_38 ?_
  refine lv_aload_n hx hb dX4_copyFrom_41 rfl (lv_at hl 1 rfl) ?_
  refine g_get (ci := 4) (v := .ref (h 15)) (C := RX4) (T := TX4) (N := 12) hx hb hts hinX4 hown hK hP 19 rfl rfl 3 (by decide) (hts (.fieldLink RX4 32 "ChargeStages$State" "log" "LChargeStages$Log;") (List.mem_of_getElem? (i := 8) rfl)) rfl dX4_copyFrom_42 ?_
  refine g_callV (c_X2_copyFrom l G (fun k => a (k + 15)) (fun k => h (k + 15)) g g2) hx hb hml hown hts hK hP hD hS hA gX4_copyFrom_X2_copyFrom rfl (n := 1) (by decide +kernel) rfl ⟨Nat.le_of_ble_eq_true rfl, Nat.le_of_ble_eq_true rfl⟩ [4, 9] rfl (by decide) 15 rfl (ci := 2) rfl hl.1 rfl (Nat.le_of_ble_eq_true rfl) ⟨Nat.zero_le _, Nat.zero_le _⟩ dX4_copyFrom_45 (fun H locs hP hD hS => ?_)
  have hP : va_P G.1 vwCl (List.flatten [OW G a o, AW G (a 1) 9 st2, BW G (fun k => a (k + 2)) b2, PW G (fun k => a (k + 10)) q, LW G (fun k => a (k + 15)) g2, OW G h o2, AW G (h 1) 9 st2, BW G (fun k => h (k + 2)) b2, PW G (fun k => h (k + 10)) q, LW G (fun k => h (k + 15)) g2]) H := hP
  have hD : va_D A (List.flatten [OW G a o, AW G (a 1) 9 st2, BW G (fun k => a (k + 2)) b2, PW G (fun k => a (k + 10)) q, LW G (fun k => a (k + 15)) g2, OW G h o2, AW G (h 1) 9 st2, BW G (fun k => h (k + 2)) b2, PW G (fun k => h (k + 10)) q, LW G (fun k => h (k + 15)) g2]) := hD
  refine lv_aload_n hx hb dX4_copyFrom_48 rfl (lv_at hl 0 rfl) ?_
  refine lv_aload_n hx hb dX4_copyFrom_49 rfl (lv_at hl 1 rfl) ?_
  refine g_get (ci := 4) (v := .int (o2 0)) (C := RX4) (T := TX4) (N := 12) hx hb hts hinX4 hown hK hP 19 rfl rfl 4 (by decide) (hts (.fieldLink RX4 36 "ChargeStages$State" "mode" "I") (List.mem_of_getElem? (i := 9) rfl)) rfl dX4_copyFrom_50 ?_
  refine g_put (ci := 4) (v := .int (o2 0)) (ty := .int) (C := RX4) (T := TX4) (N := 12) (B2 := [OW G a (upd o 0 (o2 0)), AW G (a 1) 9 st2, BW G (fun k => a (k + 2)) b2, PW G (fun k => a (k + 10)) q, LW G (fun k => a (k + 15)) g2, OW G h o2, AW G (h 1) 9 st2, BW G (fun k => h (k + 2)) b2, PW G (fun k => h (k + 10)) q, LW G (fun k => h (k + 15)) g2]) hx hb hts hinX4 tyX4 tyX4_ok nmX4 hown hK hP hD hS 0 rfl rfl 4 (by decide) (hts (.fieldLink RX4 36 "ChargeStages$State" "mode" "I") (List.mem_of_getElem? (i := 9) rfl)) rfl (by decide +kernel) rfl rfl (Nat.le_of_ble_eq_true rfl) rfl dX4_copyFrom_53 (fun H locs hP hD hS => ?_)
  refine lv_aload_n hx hb dX4_copyFrom_56 rfl (lv_at hl 0 rfl) ?_
  refine lv_aload_n hx hb dX4_copyFrom_57 rfl (lv_at hl 1 rfl) ?_
  refine g_get (ci := 4) (v := .int (o2 1)) (C := RX4) (T := TX4) (N := 12) hx hb hts hinX4 hown hK hP 19 rfl rfl 5 (by decide) (hts (.fieldLink RX4 40 "ChargeStages$State" "stage" "I") (List.mem_of_getElem? (i := 10) rfl)) rfl dX4_copyFrom_58 ?_
  refine g_put (ci := 4) (v := .int (o2 1)) (ty := .int) (C := RX4) (T := TX4) (N := 12) (B2 := [OW G a (upd (upd o 0 (o2 0)) 1 (o2 1)), AW G (a 1) 9 st2, BW G (fun k => a (k + 2)) b2, PW G (fun k => a (k + 10)) q, LW G (fun k => a (k + 15)) g2, OW G h o2, AW G (h 1) 9 st2, BW G (fun k => h (k + 2)) b2, PW G (fun k => h (k + 10)) q, LW G (fun k => h (k + 15)) g2]) hx hb hts hinX4 tyX4 tyX4_ok nmX4 hown hK hP hD hS 0 rfl rfl 5 (by decide) (hts (.fieldLink RX4 40 "ChargeStages$State" "stage" "I") (List.mem_of_getElem? (i := 10) rfl)) rfl (by decide +kernel) rfl rfl (Nat.le_of_ble_eq_true rfl) rfl dX4_copyFrom_61 (fun H locs hP hD hS => ?_)
  refine lv_aload_n hx hb dX4_copyFrom_64 rfl (lv_at hl 0 rfl) ?_
  refine lv_aload_n hx hb dX4_copyFrom_65 rfl (lv_at hl 1 rfl) ?_
  refine g_get (ci := 4) (v := .int (o2 2)) (C := RX4) (T := TX4) (N := 12) hx hb hts hinX4 hown hK hP 19 rfl rfl 6 (by decide) (hts (.fieldLink RX4 43 "ChargeStages$State" "lasted" "I") (List.mem_of_getElem? (i := 11) rfl)) rfl dX4_copyFrom_66 ?_
  refine g_put (ci := 4) (v := .int (o2 2)) (ty := .int) (C := RX4) (T := TX4) (N := 12) (B2 := [OW G a (upd (upd (upd o 0 (o2 0)) 1 (o2 1)) 2 (o2 2)), AW G (a 1) 9 st2, BW G (fun k => a (k + 2)) b2, PW G (fun k => a (k + 10)) q, LW G (fun k => a (k + 15)) g2, OW G h o2, AW G (h 1) 9 st2, BW G (fun k => h (k + 2)) b2, PW G (fun k => h (k + 10)) q, LW G (fun k => h (k + 15)) g2]) hx hb hts hinX4 tyX4 tyX4_ok nmX4 hown hK hP hD hS 0 rfl rfl 6 (by decide) (hts (.fieldLink RX4 43 "ChargeStages$State" "lasted" "I") (List.mem_of_getElem? (i := 11) rfl)) rfl (by decide +kernel) rfl rfl (Nat.le_of_ble_eq_true rfl) rfl dX4_copyFrom_69 (fun H locs hP hD hS => ?_)
  refine lv_aload_n hx hb dX4_copyFrom_72 rfl (lv_at hl 0 rfl) ?_
  refine lv_aload_n hx hb dX4_copyFrom_73 rfl (lv_at hl 1 rfl) ?_
  refine g_get (ci := 4) (v := .int (o2 3)) (C := RX4) (T := TX4) (N := 12) hx hb hts hinX4 hown hK hP 19 rfl rfl 7 (by decide) (hts (.fieldLink RX4 46 "ChargeStages$State" "tick" "I") (List.mem_of_getElem? (i := 12) rfl)) rfl dX4_copyFrom_74 ?_
  refine g_put (ci := 4) (v := .int (o2 3)) (ty := .int) (C := RX4) (T := TX4) (N := 12) (B2 := [OW G a (upd (upd (upd (upd o 0 (o2 0)) 1 (o2 1)) 2 (o2 2)) 3 (o2 3)), AW G (a 1) 9 st2, BW G (fun k => a (k + 2)) b2, PW G (fun k => a (k + 10)) q, LW G (fun k => a (k + 15)) g2, OW G h o2, AW G (h 1) 9 st2, BW G (fun k => h (k + 2)) b2, PW G (fun k => h (k + 10)) q, LW G (fun k => h (k + 15)) g2]) hx hb hts hinX4 tyX4 tyX4_ok nmX4 hown hK hP hD hS 0 rfl rfl 7 (by decide) (hts (.fieldLink RX4 46 "ChargeStages$State" "tick" "I") (List.mem_of_getElem? (i := 12) rfl)) rfl (by decide +kernel) rfl rfl (Nat.le_of_ble_eq_true rfl) rfl dX4_copyFrom_77 (fun H locs hP hD hS => ?_)
  refine lv_aload_n hx hb dX4_copyFrom_80 rfl (lv_at hl 0 rfl) ?_
  refine lv_aload_n hx hb dX4_copyFrom_81 rfl (lv_at hl 1 rfl) ?_
  refine g_get (ci := 4) (v := .int (o2 4)) (C := RX4) (T := TX4) (N := 12) hx hb hts hinX4 hown hK hP 19 rfl rfl 8 (by decide) (hts (.fieldLink RX4 49 "ChargeStages$State" "pausedTicks" "I") (List.mem_of_getElem? (i := 13) rfl)) rfl dX4_copyFrom_82 ?_
  refine g_put (ci := 4) (v := .int (o2 4)) (ty := .int) (C := RX4) (T := TX4) (N := 12) (B2 := [OW G a (upd (upd (upd (upd (upd o 0 (o2 0)) 1 (o2 1)) 2 (o2 2)) 3 (o2 3)) 4 (o2 4)), AW G (a 1) 9 st2, BW G (fun k => a (k + 2)) b2, PW G (fun k => a (k + 10)) q, LW G (fun k => a (k + 15)) g2, OW G h o2, AW G (h 1) 9 st2, BW G (fun k => h (k + 2)) b2, PW G (fun k => h (k + 10)) q, LW G (fun k => h (k + 15)) g2]) hx hb hts hinX4 tyX4 tyX4_ok nmX4 hown hK hP hD hS 0 rfl rfl 8 (by decide) (hts (.fieldLink RX4 49 "ChargeStages$State" "pausedTicks" "I") (List.mem_of_getElem? (i := 13) rfl)) rfl (by decide +kernel) rfl rfl (Nat.le_of_ble_eq_true rfl) rfl dX4_copyFrom_85 (fun H locs hP hD hS => ?_)
  refine lv_aload_n hx hb dX4_copyFrom_88 rfl (lv_at hl 0 rfl) ?_
  refine lv_aload_n hx hb dX4_copyFrom_89 rfl (lv_at hl 1 rfl) ?_
  refine g_get (ci := 4) (v := .int (o2 5)) (C := RX4) (T := TX4) (N := 12) hx hb hts hinX4 hown hK hP 19 rfl rfl 9 (by decide) (hts (.fieldLink RX4 52 "ChargeStages$State" "wasPaused" "Z") (List.mem_of_getElem? (i := 14) rfl)) rfl dX4_copyFrom_90 ?_
  obtain ⟨k4, hok⟩ := hok
  refine g_put (ci := 4) (v := .int (o2 5)) (ty := .boolean) (C := RX4) (T := TX4) (N := 12) (B2 := [OW G a (upd (upd (upd (upd (upd (upd o 0 (o2 0)) 1 (o2 1)) 2 (o2 2)) 3 (o2 3)) 4 (o2 4)) 5 (o2 5)), AW G (a 1) 9 st2, BW G (fun k => a (k + 2)) b2, PW G (fun k => a (k + 10)) q, LW G (fun k => a (k + 15)) g2, OW G h o2, AW G (h 1) 9 st2, BW G (fun k => h (k + 2)) b2, PW G (fun k => h (k + 10)) q, LW G (fun k => h (k + 15)) g2]) hx hb hts hinX4 tyX4 tyX4_ok nmX4 hown hK hP hD hS 0 rfl rfl 9 (by decide) (hts (.fieldLink RX4 52 "ChargeStages$State" "wasPaused" "Z") (List.mem_of_getElem? (i := 14) rfl)) rfl (by decide +kernel) k4.narrow k4.fits (Nat.le_of_ble_eq_true rfl) rfl dX4_copyFrom_93 (fun H locs hP hD hS => ?_)
  refine lv_aload_n hx hb dX4_copyFrom_96 rfl (lv_at hl 0 rfl) ?_
  refine lv_aload_n hx hb dX4_copyFrom_97 rfl (lv_at hl 1 rfl) ?_
  refine g_get (ci := 4) (v := .int (o2 6)) (C := RX4) (T := TX4) (N := 12) hx hb hts hinX4 hown hK hP 19 rfl rfl 10 (by decide) (hts (.fieldLink RX4 56 "ChargeStages$State" "timesDone" "I") (List.mem_of_getElem? (i := 15) rfl)) rfl dX4_copyFrom_98 ?_
  refine g_put (ci := 4) (v := .int (o2 6)) (ty := .int) (C := RX4) (T := TX4) (N := 12) (B2 := [OW G a (upd (upd (upd (upd (upd (upd (upd o 0 (o2 0)) 1 (o2 1)) 2 (o2 2)) 3 (o2 3)) 4 (o2 4)) 5 (o2 5)) 6 (o2 6)), AW G (a 1) 9 st2, BW G (fun k => a (k + 2)) b2, PW G (fun k => a (k + 10)) q, LW G (fun k => a (k + 15)) g2, OW G h o2, AW G (h 1) 9 st2, BW G (fun k => h (k + 2)) b2, PW G (fun k => h (k + 10)) q, LW G (fun k => h (k + 15)) g2]) hx hb hts hinX4 tyX4 tyX4_ok nmX4 hown hK hP hD hS 0 rfl rfl 10 (by decide) (hts (.fieldLink RX4 56 "ChargeStages$State" "timesDone" "I") (List.mem_of_getElem? (i := 15) rfl)) rfl (by decide +kernel) rfl rfl (Nat.le_of_ble_eq_true rfl) rfl dX4_copyFrom_101 (fun H locs hP hD hS => ?_)
  refine lv_aload_n hx hb dX4_copyFrom_104 rfl (lv_at hl 0 rfl) ?_
  refine lv_aload_n hx hb dX4_copyFrom_105 rfl (lv_at hl 1 rfl) ?_
  refine g_get (ci := 4) (v := .int (o2 7)) (C := RX4) (T := TX4) (N := 12) hx hb hts hinX4 hown hK hP 19 rfl rfl 11 (by decide) (hts (.fieldLink RX4 59 "ChargeStages$State" "timesAtFault" "I") (List.mem_of_getElem? (i := 16) rfl)) rfl dX4_copyFrom_106 ?_
  refine g_put (ci := 4) (v := .int (o2 7)) (ty := .int) (C := RX4) (T := TX4) (N := 12) (B2 := [OW G a (upd (upd (upd (upd (upd (upd (upd (upd o 0 (o2 0)) 1 (o2 1)) 2 (o2 2)) 3 (o2 3)) 4 (o2 4)) 5 (o2 5)) 6 (o2 6)) 7 (o2 7)), AW G (a 1) 9 st2, BW G (fun k => a (k + 2)) b2, PW G (fun k => a (k + 10)) q, LW G (fun k => a (k + 15)) g2, OW G h o2, AW G (h 1) 9 st2, BW G (fun k => h (k + 2)) b2, PW G (fun k => h (k + 10)) q, LW G (fun k => h (k + 15)) g2]) hx hb hts hinX4 tyX4 tyX4_ok nmX4 hown hK hP hD hS 0 rfl rfl 11 (by decide) (hts (.fieldLink RX4 59 "ChargeStages$State" "timesAtFault" "I") (List.mem_of_getElem? (i := 16) rfl)) rfl (by decide +kernel) rfl rfl (Nat.le_of_ble_eq_true rfl) rfl dX4_copyFrom_109 (fun H locs hP hD hS => ?_)
  exact g_retv hx hb hr hlocks hS dX4_copyFrom_112 rfl hP
def f_X4_allows (st : (Nat → Int32)) (b : (Nat → Nat → Int32)) (p1 : Int32) (p2 : Int32) : Int32 := (if p1 = 0 then (gL (f_X0_greatestCharge b) (fun (R2 : Int32) => (if p2 < R2 then 0 else 1))) else (if p1 = 5 then (if (st 6) < p2 then 0 else 1) else (if p1 = 6 then (if p2 < (st 5) then 0 else 1) else 1)))
def ok_X4_allows (b : (Nat → Nat → Int32)) (p1 : Int32) : Prop := ((p1 = 0 → (ok_X0_greatestCharge b) ∧ True) ∧ (¬ p1 = 0 → True))
set_option maxHeartbeats 4000000 in
set_option maxRecDepth 100000 in
theorem c_X4_allows (l : Launch) (G : gG) (a : Nat → Nat) (o : (Nat → Int32)) (st : (Nat → Int32)) (b : (Nat → Nat → Int32)) (p1 : Int32) (p2 : Int32) (R : Int32) (hR : R = f_X4_allows st b p1 p2) (hok : ok_X4_allows b p1) : CT l G yX4_allows wsX4_allows 2 35 [.ref (a 0), .int p1, .int p2] [OW G a o, AW G (a 1) 9 st, BW G (fun k => a (k + 2)) b] (some (.int R)) [OW G a o, AW G (a 1) 9 st, BW G (fun k => a (k + 2)) b] := by
  unfold f_X4_allows at hR
  unfold ok_X4_allows at hok
  refine CT.of (cc := cX4_allows) (maxL := 3) (ret := (some .boolean)) (plainFor_of_name (by decide +kernel)) rfl rfl (Nat.le_of_ble_eq_true rfl) ?_
  intro p e s m below meth c A ls hx hb hml hr hts hown hlocks hK hP hD hA hS hl
  have hown : s.vm.findClass RX4 = some m.cls := hown
  have hl : lv_has ls 3 [(0, .ref (a 0)), (1, .int p1), (2, .int p2)] := hl
  have hinX4 : ∀ w ∈ wsX40, w ∈ wsX4_allows := fun w h => List.mem_cons_of_mem _ (List.mem_append_left _ (List.mem_append_right _ h))
  refine lv_iload_n hx hb dX4_allows_0 rfl (lv_at hl 1 rfl) ?_
  by_cases c1 : p1 = 0
  · rw [if_pos c1] at hR
    have hok := hok.1 c1
    refine lv_lookup (tgt := 36) (off := 35) hx hb dX4_allows_1 (by decide) (by rw [c1]; rfl) (by decide) ?_
    refine lv_iload_n hx hb dX4_allows_36 rfl (lv_at hl 2 rfl) ?_
    refine lv_aload_n hx hb dX4_allows_37 rfl (lv_at hl 0 rfl) ?_
    refine g_get (ci := 4) (v := .ref (a 2)) (C := RX4) (T := TX4) (N := 12) hx hb hts hinX4 hown hK hP 0 rfl rfl 1 (by decide) (hts (.fieldLink RX4 18 "ChargeStages$State" "row" "LChargeStages$Battery;") (List.mem_of_getElem? (i := 1) rfl)) rfl dX4_allows_38 ?_
    obtain ⟨k3, hok⟩ := hok
    obtain ⟨R2, eR2, hR⟩ := g_let hR
    refine g_callV (c_X0_greatestCharge l G (fun k => a (k + 2)) b R2 eR2 k3) hx hb hml hown hts hK hP hD hS hA gX4_allows_X0_greatestCharge rfl (n := 0) (by decide +kernel) rfl ⟨Nat.le_of_ble_eq_true rfl, Nat.le_of_ble_eq_true rfl⟩ [2] rfl (by decide) 2 rfl (ci := 0) rfl hl.1 rfl (Nat.le_of_ble_eq_true rfl) ⟨Nat.zero_le _, Nat.zero_le _⟩ dX4_allows_41 (fun H locs hP hD hS => ?_)
    have hP : va_P G.1 vwCl (List.flatten [OW G a o, AW G (a 1) 9 st, BW G (fun k => a (k + 2)) b]) H := hP
    have hD : va_D A (List.flatten [OW G a o, AW G (a 1) 9 st, BW G (fun k => a (k + 2)) b]) := hD
    refine lv_icmp_lt (tgt := 51) hx hb dX4_allows_44 (by decide) (fun c4 => ?_) (fun c4 => ?_)
    · rw [if_pos c4] at hR
      refine lv_iconst (v := 0) hx hb dX4_allows_51 (by decide) ?_
      subst hR
      exact g_retz hx hb hr hlocks hS rfl dX4_allows_52 rfl hP
    · rw [if_neg c4] at hR
      refine lv_iconst (v := 1) hx hb dX4_allows_47 (by decide) ?_
      refine lv_goto (tgt := 52) hx hb dX4_allows_48 (by decide) ?_
      subst hR
      exact g_retz hx hb hr hlocks hS rfl dX4_allows_52 rfl hP
  · rw [if_neg c1] at hR
    have hok := hok.2 c1
    by_cases c5 : p1 = 5
    · rw [if_pos c5] at hR
      refine lv_lookup (tgt := 53) (off := 52) hx hb dX4_allows_1 (by decide) (by rw [c5]; rfl) (by decide) ?_
      refine lv_iload_n hx hb dX4_allows_53 rfl (lv_at hl 2 rfl) ?_
      refine lv_aload_n hx hb dX4_allows_54 rfl (lv_at hl 0 rfl) ?_
      refine g_get (ci := 4) (v := .ref (a 1)) (C := RX4) (T := TX4) (N := 12) hx hb hts hinX4 hown hK hP 0 rfl rfl 0 (by decide) (hts (.fieldLink RX4 9 "ChargeStages$State" "settings" "[I") (List.mem_of_getElem? (i := 2) rfl)) rfl dX4_allows_55 ?_
      refine lv_bipush (v := 6) hx hb dX4_allows_58 (by decide) ?_
      refine g_ld (n := 9) (f := st) (v := st 6) (k := 6) hx hb hK hP 1 rfl (by decide) (by unfold vp_in; decide) rfl dX4_allows_60 ?_
      refine lv_icmp_gt (tgt := 68) hx hb dX4_allows_61 (by decide) (fun c6 => ?_) (fun c6 => ?_)
      · rw [if_pos c6] at hR
        refine lv_iconst (v := 0) hx hb dX4_allows_68 (by decide) ?_
        subst hR
        exact g_retz hx hb hr hlocks hS rfl dX4_allows_69 rfl hP
      · rw [if_neg c6] at hR
        refine lv_iconst (v := 1) hx hb dX4_allows_64 (by decide) ?_
        refine lv_goto (tgt := 69) hx hb dX4_allows_65 (by decide) ?_
        subst hR
        exact g_retz hx hb hr hlocks hS rfl dX4_allows_69 rfl hP
    · rw [if_neg c5] at hR
      by_cases c7 : p1 = 6
      · rw [if_pos c7] at hR
        refine lv_lookup (tgt := 70) (off := 69) hx hb dX4_allows_1 (by decide) (by rw [c7]; rfl) (by decide) ?_
        refine lv_iload_n hx hb dX4_allows_70 rfl (lv_at hl 2 rfl) ?_
        refine lv_aload_n hx hb dX4_allows_71 rfl (lv_at hl 0 rfl) ?_
        refine g_get (ci := 4) (v := .ref (a 1)) (C := RX4) (T := TX4) (N := 12) hx hb hts hinX4 hown hK hP 0 rfl rfl 0 (by decide) (hts (.fieldLink RX4 9 "ChargeStages$State" "settings" "[I") (List.mem_of_getElem? (i := 2) rfl)) rfl dX4_allows_72 ?_
        refine lv_iconst (v := 5) hx hb dX4_allows_75 (by decide) ?_
        refine g_ld (n := 9) (f := st) (v := st 5) (k := 5) hx hb hK hP 1 rfl (by decide) (by unfold vp_in; decide) rfl dX4_allows_76 ?_
        refine lv_icmp_lt (tgt := 84) hx hb dX4_allows_77 (by decide) (fun c8 => ?_) (fun c8 => ?_)
        · rw [if_pos c8] at hR
          refine lv_iconst (v := 0) hx hb dX4_allows_84 (by decide) ?_
          subst hR
          exact g_retz hx hb hr hlocks hS rfl dX4_allows_85 rfl hP
        · rw [if_neg c8] at hR
          refine lv_iconst (v := 1) hx hb dX4_allows_80 (by decide) ?_
          refine lv_goto (tgt := 85) hx hb dX4_allows_81 (by decide) ?_
          subst hR
          exact g_retz hx hb hr hlocks hS rfl dX4_allows_85 rfl hP
      · rw [if_neg c7] at hR
        refine lv_lookup (tgt := 86) (off := 85) hx hb dX4_allows_1 (by decide) (g_lk3 c1 c5 c7) (by decide) ?_
        refine lv_iconst (v := 1) hx hb dX4_allows_86 (by decide) ?_
        subst hR
        exact g_retz hx hb hr hlocks hS rfl dX4_allows_87 rfl hP
def f_X4_isPaused (o : (Nat → Int32)) (st : (Nat → Int32)) : Int32 := (if (o 0) = 1 then (gL (f_X6_isIn (st 3) (st 5) (st 6)) (fun (R2 : Int32) => (if R2 = 0 then 1 else 0))) else 0)
set_option maxHeartbeats 4000000 in
set_option maxRecDepth 100000 in
theorem c_X4_isPaused (l : Launch) (G : gG) (a : Nat → Nat) (o : (Nat → Int32)) (st : (Nat → Int32)) (R : Int32) (hR : R = f_X4_isPaused o st) : CT l G yX4_isPaused wsX4_isPaused 1 22 [.ref (a 0)] [OW G a o, AW G (a 1) 9 st] (some (.int R)) [OW G a o, AW G (a 1) 9 st] := by
  unfold f_X4_isPaused at hR
  refine CT.of (cc := cX4_isPaused) (maxL := 1) (ret := (some .boolean)) (plainFor_of_name (by decide +kernel)) rfl rfl (Nat.le_of_ble_eq_true rfl) ?_
  intro p e s m below meth c A ls hx hb hml hr hts hown hlocks hK hP hD hA hS hl
  have hown : s.vm.findClass RX4 = some m.cls := hown
  have hl : lv_has ls 1 [(0, .ref (a 0))] := hl
  have hinX4 : ∀ w ∈ wsX40, w ∈ wsX4_isPaused := fun w h => List.mem_cons_of_mem _ (List.mem_append_right _ h)
  refine lv_aload_n hx hb dX4_isPaused_0 rfl (lv_at hl 0 rfl) ?_
  refine g_get (ci := 4) (v := .int (o 0)) (C := RX4) (T := TX4) (N := 12) hx hb hts hinX4 hown hK hP 0 rfl rfl 4 (by decide) (hts (.fieldLink RX4 36 "ChargeStages$State" "mode" "I") (List.mem_of_getElem? (i := 1) rfl)) rfl dX4_isPaused_1 ?_
  refine lv_iconst (v := 1) hx hb dX4_isPaused_4 (by decide) ?_
  refine lv_icmp_ne (tgt := 37) hx hb dX4_isPaused_5 (by decide) (fun c1 => ?_) (fun c1 => ?_)
  · rw [if_neg c1] at hR
    refine lv_iconst (v := 0) hx hb dX4_isPaused_37 (by decide) ?_
    subst hR
    exact g_retz hx hb hr hlocks hS rfl dX4_isPaused_38 rfl hP
  · rw [if_pos c1] at hR
    refine lv_aload_n hx hb dX4_isPaused_8 rfl (lv_at hl 0 rfl) ?_
    refine g_get (ci := 4) (v := .ref (a 1)) (C := RX4) (T := TX4) (N := 12) hx hb hts hinX4 hown hK hP 0 rfl rfl 0 (by decide) (hts (.fieldLink RX4 9 "ChargeStages$State" "settings" "[I") (List.mem_of_getElem? (i := 2) rfl)) rfl dX4_isPaused_9 ?_
    refine lv_iconst (v := 3) hx hb dX4_isPaused_12 (by decide) ?_
    refine g_ld (n := 9) (f := st) (v := st 3) (k := 3) hx hb hK hP 1 rfl (by decide) (by unfold vp_in; decide) rfl dX4_isPaused_13 ?_
    refine lv_aload_n hx hb dX4_isPaused_14 rfl (lv_at hl 0 rfl) ?_
    refine g_get (ci := 4) (v := .ref (a 1)) (C := RX4) (T := TX4) (N := 12) hx hb hts hinX4 hown hK hP 0 rfl rfl 0 (by decide) (hts (.fieldLink RX4 9 "ChargeStages$State" "settings" "[I") (List.mem_of_getElem? (i := 2) rfl)) rfl dX4_isPaused_15 ?_
    refine lv_iconst (v := 5) hx hb dX4_isPaused_18 (by decide) ?_
    refine g_ld (n := 9) (f := st) (v := st 5) (k := 5) hx hb hK hP 1 rfl (by decide) (by unfold vp_in; decide) rfl dX4_isPaused_19 ?_
    refine lv_aload_n hx hb dX4_isPaused_20 rfl (lv_at hl 0 rfl) ?_
    refine g_get (ci := 4) (v := .ref (a 1)) (C := RX4) (T := TX4) (N := 12) hx hb hts hinX4 hown hK hP 0 rfl rfl 0 (by decide) (hts (.fieldLink RX4 9 "ChargeStages$State" "settings" "[I") (List.mem_of_getElem? (i := 2) rfl)) rfl dX4_isPaused_21 ?_
    refine lv_bipush (v := 6) hx hb dX4_isPaused_24 (by decide) ?_
    refine g_ld (n := 9) (f := st) (v := st 6) (k := 6) hx hb hK hP 1 rfl (by decide) (by unfold vp_in; decide) rfl dX4_isPaused_26 ?_
    obtain ⟨R2, eR2, hR⟩ := g_let hR
    refine g_callN (host := RX6) (c_X6_isIn l G (st 3) (st 5) (st 6) R2 eR2) hx hb hml hown hts hK hP hD hS hA gX4_isPaused_X6_isIn_n85 rfl (n := 3) (by decide +kernel) (List.mem_of_getElem? (i := 4) rfl) (List.mem_of_getElem? (i := 3) rfl) (by decide +kernel) rfl ⟨Nat.le_of_ble_eq_true rfl, Nat.le_of_ble_eq_true rfl⟩ [] rfl (by decide) hl.1 rfl (Nat.le_of_ble_eq_true rfl) ⟨Nat.zero_le _, Nat.zero_le _⟩ dX4_isPaused_27 (fun H locs hP hD hS => ?_)
    have hP : va_P G.1 vwCl (List.flatten [OW G a o, AW G (a 1) 9 st]) H := hP
    have hD : va_D A (List.flatten [OW G a o, AW G (a 1) 9 st]) := hD
    refine lv_if_ne (tgt := 37) hx hb dX4_isPaused_30 (by decide) (fun c4 => ?_) (fun c4 => ?_)
    · rw [if_neg c4] at hR
      refine lv_iconst (v := 0) hx hb dX4_isPaused_37 (by decide) ?_
      subst hR
      exact g_retz hx hb hr hlocks hS rfl dX4_isPaused_38 rfl hP
    · rw [if_pos c4] at hR
      refine lv_iconst (v := 1) hx hb dX4_isPaused_33 (by decide) ?_
      refine lv_goto (tgt := 38) hx hb dX4_isPaused_34 (by decide) ?_
      subst hR
      exact g_retz hx hb hr hlocks hS rfl dX4_isPaused_38 rfl hP
def f_X4_limitOfNow (st : (Nat → Int32)) (pf : (Nat → Nat → Int32)) (p1 : Int32) : Int32 := (gL (f_X3_limitOf pf p1) (fun (R1 : Int32) => (R1 - ((st 4) * ((st 3) - 25)))))
def ok_X4_limitOfNow (pf : (Nat → Nat → Int32)) (p1 : Int32) : Prop := (ok_X3_limitOf pf p1) ∧ True
set_option maxHeartbeats 4000000 in
set_option maxRecDepth 100000 in
theorem c_X4_limitOfNow (l : Launch) (G : gG) (a : Nat → Nat) (o : (Nat → Int32)) (st : (Nat → Int32)) (pf : (Nat → Nat → Int32)) (p1 : Int32) (R : Int32) (hR : R = f_X4_limitOfNow st pf p1) (hok : ok_X4_limitOfNow pf p1) : CT l G yX4_limitOfNow wsX4_limitOfNow 1 21 [.ref (a 0), .int p1] [OW G a o, AW G (a 1) 9 st, PW G (fun k => a (k + 10)) pf] (some (.int R)) [OW G a o, AW G (a 1) 9 st, PW G (fun k => a (k + 10)) pf] := by
  unfold f_X4_limitOfNow at hR
  unfold ok_X4_limitOfNow at hok
  refine CT.of (cc := cX4_limitOfNow) (maxL := 2) (ret := (some .int)) (plainFor_of_name (by decide +kernel)) rfl rfl (Nat.le_of_ble_eq_true rfl) ?_
  intro p e s m below meth c A ls hx hb hml hr hts hown hlocks hK hP hD hA hS hl
  have hown : s.vm.findClass RX4 = some m.cls := hown
  have hl : lv_has ls 2 [(0, .ref (a 0)), (1, .int p1)] := hl
  have hinX4 : ∀ w ∈ wsX40, w ∈ wsX4_limitOfNow := fun w h => List.mem_cons_of_mem _ (List.mem_append_left _ (List.mem_append_right _ h))
  refine lv_aload_n hx hb dX4_limitOfNow_0 rfl (lv_at hl 0 rfl) ?_
  refine g_get (ci := 4) (v := .ref (a 10)) (C := RX4) (T := TX4) (N := 12) hx hb hts hinX4 hown hK hP 0 rfl rfl 2 (by decide) (hts (.fieldLink RX4 25 "ChargeStages$State" "profile" "LChargeStages$Profile;") (List.mem_of_getElem? (i := 1) rfl)) rfl dX4_limitOfNow_1 ?_
  refine lv_iload_n hx hb dX4_limitOfNow_4 rfl (lv_at hl 1 rfl) ?_
  obtain ⟨k2, hok⟩ := hok
  obtain ⟨R1, eR1, hR⟩ := g_let hR
  refine g_callV (c_X3_limitOf l G (fun k => a (k + 10)) pf p1 R1 eR1 k2) hx hb hml hown hts hK hP hD hS hA gX4_limitOfNow_X3_limitOf rfl (n := 1) (by decide +kernel) rfl ⟨Nat.le_of_ble_eq_true rfl, Nat.le_of_ble_eq_true rfl⟩ [2] rfl (by decide) 2 rfl (ci := 3) rfl hl.1 rfl (Nat.le_of_ble_eq_true rfl) ⟨Nat.zero_le _, Nat.zero_le _⟩ dX4_limitOfNow_5 (fun H locs hP hD hS => ?_)
  have hP : va_P G.1 vwCl (List.flatten [OW G a o, AW G (a 1) 9 st, PW G (fun k => a (k + 10)) pf]) H := hP
  have hD : va_D A (List.flatten [OW G a o, AW G (a 1) 9 st, PW G (fun k => a (k + 10)) pf]) := hD
  refine lv_aload_n hx hb dX4_limitOfNow_8 rfl (lv_at hl 0 rfl) ?_
  refine g_get (ci := 4) (v := .ref (a 1)) (C := RX4) (T := TX4) (N := 12) hx hb hts hinX4 hown hK hP 0 rfl rfl 0 (by decide) (hts (.fieldLink RX4 9 "ChargeStages$State" "settings" "[I") (List.mem_of_getElem? (i := 2) rfl)) rfl dX4_limitOfNow_9 ?_
  refine lv_iconst (v := 4) hx hb dX4_limitOfNow_12 (by decide) ?_
  refine g_ld (n := 9) (f := st) (v := st 4) (k := 4) hx hb hK hP 1 rfl (by decide) (by unfold vp_in; decide) rfl dX4_limitOfNow_13 ?_
  refine lv_aload_n hx hb dX4_limitOfNow_14 rfl (lv_at hl 0 rfl) ?_
  refine g_get (ci := 4) (v := .ref (a 1)) (C := RX4) (T := TX4) (N := 12) hx hb hts hinX4 hown hK hP 0 rfl rfl 0 (by decide) (hts (.fieldLink RX4 9 "ChargeStages$State" "settings" "[I") (List.mem_of_getElem? (i := 2) rfl)) rfl dX4_limitOfNow_15 ?_
  refine lv_iconst (v := 3) hx hb dX4_limitOfNow_18 (by decide) ?_
  refine g_ld (n := 9) (f := st) (v := st 3) (k := 3) hx hb hK hP 1 rfl (by decide) (by unfold vp_in; decide) rfl dX4_limitOfNow_19 ?_
  refine lv_bipush (v := 25) hx hb dX4_limitOfNow_20 (by decide) ?_
  refine lv_isub hx hb dX4_limitOfNow_22 ?_
  refine lv_imul hx hb dX4_limitOfNow_23 ?_
  refine lv_isub hx hb dX4_limitOfNow_24 ?_
  subst hR
  exact g_ret hx hb hr hlocks hS dX4_limitOfNow_25 rfl hP
def f_X4_greatestVoltage (st : (Nat → Int32)) (b : (Nat → Nat → Int32)) (p1 : Int32) : Int32 := (gL (f_X0_greatestCharge b) (fun (R1 : Int32) => (gL (f_X6_baseVoltage R1 (st 0)) (fun (R3 : Int32) => (R3 + ((p1 * (st 1)) / 1000))))))
def ok_X4_greatestVoltage (st : (Nat → Int32)) (b : (Nat → Nat → Int32)) : Prop := (ok_X0_greatestCharge b) ∧ (gL (f_X0_greatestCharge b) (fun (R1 : Int32) => (ok_X6_baseVoltage (st 0)) ∧ True))
set_option maxHeartbeats 4000000 in
set_option maxRecDepth 100000 in
theorem c_X4_greatestVoltage (l : Launch) (G : gG) (a : Nat → Nat) (o : (Nat → Int32)) (st : (Nat → Int32)) (b : (Nat → Nat → Int32)) (p1 : Int32) (R : Int32) (hR : R = f_X4_greatestVoltage st b p1) (hok : ok_X4_greatestVoltage st b) : CT l G yX4_greatestVoltage wsX4_greatestVoltage 2 35 [.ref (a 0), .int p1] [OW G a o, AW G (a 1) 9 st, BW G (fun k => a (k + 2)) b] (some (.int R)) [OW G a o, AW G (a 1) 9 st, BW G (fun k => a (k + 2)) b] := by
  unfold f_X4_greatestVoltage at hR
  unfold ok_X4_greatestVoltage at hok
  refine CT.of (cc := cX4_greatestVoltage) (maxL := 2) (ret := (some .int)) (plainFor_of_name (by decide +kernel)) rfl rfl (Nat.le_of_ble_eq_true rfl) ?_
  intro p e s m below meth c A ls hx hb hml hr hts hown hlocks hK hP hD hA hS hl
  have hown : s.vm.findClass RX4 = some m.cls := hown
  have hl : lv_has ls 2 [(0, .ref (a 0)), (1, .int p1)] := hl
  have hinX4 : ∀ w ∈ wsX40, w ∈ wsX4_greatestVoltage := fun w h => List.mem_cons_of_mem _ (List.mem_append_left _ (List.mem_append_right _ h))
  refine lv_aload_n hx hb dX4_greatestVoltage_0 rfl (lv_at hl 0 rfl) ?_
  refine g_get (ci := 4) (v := .ref (a 2)) (C := RX4) (T := TX4) (N := 12) hx hb hts hinX4 hown hK hP 0 rfl rfl 1 (by decide) (hts (.fieldLink RX4 18 "ChargeStages$State" "row" "LChargeStages$Battery;") (List.mem_of_getElem? (i := 1) rfl)) rfl dX4_greatestVoltage_1 ?_
  obtain ⟨k2, hok⟩ := hok
  obtain ⟨R1, eR1, hR, hok⟩ := g_let2 hR hok
  refine g_callV (c_X0_greatestCharge l G (fun k => a (k + 2)) b R1 eR1 k2) hx hb hml hown hts hK hP hD hS hA gX4_greatestVoltage_X0_greatestCharge rfl (n := 0) (by decide +kernel) rfl ⟨Nat.le_of_ble_eq_true rfl, Nat.le_of_ble_eq_true rfl⟩ [2] rfl (by decide) 2 rfl (ci := 0) rfl hl.1 rfl (Nat.le_of_ble_eq_true rfl) ⟨Nat.zero_le _, Nat.zero_le _⟩ dX4_greatestVoltage_4 (fun H locs hP hD hS => ?_)
  have hP : va_P G.1 vwCl (List.flatten [OW G a o, AW G (a 1) 9 st, BW G (fun k => a (k + 2)) b]) H := hP
  have hD : va_D A (List.flatten [OW G a o, AW G (a 1) 9 st, BW G (fun k => a (k + 2)) b]) := hD
  refine lv_aload_n hx hb dX4_greatestVoltage_7 rfl (lv_at hl 0 rfl) ?_
  refine g_get (ci := 4) (v := .ref (a 1)) (C := RX4) (T := TX4) (N := 12) hx hb hts hinX4 hown hK hP 0 rfl rfl 0 (by decide) (hts (.fieldLink RX4 9 "ChargeStages$State" "settings" "[I") (List.mem_of_getElem? (i := 2) rfl)) rfl dX4_greatestVoltage_8 ?_
  refine lv_iconst (v := 0) hx hb dX4_greatestVoltage_11 (by decide) ?_
  refine g_ld (n := 9) (f := st) (v := st 0) (k := 0) hx hb hK hP 1 rfl (by decide) (by unfold vp_in; decide) rfl dX4_greatestVoltage_12 ?_
  obtain ⟨k4, hok⟩ := hok
  obtain ⟨R3, eR3, hR⟩ := g_let hR
  refine g_callN (host := RX6) (c_X6_baseVoltage l G R1 (st 0) R3 eR3 k4) hx hb hml hown hts hK hP hD hS hA gX4_greatestVoltage_X6_baseVoltage_n93 rfl (n := 2) (by decide +kernel) (List.mem_of_getElem? (i := 15) rfl) (List.mem_of_getElem? (i := 14) rfl) (by decide +kernel) rfl ⟨Nat.le_of_ble_eq_true rfl, Nat.le_of_ble_eq_true rfl⟩ [] rfl (by decide) hl.1 rfl (Nat.le_of_ble_eq_true rfl) ⟨Nat.zero_le _, Nat.zero_le _⟩ dX4_greatestVoltage_13 (fun H locs hP hD hS => ?_)
  have hP : va_P G.1 vwCl (List.flatten [OW G a o, AW G (a 1) 9 st, BW G (fun k => a (k + 2)) b]) H := hP
  have hD : va_D A (List.flatten [OW G a o, AW G (a 1) 9 st, BW G (fun k => a (k + 2)) b]) := hD
  refine lv_iload_n hx hb dX4_greatestVoltage_16 rfl (lv_at hl 1 rfl) ?_
  refine lv_aload_n hx hb dX4_greatestVoltage_17 rfl (lv_at hl 0 rfl) ?_
  refine g_get (ci := 4) (v := .ref (a 1)) (C := RX4) (T := TX4) (N := 12) hx hb hts hinX4 hown hK hP 0 rfl rfl 0 (by decide) (hts (.fieldLink RX4 9 "ChargeStages$State" "settings" "[I") (List.mem_of_getElem? (i := 2) rfl)) rfl dX4_greatestVoltage_18 ?_
  refine lv_iconst (v := 1) hx hb dX4_greatestVoltage_21 (by decide) ?_
  refine g_ld (n := 9) (f := st) (v := st 1) (k := 1) hx hb hK hP 1 rfl (by decide) (by unfold vp_in; decide) rfl dX4_greatestVoltage_22 ?_
  refine lv_imul hx hb dX4_greatestVoltage_23 ?_
  refine lv_sipush (v := 1000) hx hb dX4_greatestVoltage_24 (by decide) ?_
  refine lv_idiv hx hb dX4_greatestVoltage_27 (by decide) ?_
  refine lv_iadd hx hb dX4_greatestVoltage_28 ?_
  subst hR
  exact g_ret hx hb hr hlocks hS dX4_greatestVoltage_29 rfl hP
def f_X4_begin (o : (Nat → Int32)) (g : (Nat → Nat → Int32)) (p1 : Int32) : (Nat → Int32) × (Nat → Nat → Int32) := (gL (f_X2_add g 0 (o 3) p1) (fun (R1 : (Nat → Nat → Int32)) => ((upd (upd o 1 p1) 2 0), R1)))
def ok_X4_begin (o : (Nat → Int32)) (g : (Nat → Nat → Int32)) : Prop := (ok_X2_add g 0 (o 3)) ∧ True
set_option maxHeartbeats 4000000 in
set_option maxRecDepth 100000 in
theorem c_X4_begin (l : Launch) (G : gG) (a : Nat → Nat) (o : (Nat → Int32)) (g : (Nat → Nat → Int32)) (p1 : Int32) (R : (Nat → Int32) × (Nat → Nat → Int32)) (hR : R = f_X4_begin o g p1) (hok : ok_X4_begin o g) : CT l G yX4_begin wsX4_begin 1 23 [.ref (a 0), .int p1] [OW G a o, LW G (fun k => a (k + 15)) g] none [OW G a R.1, LW G (fun k => a (k + 15)) R.2] := by
  unfold f_X4_begin at hR
  unfold ok_X4_begin at hok
  refine CT.of (cc := cX4_begin) (maxL := 2) (ret := none) (plainFor_of_name (by decide +kernel)) rfl rfl (Nat.le_of_ble_eq_true rfl) ?_
  intro p e s m below meth c A ls hx hb hml hr hts hown hlocks hK hP hD hA hS hl
  have hown : s.vm.findClass RX4 = some m.cls := hown
  have hl : lv_has ls 2 [(0, .ref (a 0)), (1, .int p1)] := hl
  have hinX4 : ∀ w ∈ wsX40, w ∈ wsX4_begin := fun w h => List.mem_cons_of_mem _ (List.mem_append_left _ (List.mem_append_right _ h))
  refine lv_aload_n hx hb dX4_begin_0 rfl (lv_at hl 0 rfl) ?_
  refine lv_iload_n hx hb dX4_begin_1 rfl (lv_at hl 1 rfl) ?_
  refine g_put (ci := 4) (v := .int p1) (ty := .int) (C := RX4) (T := TX4) (N := 12) (B2 := [OW G a (upd o 1 p1), LW G (fun k => a (k + 15)) g]) hx hb hts hinX4 tyX4 tyX4_ok nmX4 hown hK hP hD hS 0 rfl rfl 5 (by decide) (hts (.fieldLink RX4 40 "ChargeStages$State" "stage" "I") (List.mem_of_getElem? (i := 1) rfl)) rfl (by decide +kernel) rfl rfl (Nat.le_of_ble_eq_true rfl) rfl dX4_begin_2 (fun H locs hP hD hS => ?_)
  refine lv_aload_n hx hb dX4_begin_5 rfl (lv_at hl 0 rfl) ?_
  refine lv_iconst (v := 0) hx hb dX4_begin_6 (by decide) ?_
  refine g_put (ci := 4) (v := .int 0) (ty := .int) (C := RX4) (T := TX4) (N := 12) (B2 := [OW G a (upd (upd o 1 p1) 2 0), LW G (fun k => a (k + 15)) g]) hx hb hts hinX4 tyX4 tyX4_ok nmX4 hown hK hP hD hS 0 rfl rfl 6 (by decide) (hts (.fieldLink RX4 43 "ChargeStages$State" "lasted" "I") (List.mem_of_getElem? (i := 2) rfl)) rfl (by decide +kernel) rfl rfl (Nat.le_of_ble_eq_true rfl) rfl dX4_begin_7 (fun H locs hP hD hS => ?_)
  refine lv_aload_n hx hb dX4_begin_10 rfl (lv_at hl 0 rfl) ?_
  refine g_get (ci := 4) (v := .ref (a 15)) (C := RX4) (T := TX4) (N := 12) hx hb hts hinX4 hown hK hP 0 rfl rfl 3 (by decide) (hts (.fieldLink RX4 32 "ChargeStages$State" "log" "LChargeStages$Log;") (List.mem_of_getElem? (i := 3) rfl)) rfl dX4_begin_11 ?_
  refine lv_iconst (v := 0) hx hb dX4_begin_14 (by decide) ?_
  refine lv_aload_n hx hb dX4_begin_15 rfl (lv_at hl 0 rfl) ?_
  refine g_get (ci := 4) (v := .int (o 3)) (C := RX4) (T := TX4) (N := 12) hx hb hts hinX4 hown hK hP 0 rfl rfl 7 (by decide) (hts (.fieldLink RX4 46 "ChargeStages$State" "tick" "I") (List.mem_of_getElem? (i := 4) rfl)) rfl dX4_begin_16 ?_
  refine lv_aload_n hx hb dX4_begin_19 rfl (lv_at hl 0 rfl) ?_
  refine g_get (ci := 4) (v := .int p1) (C := RX4) (T := TX4) (N := 12) hx hb hts hinX4 hown hK hP 0 rfl rfl 5 (by decide) (hts (.fieldLink RX4 40 "ChargeStages$State" "stage" "I") (List.mem_of_getElem? (i := 1) rfl)) rfl dX4_begin_20 ?_
  obtain ⟨k2, hok⟩ := hok
  obtain ⟨R1, eR1, hR⟩ := g_let hR
  refine g_callV (c_X2_add l G (fun k => a (k + 15)) g 0 (o 3) p1 R1 eR1 k2) hx hb hml hown hts hK hP hD hS hA gX4_begin_X2_add rfl (n := 3) (by decide +kernel) rfl ⟨Nat.le_of_ble_eq_true rfl, Nat.le_of_ble_eq_true rfl⟩ [1] rfl (by decide) 1 rfl (ci := 2) rfl hl.1 rfl (Nat.le_of_ble_eq_true rfl) ⟨Nat.zero_le _, Nat.zero_le _⟩ dX4_begin_23 (fun H locs hP hD hS => ?_)
  have hP : va_P G.1 vwCl (List.flatten [OW G a (upd (upd o 1 p1) 2 0), LW G (fun k => a (k + 15)) R1]) H := hP
  have hD : va_D A (List.flatten [OW G a (upd (upd o 1 p1) 2 0), LW G (fun k => a (k + 15)) R1]) := hD
  subst hR
  exact g_retv hx hb hr hlocks hS dX4_begin_26 rfl hP
def f_X4_beginCharging (o : (Nat → Int32)) (g : (Nat → Nat → Int32)) : (Nat → Int32) × (Nat → Nat → Int32) := (gL (f_X4_begin (upd (upd o 0 1) 5 0) g 0) (fun (R1 : (Nat → Int32) × (Nat → Nat → Int32)) => (R1.1, R1.2)))
def ok_X4_beginCharging (o : (Nat → Int32)) (g : (Nat → Nat → Int32)) : Prop := (ok_X4_begin (upd (upd o 0 1) 5 0) g) ∧ True
set_option maxHeartbeats 4000000 in
set_option maxRecDepth 100000 in
theorem c_X4_beginCharging (l : Launch) (G : gG) (a : Nat → Nat) (o : (Nat → Int32)) (g : (Nat → Nat → Int32)) (R : (Nat → Int32) × (Nat → Nat → Int32)) (hR : R = f_X4_beginCharging o g) (hok : ok_X4_beginCharging o g) : CT l G yX4_beginCharging wsX4_beginCharging 2 44 [.ref (a 0)] [OW G a o, LW G (fun k => a (k + 15)) g] none [OW G a R.1, LW G (fun k => a (k + 15)) R.2] := by
  unfold f_X4_beginCharging at hR
  unfold ok_X4_beginCharging at hok
  refine CT.of (cc := cX4_beginCharging) (maxL := 1) (ret := none) (plainFor_of_name (by decide +kernel)) rfl rfl (Nat.le_of_ble_eq_true rfl) ?_
  intro p e s m below meth c A ls hx hb hml hr hts hown hlocks hK hP hD hA hS hl
  have hown : s.vm.findClass RX4 = some m.cls := hown
  have hl : lv_has ls 1 [(0, .ref (a 0))] := hl
  have hinX4 : ∀ w ∈ wsX40, w ∈ wsX4_beginCharging := fun w h => List.mem_cons_of_mem _ (List.mem_append_left _ (List.mem_append_right _ h))
  refine lv_aload_n hx hb dX4_beginCharging_0 rfl (lv_at hl 0 rfl) ?_
  refine lv_iconst (v := 1) hx hb dX4_beginCharging_1 (by decide) ?_
  refine g_put (ci := 4) (v := .int 1) (ty := .int) (C := RX4) (T := TX4) (N := 12) (B2 := [OW G a (upd o 0 1), LW G (fun k => a (k + 15)) g]) hx hb hts hinX4 tyX4 tyX4_ok nmX4 hown hK hP hD hS 0 rfl rfl 4 (by decide) (hts (.fieldLink RX4 36 "ChargeStages$State" "mode" "I") (List.mem_of_getElem? (i := 1) rfl)) rfl (by decide +kernel) rfl rfl (Nat.le_of_ble_eq_true rfl) rfl dX4_beginCharging_2 (fun H locs hP hD hS => ?_)
  refine lv_aload_n hx hb dX4_beginCharging_5 rfl (lv_at hl 0 rfl) ?_
  refine lv_iconst (v := 0) hx hb dX4_beginCharging_6 (by decide) ?_
  refine g_put (ci := 4) (v := .int 0) (ty := .boolean) (C := RX4) (T := TX4) (N := 12) (B2 := [OW G a (upd (upd o 0 1) 5 0), LW G (fun k => a (k + 15)) g]) hx hb hts hinX4 tyX4 tyX4_ok nmX4 hown hK hP hD hS 0 rfl rfl 9 (by decide) (hts (.fieldLink RX4 52 "ChargeStages$State" "wasPaused" "Z") (List.mem_of_getElem? (i := 2) rfl)) rfl (by decide +kernel) rfl rfl (Nat.le_of_ble_eq_true rfl) rfl dX4_beginCharging_7 (fun H locs hP hD hS => ?_)
  refine lv_aload_n hx hb dX4_beginCharging_10 rfl (lv_at hl 0 rfl) ?_
  refine lv_iconst (v := 0) hx hb dX4_beginCharging_11 (by decide) ?_
  obtain ⟨k2, hok⟩ := hok
  obtain ⟨R1, eR1, hR⟩ := g_let hR
  refine g_callV (c_X4_begin l G a (upd (upd o 0 1) 5 0) g 0 R1 eR1 k2) hx hb hml hown hts hK hP hD hS hA gX4_beginCharging_X4_begin rfl (n := 1) (by decide +kernel) rfl ⟨Nat.le_of_ble_eq_true rfl, Nat.le_of_ble_eq_true rfl⟩ [0, 1] rfl (by decide) 0 rfl (ci := 4) rfl hl.1 rfl (Nat.le_of_ble_eq_true rfl) ⟨Nat.zero_le _, Nat.zero_le _⟩ dX4_beginCharging_12 (fun H locs hP hD hS => ?_)
  have hP : va_P G.1 vwCl (List.flatten [OW G a R1.1, LW G (fun k => a (k + 15)) R1.2]) H := hP
  have hD : va_D A (List.flatten [OW G a R1.1, LW G (fun k => a (k + 15)) R1.2]) := hD
  subst hR
  exact g_retv hx hb hr hlocks hS dX4_beginCharging_15 rfl hP
def f_X4_countPausedTick (o : (Nat → Int32)) (g : (Nat → Nat → Int32)) : (Nat → Int32) × (Nat → Nat → Int32) := (if (o 5) = 0 then (gL (f_X2_add g 3 (o 3) (o 1)) (fun (R2 : (Nat → Nat → Int32)) => ((upd o 4 ((o 4) + 1)), R2))) else ((upd o 4 ((o 4) + 1)), g))
def ok_X4_countPausedTick (o : (Nat → Int32)) (g : (Nat → Nat → Int32)) : Prop := (((o 5) = 0 → (ok_X2_add g 3 (o 3)) ∧ True) ∧ (¬ (o 5) = 0 → True))
set_option maxHeartbeats 4000000 in
set_option maxRecDepth 100000 in
theorem c_X4_countPausedTick (l : Launch) (G : gG) (a : Nat → Nat) (o : (Nat → Int32)) (g : (Nat → Nat → Int32)) (R : (Nat → Int32) × (Nat → Nat → Int32)) (hR : R = f_X4_countPausedTick o g) (hok : ok_X4_countPausedTick o g) : CT l G yX4_countPausedTick wsX4_countPausedTick 1 23 [.ref (a 0)] [OW G a o, LW G (fun k => a (k + 15)) g] none [OW G a R.1, LW G (fun k => a (k + 15)) R.2] := by
  unfold f_X4_countPausedTick at hR
  unfold ok_X4_countPausedTick at hok
  refine CT.of (cc := cX4_countPausedTick) (maxL := 1) (ret := none) (plainFor_of_name (by decide +kernel)) rfl rfl (Nat.le_of_ble_eq_true rfl) ?_
  intro p e s m below meth c A ls hx hb hml hr hts hown hlocks hK hP hD hA hS hl
  have hown : s.vm.findClass RX4 = some m.cls := hown
  have hl : lv_has ls 1 [(0, .ref (a 0))] := hl
  have hinX4 : ∀ w ∈ wsX40, w ∈ wsX4_countPausedTick := fun w h => List.mem_cons_of_mem _ (List.mem_append_left _ (List.mem_append_right _ h))
  refine lv_aload_n hx hb dX4_countPausedTick_0 rfl (lv_at hl 0 rfl) ?_
  refine g_get (ci := 4) (v := .int (o 5)) (C := RX4) (T := TX4) (N := 12) hx hb hts hinX4 hown hK hP 0 rfl rfl 9 (by decide) (hts (.fieldLink RX4 52 "ChargeStages$State" "wasPaused" "Z") (List.mem_of_getElem? (i := 1) rfl)) rfl dX4_countPausedTick_1 ?_
  refine lv_if_ne (tgt := 23) hx hb dX4_countPausedTick_4 (by decide) (fun c1 => ?_) (fun c1 => ?_)
  · rw [if_neg c1] at hR
    have hok := hok.2 c1
    refine lv_aload_n hx hb dX4_countPausedTick_23 rfl (lv_at hl 0 rfl) ?_
    refine lv_dup hx hb dX4_countPausedTick_24 rfl ?_
    refine g_get (ci := 4) (v := .int (o 4)) (C := RX4) (T := TX4) (N := 12) hx hb hts hinX4 hown hK hP 0 rfl rfl 8 (by decide) (hts (.fieldLink RX4 49 "ChargeStages$State" "pausedTicks" "I") (List.mem_of_getElem? (i := 5) rfl)) rfl dX4_countPausedTick_25 ?_
    refine lv_iconst (v := 1) hx hb dX4_countPausedTick_28 (by decide) ?_
    refine lv_iadd hx hb dX4_countPausedTick_29 ?_
    refine g_put (ci := 4) (v := .int ((o 4) + 1)) (ty := .int) (C := RX4) (T := TX4) (N := 12) (B2 := [OW G a (upd o 4 ((o 4) + 1)), LW G (fun k => a (k + 15)) g]) hx hb hts hinX4 tyX4 tyX4_ok nmX4 hown hK hP hD hS 0 rfl rfl 8 (by decide) (hts (.fieldLink RX4 49 "ChargeStages$State" "pausedTicks" "I") (List.mem_of_getElem? (i := 5) rfl)) rfl (by decide +kernel) rfl rfl (Nat.le_of_ble_eq_true rfl) rfl dX4_countPausedTick_30 (fun H locs hP hD hS => ?_)
    subst hR
    exact g_retv hx hb hr hlocks hS dX4_countPausedTick_33 rfl hP
  · rw [if_pos c1] at hR
    have hok := hok.1 c1
    refine lv_aload_n hx hb dX4_countPausedTick_7 rfl (lv_at hl 0 rfl) ?_
    refine g_get (ci := 4) (v := .ref (a 15)) (C := RX4) (T := TX4) (N := 12) hx hb hts hinX4 hown hK hP 0 rfl rfl 3 (by decide) (hts (.fieldLink RX4 32 "ChargeStages$State" "log" "LChargeStages$Log;") (List.mem_of_getElem? (i := 2) rfl)) rfl dX4_countPausedTick_8 ?_
    refine lv_iconst (v := 3) hx hb dX4_countPausedTick_11 (by decide) ?_
    refine lv_aload_n hx hb dX4_countPausedTick_12 rfl (lv_at hl 0 rfl) ?_
    refine g_get (ci := 4) (v := .int (o 3)) (C := RX4) (T := TX4) (N := 12) hx hb hts hinX4 hown hK hP 0 rfl rfl 7 (by decide) (hts (.fieldLink RX4 46 "ChargeStages$State" "tick" "I") (List.mem_of_getElem? (i := 3) rfl)) rfl dX4_countPausedTick_13 ?_
    refine lv_aload_n hx hb dX4_countPausedTick_16 rfl (lv_at hl 0 rfl) ?_
    refine g_get (ci := 4) (v := .int (o 1)) (C := RX4) (T := TX4) (N := 12) hx hb hts hinX4 hown hK hP 0 rfl rfl 5 (by decide) (hts (.fieldLink RX4 40 "ChargeStages$State" "stage" "I") (List.mem_of_getElem? (i := 4) rfl)) rfl dX4_countPausedTick_17 ?_
    obtain ⟨k3, hok⟩ := hok
    obtain ⟨R2, eR2, hR⟩ := g_let hR
    refine g_callV (c_X2_add l G (fun k => a (k + 15)) g 3 (o 3) (o 1) R2 eR2 k3) hx hb hml hown hts hK hP hD hS hA gX4_countPausedTick_X2_add rfl (n := 3) (by decide +kernel) rfl ⟨Nat.le_of_ble_eq_true rfl, Nat.le_of_ble_eq_true rfl⟩ [1] rfl (by decide) 1 rfl (ci := 2) rfl hl.1 rfl (Nat.le_of_ble_eq_true rfl) ⟨Nat.zero_le _, Nat.zero_le _⟩ dX4_countPausedTick_20 (fun H locs hP hD hS => ?_)
    have hP : va_P G.1 vwCl (List.flatten [OW G a o, LW G (fun k => a (k + 15)) R2]) H := hP
    have hD : va_D A (List.flatten [OW G a o, LW G (fun k => a (k + 15)) R2]) := hD
    refine lv_aload_n hx hb dX4_countPausedTick_23 rfl (lv_at hl 0 rfl) ?_
    refine lv_dup hx hb dX4_countPausedTick_24 rfl ?_
    refine g_get (ci := 4) (v := .int (o 4)) (C := RX4) (T := TX4) (N := 12) hx hb hts hinX4 hown hK hP 0 rfl rfl 8 (by decide) (hts (.fieldLink RX4 49 "ChargeStages$State" "pausedTicks" "I") (List.mem_of_getElem? (i := 5) rfl)) rfl dX4_countPausedTick_25 ?_
    refine lv_iconst (v := 1) hx hb dX4_countPausedTick_28 (by decide) ?_
    refine lv_iadd hx hb dX4_countPausedTick_29 ?_
    refine g_put (ci := 4) (v := .int ((o 4) + 1)) (ty := .int) (C := RX4) (T := TX4) (N := 12) (B2 := [OW G a (upd o 4 ((o 4) + 1)), LW G (fun k => a (k + 15)) R2]) hx hb hts hinX4 tyX4 tyX4_ok nmX4 hown hK hP hD hS 0 rfl rfl 8 (by decide) (hts (.fieldLink RX4 49 "ChargeStages$State" "pausedTicks" "I") (List.mem_of_getElem? (i := 5) rfl)) rfl (by decide +kernel) rfl rfl (Nat.le_of_ble_eq_true rfl) rfl dX4_countPausedTick_30 (fun H locs hP hD hS => ?_)
    subst hR
    exact g_retv hx hb hr hlocks hS dX4_countPausedTick_33 rfl hP
def f_X4_heldCurrent (st : (Nat → Int32)) (p1 : Int32) : Int32 := (gL (st 1) (fun (v1 : Int32) => (if 0 ≤ p1 then (if 0 < v1 then (gmin 2000 ((((p1 + 1) * 1000) - 1) / v1)) else 2000) else 0)))
def ok_X4_heldCurrent (st : (Nat → Int32)) (p1 : Int32) : Prop := (gL (st 1) (fun (v1 : Int32) => ((0 ≤ p1 → ((0 < v1 → (¬ v1 = 0) ∧ True) ∧ (¬ 0 < v1 → True))) ∧ (¬ 0 ≤ p1 → True))))
set_option maxHeartbeats 4000000 in
set_option maxRecDepth 100000 in
theorem c_X4_heldCurrent (l : Launch) (G : gG) (a : Nat → Nat) (o : (Nat → Int32)) (st : (Nat → Int32)) (p1 : Int32) (R : Int32) (hR : R = f_X4_heldCurrent st p1) (hok : ok_X4_heldCurrent st p1) : CT l G yX4_heldCurrent wsX4_heldCurrent 1 13 [.ref (a 0), .int p1] [OW G a o, AW G (a 1) 9 st] (some (.int R)) [OW G a o, AW G (a 1) 9 st] := by
  unfold f_X4_heldCurrent at hR
  unfold ok_X4_heldCurrent at hok
  refine CT.of (cc := cX4_heldCurrent) (maxL := 3) (ret := (some .int)) (plainFor_of_name (by decide +kernel)) rfl rfl (Nat.le_of_ble_eq_true rfl) ?_
  intro p e s m below meth c A ls hx hb hml hr hts hown hlocks hK hP hD hA hS hl
  have hown : s.vm.findClass RX4 = some m.cls := hown
  have hl : lv_has ls 3 [(0, .ref (a 0)), (1, .int p1)] := hl
  have hinX4 : ∀ w ∈ wsX40, w ∈ wsX4_heldCurrent := fun w h => List.mem_cons_of_mem _ (List.mem_append_right _ h)
  refine lv_aload_n hx hb dX4_heldCurrent_0 rfl (lv_at hl 0 rfl) ?_
  refine g_get (ci := 4) (v := .ref (a 1)) (C := RX4) (T := TX4) (N := 12) hx hb hts hinX4 hown hK hP 0 rfl rfl 0 (by decide) (hts (.fieldLink RX4 9 "ChargeStages$State" "settings" "[I") (List.mem_of_getElem? (i := 1) rfl)) rfl dX4_heldCurrent_1 ?_
  refine lv_iconst (v := 1) hx hb dX4_heldCurrent_4 (by decide) ?_
  refine g_ld (n := 9) (f := st) (v := st 1) (k := 1) hx hb hK hP 1 rfl (by decide) (by unfold vp_in; decide) rfl dX4_heldCurrent_5 ?_
  obtain ⟨v1, ev1, hR, hok⟩ := g_let2 hR hok
  refine g_topE ev1.symm ?_
  refine lv_istore_n (lv' := [(2, .int v1), (0, .ref (a 0)), (1, .int p1)]) hx hb dX4_heldCurrent_6 rfl hl (by decide) rfl (fun ls hl => ?_)
  refine lv_iload_n hx hb dX4_heldCurrent_7 rfl (lv_at hl 2 rfl) ?_
  refine lv_if_ge (tgt := 13) hx hb dX4_heldCurrent_8 (by decide) (fun c2 => ?_) (fun c2 => ?_)
  · rw [if_pos c2] at hR
    have hok := hok.1 c2
    refine lv_iload_n hx hb dX4_heldCurrent_13 rfl (lv_at hl 0 rfl) ?_
    refine lv_if_gt (tgt := 21) hx hb dX4_heldCurrent_14 (by decide) (fun c3 => ?_) (fun c3 => ?_)
    · rw [if_pos c3] at hR
      have hok := hok.1 c3
      refine lv_sipush (v := 2000) hx hb dX4_heldCurrent_21 (by decide) ?_
      refine lv_iload_n hx hb dX4_heldCurrent_24 rfl (lv_at hl 2 rfl) ?_
      refine lv_iconst (v := 1) hx hb dX4_heldCurrent_25 (by decide) ?_
      refine lv_iadd hx hb dX4_heldCurrent_26 ?_
      refine lv_sipush (v := 1000) hx hb dX4_heldCurrent_27 (by decide) ?_
      refine lv_imul hx hb dX4_heldCurrent_30 ?_
      refine lv_iconst (v := 1) hx hb dX4_heldCurrent_31 (by decide) ?_
      refine lv_isub hx hb dX4_heldCurrent_32 ?_
      refine lv_iload_n hx hb dX4_heldCurrent_33 rfl (lv_at hl 0 rfl) ?_
      obtain ⟨k4, hok⟩ := hok
      refine lv_idiv hx hb dX4_heldCurrent_34 k4 ?_
      refine va_mmin hx hb (hml.trans hl.1.symm) hown (hts (.methodLink RX4 161 Lib.Math.min.name) (List.mem_of_getElem? (i := 2) rfl)) (hts (.static Lib.Math.min.name) (List.mem_of_getElem? (i := 3) rfl)) (hts (.initialized "java/lang/Math") (List.mem_of_getElem? (i := 4) rfl)) (hts (.code Lib.Math.min.name Lib.Math.min.code 2 (some .int)) (List.mem_of_getElem? (i := 5) rfl)) (Nat.le_of_ble_eq_true rfl) (Nat.le_of_ble_eq_true rfl) (Nat.zero_le _) (Nat.zero_le _) dX4_heldCurrent_35 ?_
      refine g_topE (y := (gmin 2000 ((((p1 + 1) * 1000) - 1) / v1))) rfl ?_
      subst hR
      exact g_ret hx hb hr hlocks hS dX4_heldCurrent_38 rfl hP
    · rw [if_neg c3] at hR
      have hok := hok.2 c3
      refine lv_sipush (v := 2000) hx hb dX4_heldCurrent_17 (by decide) ?_
      subst hR
      exact g_ret hx hb hr hlocks hS dX4_heldCurrent_20 rfl hP
  · rw [if_neg c2] at hR
    have hok := hok.2 c2
    refine lv_iconst (v := 0) hx hb dX4_heldCurrent_11 (by decide) ?_
    subst hR
    exact g_ret hx hb hr hlocks hS dX4_heldCurrent_12 rfl hP
def f_X4_currentOfStage (o : (Nat → Int32)) (st : (Nat → Int32)) (b : (Nat → Nat → Int32)) (pf : (Nat → Nat → Int32)) : Int32 := (gL (f_X3_has pf (o 1)) (fun (R1 : Int32) => (if R1 = 0 then (-1) else (if ((pf 1) ((o 1).toNatClampNeg)) = 0 then (pf 2) ((o 1).toNatClampNeg) else (if ((pf 1) ((o 1).toNatClampNeg)) = 1 then (gL (f_X4_limitOfNow st pf (o 1)) (fun (R8 : Int32) => (gL (f_X4_greatestVoltage st b 0) (fun (R10 : Int32) => (gL (f_X4_heldCurrent st (R8 - R10)) (fun (R12 : Int32) => (if ((pf 3) ((o 1).toNatClampNeg)) < R12 then R12 else (-1)))))))) else 0)))))
def ok_X4_currentOfStage (o : (Nat → Int32)) (st : (Nat → Int32)) (b : (Nat → Nat → Int32)) (pf : (Nat → Nat → Int32)) : Prop := (gL (f_X3_has pf (o 1)) (fun (R1 : Int32) => ((R1 = 0 → True) ∧ (¬ R1 = 0 → (vp_in (o 1) 5) ∧ ((((pf 1) ((o 1).toNatClampNeg)) = 0 → (vp_in (o 1) 5) ∧ True) ∧ (¬ ((pf 1) ((o 1).toNatClampNeg)) = 0 → ((((pf 1) ((o 1).toNatClampNeg)) = 1 → (ok_X4_limitOfNow pf (o 1)) ∧ (gL (f_X4_limitOfNow st pf (o 1)) (fun (R8 : Int32) => (ok_X4_greatestVoltage st b) ∧ (gL (f_X4_greatestVoltage st b 0) (fun (R10 : Int32) => (ok_X4_heldCurrent st (R8 - R10)) ∧ (gL (f_X4_heldCurrent st (R8 - R10)) (fun (R12 : Int32) => (vp_in (o 1) 5) ∧ True))))))) ∧ (¬ ((pf 1) ((o 1).toNatClampNeg)) = 1 → True))))))))
set_option maxHeartbeats 4000000 in
set_option maxRecDepth 100000 in
theorem c_X4_currentOfStage (l : Launch) (G : gG) (a : Nat → Nat) (o : (Nat → Int32)) (st : (Nat → Int32)) (b : (Nat → Nat → Int32)) (pf : (Nat → Nat → Int32)) (R : Int32) (hR : R = f_X4_currentOfStage o st b pf) (hok : ok_X4_currentOfStage o st b pf) : CT l G yX4_currentOfStage wsX4_currentOfStage 3 56 [.ref (a 0)] [OW G a o, AW G (a 1) 9 st, BW G (fun k => a (k + 2)) b, PW G (fun k => a (k + 10)) pf] (some (.int R)) [OW G a o, AW G (a 1) 9 st, BW G (fun k => a (k + 2)) b, PW G (fun k => a (k + 10)) pf] := by
  unfold f_X4_currentOfStage at hR
  unfold ok_X4_currentOfStage at hok
  refine CT.of (cc := cX4_currentOfStage) (maxL := 2) (ret := (some .int)) (plainFor_of_name (by decide +kernel)) rfl rfl (Nat.le_of_ble_eq_true rfl) ?_
  intro p e s m below meth c A ls hx hb hml hr hts hown hlocks hK hP hD hA hS hl
  have hown : s.vm.findClass RX4 = some m.cls := hown
  have hl : lv_has ls 2 [(0, .ref (a 0))] := hl
  have hinX3 : ∀ w ∈ wsX30, w ∈ wsX4_currentOfStage := fun w h => List.mem_cons_of_mem _ (List.mem_append_left _ (List.mem_append_right _ h))
  have hinX4 : ∀ w ∈ wsX40, w ∈ wsX4_currentOfStage := fun w h => List.mem_cons_of_mem _ (List.mem_append_left _ (List.mem_append_left _ (List.mem_append_right _ h)))
  refine lv_aload_n hx hb dX4_currentOfStage_0 rfl (lv_at hl 0 rfl) ?_
  refine g_get (ci := 4) (v := .ref (a 10)) (C := RX4) (T := TX4) (N := 12) hx hb hts hinX4 hown hK hP 0 rfl rfl 2 (by decide) (hts (.fieldLink RX4 25 "ChargeStages$State" "profile" "LChargeStages$Profile;") (List.mem_of_getElem? (i := 1) rfl)) rfl dX4_currentOfStage_1 ?_
  refine lv_aload_n hx hb dX4_currentOfStage_4 rfl (lv_at hl 0 rfl) ?_
  refine g_get (ci := 4) (v := .int (o 1)) (C := RX4) (T := TX4) (N := 12) hx hb hts hinX4 hown hK hP 0 rfl rfl 5 (by decide) (hts (.fieldLink RX4 40 "ChargeStages$State" "stage" "I") (List.mem_of_getElem? (i := 2) rfl)) rfl dX4_currentOfStage_5 ?_
  obtain ⟨R1, eR1, hR, hok⟩ := g_let2 hR hok
  refine g_callV (c_X3_has l G (fun k => a (k + 10)) pf (o 1) R1 eR1) hx hb hml hown hts hK hP hD hS hA gX4_currentOfStage_X3_has rfl (n := 1) (by decide +kernel) rfl ⟨Nat.le_of_ble_eq_true rfl, Nat.le_of_ble_eq_true rfl⟩ [3] rfl (by decide) 10 rfl (ci := 3) rfl hl.1 rfl (Nat.le_of_ble_eq_true rfl) ⟨Nat.zero_le _, Nat.zero_le _⟩ dX4_currentOfStage_8 (fun H locs hP hD hS => ?_)
  have hP : va_P G.1 vwCl (List.flatten [OW G a o, AW G (a 1) 9 st, BW G (fun k => a (k + 2)) b, PW G (fun k => a (k + 10)) pf]) H := hP
  have hD : va_D A (List.flatten [OW G a o, AW G (a 1) 9 st, BW G (fun k => a (k + 2)) b, PW G (fun k => a (k + 10)) pf]) := hD
  refine lv_if_ne (tgt := 16) hx hb dX4_currentOfStage_11 (by decide) (fun c3 => ?_) (fun c3 => ?_)
  · rw [if_neg c3] at hR
    have hok := hok.2 c3
    refine lv_aload_n hx hb dX4_currentOfStage_16 rfl (lv_at hl 0 rfl) ?_
    refine g_get (ci := 4) (v := .ref (a 10)) (C := RX4) (T := TX4) (N := 12) hx hb hts hinX4 hown hK hP 0 rfl rfl 2 (by decide) (hts (.fieldLink RX4 25 "ChargeStages$State" "profile" "LChargeStages$Profile;") (List.mem_of_getElem? (i := 1) rfl)) rfl dX4_currentOfStage_17 ?_
    refine g_get (ci := 3) (v := .ref (a 11)) (C := RX3) (T := TX3) (N := 5) hx hb hts hinX3 hown hK hP 10 rfl rfl 1 (by decide) (hts (.fieldLink RX4 143 "ChargeStages$Profile" "kind" "[I") (List.mem_of_getElem? (i := 3) rfl)) rfl dX4_currentOfStage_20 ?_
    refine lv_aload_n hx hb dX4_currentOfStage_23 rfl (lv_at hl 0 rfl) ?_
    refine g_get (ci := 4) (v := .int (o 1)) (C := RX4) (T := TX4) (N := 12) hx hb hts hinX4 hown hK hP 0 rfl rfl 5 (by decide) (hts (.fieldLink RX4 40 "ChargeStages$State" "stage" "I") (List.mem_of_getElem? (i := 2) rfl)) rfl dX4_currentOfStage_24 ?_
    obtain ⟨k4, hok⟩ := hok
    refine g_ld (n := 5) (f := (pf 1)) (v := (pf 1) ((o 1).toNatClampNeg)) (k := ((o 1).toNatClampNeg)) hx hb hK hP 11 rfl rfl k4 rfl dX4_currentOfStage_27 ?_
    by_cases c5 : ((pf 1) ((o 1).toNatClampNeg)) = 0
    · rw [if_pos c5] at hR
      have hok := hok.1 c5
      refine lv_lookup (tgt := 56) (off := 28) hx hb dX4_currentOfStage_28 (by decide) (by rw [c5]; rfl) (by decide) ?_
      refine lv_aload_n hx hb dX4_currentOfStage_56 rfl (lv_at hl 0 rfl) ?_
      refine g_get (ci := 4) (v := .ref (a 10)) (C := RX4) (T := TX4) (N := 12) hx hb hts hinX4 hown hK hP 0 rfl rfl 2 (by decide) (hts (.fieldLink RX4 25 "ChargeStages$State" "profile" "LChargeStages$Profile;") (List.mem_of_getElem? (i := 1) rfl)) rfl dX4_currentOfStage_57 ?_
      refine g_get (ci := 3) (v := .ref (a 12)) (C := RX3) (T := TX3) (N := 5) hx hb hts hinX3 hown hK hP 10 rfl rfl 2 (by decide) (hts (.fieldLink RX4 146 "ChargeStages$Profile" "first" "[I") (List.mem_of_getElem? (i := 4) rfl)) rfl dX4_currentOfStage_60 ?_
      refine lv_aload_n hx hb dX4_currentOfStage_63 rfl (lv_at hl 0 rfl) ?_
      refine g_get (ci := 4) (v := .int (o 1)) (C := RX4) (T := TX4) (N := 12) hx hb hts hinX4 hown hK hP 0 rfl rfl 5 (by decide) (hts (.fieldLink RX4 40 "ChargeStages$State" "stage" "I") (List.mem_of_getElem? (i := 2) rfl)) rfl dX4_currentOfStage_64 ?_
      obtain ⟨k6, hok⟩ := hok
      refine g_ld (n := 5) (f := (pf 2)) (v := (pf 2) ((o 1).toNatClampNeg)) (k := ((o 1).toNatClampNeg)) hx hb hK hP 12 rfl rfl k6 rfl dX4_currentOfStage_67 ?_
      subst hR
      exact g_ret hx hb hr hlocks hS dX4_currentOfStage_68 rfl hP
    · rw [if_neg c5] at hR
      have hok := hok.2 c5
      by_cases c7 : ((pf 1) ((o 1).toNatClampNeg)) = 1
      · rw [if_pos c7] at hR
        have hok := hok.1 c7
        refine lv_lookup (tgt := 69) (off := 41) hx hb dX4_currentOfStage_28 (by decide) (by rw [c7]; rfl) (by decide) ?_
        refine lv_aload_n hx hb dX4_currentOfStage_69 rfl (lv_at hl 0 rfl) ?_
        refine lv_aload_n hx hb dX4_currentOfStage_70 rfl (lv_at hl 0 rfl) ?_
        refine lv_aload_n hx hb dX4_currentOfStage_71 rfl (lv_at hl 0 rfl) ?_
        refine g_get (ci := 4) (v := .int (o 1)) (C := RX4) (T := TX4) (N := 12) hx hb hts hinX4 hown hK hP 0 rfl rfl 5 (by decide) (hts (.fieldLink RX4 40 "ChargeStages$State" "stage" "I") (List.mem_of_getElem? (i := 2) rfl)) rfl dX4_currentOfStage_72 ?_
        obtain ⟨k9, hok⟩ := hok
        obtain ⟨R8, eR8, hR, hok⟩ := g_let2 hR hok
        refine g_callV (c_X4_limitOfNow l G a o st pf (o 1) R8 eR8 k9) hx hb hml hown hts hK hP hD hS hA gX4_currentOfStage_X4_limitOfNow rfl (n := 1) (by decide +kernel) rfl ⟨Nat.le_of_ble_eq_true rfl, Nat.le_of_ble_eq_true rfl⟩ [0, 1, 3] rfl (by decide) 0 rfl (ci := 4) rfl hl.1 rfl (Nat.le_of_ble_eq_true rfl) ⟨Nat.zero_le _, Nat.zero_le _⟩ dX4_currentOfStage_75 (fun H locs hP hD hS => ?_)
        have hP : va_P G.1 vwCl (List.flatten [OW G a o, AW G (a 1) 9 st, BW G (fun k => a (k + 2)) b, PW G (fun k => a (k + 10)) pf]) H := hP
        have hD : va_D A (List.flatten [OW G a o, AW G (a 1) 9 st, BW G (fun k => a (k + 2)) b, PW G (fun k => a (k + 10)) pf]) := hD
        refine lv_aload_n hx hb dX4_currentOfStage_78 rfl (lv_at hl 0 rfl) ?_
        refine lv_iconst (v := 0) hx hb dX4_currentOfStage_79 (by decide) ?_
        obtain ⟨k11, hok⟩ := hok
        obtain ⟨R10, eR10, hR, hok⟩ := g_let2 hR hok
        refine g_callV (c_X4_greatestVoltage l G a o st b 0 R10 eR10 k11) hx hb hml hown hts hK hP hD hS hA gX4_currentOfStage_X4_greatestVoltage rfl (n := 1) (by decide +kernel) rfl ⟨Nat.le_of_ble_eq_true rfl, Nat.le_of_ble_eq_true rfl⟩ [0, 1, 2] rfl (by decide) 0 rfl (ci := 4) rfl hl.1 rfl (Nat.le_of_ble_eq_true rfl) ⟨Nat.zero_le _, Nat.zero_le _⟩ dX4_currentOfStage_80 (fun H locs hP hD hS => ?_)
        have hP : va_P G.1 vwCl (List.flatten [OW G a o, AW G (a 1) 9 st, BW G (fun k => a (k + 2)) b, PW G (fun k => a (k + 10)) pf]) H := hP
        have hD : va_D A (List.flatten [OW G a o, AW G (a 1) 9 st, BW G (fun k => a (k + 2)) b, PW G (fun k => a (k + 10)) pf]) := hD
        refine lv_isub hx hb dX4_currentOfStage_83 ?_
        obtain ⟨k13, hok⟩ := hok
        obtain ⟨R12, eR12, hR, hok⟩ := g_let2 hR hok
        refine g_callV (c_X4_heldCurrent l G a o st (R8 - R10) R12 eR12 k13) hx hb hml hown hts hK hP hD hS hA gX4_currentOfStage_X4_heldCurrent rfl (n := 1) (by decide +kernel) rfl ⟨Nat.le_of_ble_eq_true rfl, Nat.le_of_ble_eq_true rfl⟩ [0, 1] rfl (by decide) 0 rfl (ci := 4) rfl hl.1 rfl (Nat.le_of_ble_eq_true rfl) ⟨Nat.zero_le _, Nat.zero_le _⟩ dX4_currentOfStage_84 (fun H locs hP hD hS => ?_)
        have hP : va_P G.1 vwCl (List.flatten [OW G a o, AW G (a 1) 9 st, BW G (fun k => a (k + 2)) b, PW G (fun k => a (k + 10)) pf]) H := hP
        have hD : va_D A (List.flatten [OW G a o, AW G (a 1) 9 st, BW G (fun k => a (k + 2)) b, PW G (fun k => a (k + 10)) pf]) := hD
        refine lv_istore_n (lv' := [(1, .int R12), (0, .ref (a 0))]) hx hb dX4_currentOfStage_87 rfl hl (by decide) rfl (fun ls hl => ?_)
        refine lv_iload_n hx hb dX4_currentOfStage_88 rfl (lv_at hl 0 rfl) ?_
        refine lv_aload_n hx hb dX4_currentOfStage_89 rfl (lv_at hl 1 rfl) ?_
        refine g_get (ci := 4) (v := .ref (a 10)) (C := RX4) (T := TX4) (N := 12) hx hb hts hinX4 hown hK hP 0 rfl rfl 2 (by decide) (hts (.fieldLink RX4 25 "ChargeStages$State" "profile" "LChargeStages$Profile;") (List.mem_of_getElem? (i := 1) rfl)) rfl dX4_currentOfStage_90 ?_
        refine g_get (ci := 3) (v := .ref (a 13)) (C := RX3) (T := TX3) (N := 5) hx hb hts hinX3 hown hK hP 10 rfl rfl 3 (by decide) (hts (.fieldLink RX4 158 "ChargeStages$Profile" "second" "[I") (List.mem_of_getElem? (i := 5) rfl)) rfl dX4_currentOfStage_93 ?_
        refine lv_aload_n hx hb dX4_currentOfStage_96 rfl (lv_at hl 1 rfl) ?_
        refine g_get (ci := 4) (v := .int (o 1)) (C := RX4) (T := TX4) (N := 12) hx hb hts hinX4 hown hK hP 0 rfl rfl 5 (by decide) (hts (.fieldLink RX4 40 "ChargeStages$State" "stage" "I") (List.mem_of_getElem? (i := 2) rfl)) rfl dX4_currentOfStage_97 ?_
        obtain ⟨k14, hok⟩ := hok
        refine g_ld (n := 5) (f := (pf 3)) (v := (pf 3) ((o 1).toNatClampNeg)) (k := ((o 1).toNatClampNeg)) hx hb hK hP 13 rfl rfl k14 rfl dX4_currentOfStage_100 ?_
        refine lv_icmp_gt (tgt := 108) hx hb dX4_currentOfStage_101 (by decide) (fun c15 => ?_) (fun c15 => ?_)
        · rw [if_pos c15] at hR
          refine lv_iload_n hx hb dX4_currentOfStage_108 rfl (lv_at hl 0 rfl) ?_
          subst hR
          exact g_ret hx hb hr hlocks hS dX4_currentOfStage_109 rfl hP
        · rw [if_neg c15] at hR
          refine lv_iconst (v := (-1)) hx hb dX4_currentOfStage_104 (by decide) ?_
          refine lv_goto (tgt := 109) hx hb dX4_currentOfStage_105 (by decide) ?_
          subst hR
          exact g_ret hx hb hr hlocks hS dX4_currentOfStage_109 rfl hP
      · rw [if_neg c7] at hR
        have hok := hok.2 c7
        refine lv_lookup (tgt := 110) (off := 82) hx hb dX4_currentOfStage_28 (by decide) (g_lk2 c5 c7) (by decide) ?_
        refine lv_iconst (v := 0) hx hb dX4_currentOfStage_110 (by decide) ?_
        subst hR
        exact g_ret hx hb hr hlocks hS dX4_currentOfStage_111 rfl hP
  · rw [if_pos c3] at hR
    have hok := hok.1 c3
    refine lv_iconst (v := (-1)) hx hb dX4_currentOfStage_14 (by decide) ?_
    subst hR
    exact g_ret hx hb hr hlocks hS dX4_currentOfStage_15 rfl hP
def f_X4_endsBehind (o : (Nat → Int32)) (st : (Nat → Int32)) (b : (Nat → Nat → Int32)) (pf : (Nat → Nat → Int32)) (p1 : Int32) : Int32 := (gL (f_X3_has pf (o 1)) (fun (R1 : Int32) => (if R1 = 0 then 1 else (if ((pf 1) ((o 1).toNatClampNeg)) = 0 then (gL (f_X4_greatestVoltage st b p1) (fun (R6 : Int32) => (gL (f_X4_limitOfNow st pf (o 1)) (fun (R8 : Int32) => (if R6 < R8 then 0 else 1))))) else (if ((pf 1) ((o 1).toNatClampNeg)) = 2 then (if (o 2) < ((pf 2) ((o 1).toNatClampNeg)) then 0 else 1) else 0)))))
def ok_X4_endsBehind (o : (Nat → Int32)) (st : (Nat → Int32)) (b : (Nat → Nat → Int32)) (pf : (Nat → Nat → Int32)) (p1 : Int32) : Prop := (gL (f_X3_has pf (o 1)) (fun (R1 : Int32) => ((R1 = 0 → True) ∧ (¬ R1 = 0 → (vp_in (o 1) 5) ∧ ((((pf 1) ((o 1).toNatClampNeg)) = 0 → (ok_X4_greatestVoltage st b) ∧ (gL (f_X4_greatestVoltage st b p1) (fun (R6 : Int32) => (ok_X4_limitOfNow pf (o 1)) ∧ True))) ∧ (¬ ((pf 1) ((o 1).toNatClampNeg)) = 0 → ((((pf 1) ((o 1).toNatClampNeg)) = 2 → (vp_in (o 1) 5) ∧ True) ∧ (¬ ((pf 1) ((o 1).toNatClampNeg)) = 2 → True))))))))
set_option maxHeartbeats 4000000 in
set_option maxRecDepth 100000 in
theorem c_X4_endsBehind (l : Launch) (G : gG) (a : Nat → Nat) (o : (Nat → Int32)) (st : (Nat → Int32)) (b : (Nat → Nat → Int32)) (pf : (Nat → Nat → Int32)) (p1 : Int32) (R : Int32) (hR : R = f_X4_endsBehind o st b pf p1) (hok : ok_X4_endsBehind o st b pf p1) : CT l G yX4_endsBehind wsX4_endsBehind 3 56 [.ref (a 0), .int p1] [OW G a o, AW G (a 1) 9 st, BW G (fun k => a (k + 2)) b, PW G (fun k => a (k + 10)) pf] (some (.int R)) [OW G a o, AW G (a 1) 9 st, BW G (fun k => a (k + 2)) b, PW G (fun k => a (k + 10)) pf] := by
  unfold f_X4_endsBehind at hR
  unfold ok_X4_endsBehind at hok
  refine CT.of (cc := cX4_endsBehind) (maxL := 2) (ret := (some .boolean)) (plainFor_of_name (by decide +kernel)) rfl rfl (Nat.le_of_ble_eq_true rfl) ?_
  intro p e s m below meth c A ls hx hb hml hr hts hown hlocks hK hP hD hA hS hl
  have hown : s.vm.findClass RX4 = some m.cls := hown
  have hl : lv_has ls 2 [(0, .ref (a 0)), (1, .int p1)] := hl
  have hinX3 : ∀ w ∈ wsX30, w ∈ wsX4_endsBehind := fun w h => List.mem_cons_of_mem _ (List.mem_append_left _ (List.mem_append_right _ h))
  have hinX4 : ∀ w ∈ wsX40, w ∈ wsX4_endsBehind := fun w h => List.mem_cons_of_mem _ (List.mem_append_left _ (List.mem_append_left _ (List.mem_append_right _ h)))
  refine lv_aload_n hx hb dX4_endsBehind_0 rfl (lv_at hl 0 rfl) ?_
  refine g_get (ci := 4) (v := .ref (a 10)) (C := RX4) (T := TX4) (N := 12) hx hb hts hinX4 hown hK hP 0 rfl rfl 2 (by decide) (hts (.fieldLink RX4 25 "ChargeStages$State" "profile" "LChargeStages$Profile;") (List.mem_of_getElem? (i := 1) rfl)) rfl dX4_endsBehind_1 ?_
  refine lv_aload_n hx hb dX4_endsBehind_4 rfl (lv_at hl 0 rfl) ?_
  refine g_get (ci := 4) (v := .int (o 1)) (C := RX4) (T := TX4) (N := 12) hx hb hts hinX4 hown hK hP 0 rfl rfl 5 (by decide) (hts (.fieldLink RX4 40 "ChargeStages$State" "stage" "I") (List.mem_of_getElem? (i := 2) rfl)) rfl dX4_endsBehind_5 ?_
  obtain ⟨R1, eR1, hR, hok⟩ := g_let2 hR hok
  refine g_callV (c_X3_has l G (fun k => a (k + 10)) pf (o 1) R1 eR1) hx hb hml hown hts hK hP hD hS hA gX4_endsBehind_X3_has rfl (n := 1) (by decide +kernel) rfl ⟨Nat.le_of_ble_eq_true rfl, Nat.le_of_ble_eq_true rfl⟩ [3] rfl (by decide) 10 rfl (ci := 3) rfl hl.1 rfl (Nat.le_of_ble_eq_true rfl) ⟨Nat.zero_le _, Nat.zero_le _⟩ dX4_endsBehind_8 (fun H locs hP hD hS => ?_)
  have hP : va_P G.1 vwCl (List.flatten [OW G a o, AW G (a 1) 9 st, BW G (fun k => a (k + 2)) b, PW G (fun k => a (k + 10)) pf]) H := hP
  have hD : va_D A (List.flatten [OW G a o, AW G (a 1) 9 st, BW G (fun k => a (k + 2)) b, PW G (fun k => a (k + 10)) pf]) := hD
  refine lv_if_ne (tgt := 16) hx hb dX4_endsBehind_11 (by decide) (fun c3 => ?_) (fun c3 => ?_)
  · rw [if_neg c3] at hR
    have hok := hok.2 c3
    refine lv_aload_n hx hb dX4_endsBehind_16 rfl (lv_at hl 0 rfl) ?_
    refine g_get (ci := 4) (v := .ref (a 10)) (C := RX4) (T := TX4) (N := 12) hx hb hts hinX4 hown hK hP 0 rfl rfl 2 (by decide) (hts (.fieldLink RX4 25 "ChargeStages$State" "profile" "LChargeStages$Profile;") (List.mem_of_getElem? (i := 1) rfl)) rfl dX4_endsBehind_17 ?_
    refine g_get (ci := 3) (v := .ref (a 11)) (C := RX3) (T := TX3) (N := 5) hx hb hts hinX3 hown hK hP 10 rfl rfl 1 (by decide) (hts (.fieldLink RX4 143 "ChargeStages$Profile" "kind" "[I") (List.mem_of_getElem? (i := 3) rfl)) rfl dX4_endsBehind_20 ?_
    refine lv_aload_n hx hb dX4_endsBehind_23 rfl (lv_at hl 0 rfl) ?_
    refine g_get (ci := 4) (v := .int (o 1)) (C := RX4) (T := TX4) (N := 12) hx hb hts hinX4 hown hK hP 0 rfl rfl 5 (by decide) (hts (.fieldLink RX4 40 "ChargeStages$State" "stage" "I") (List.mem_of_getElem? (i := 2) rfl)) rfl dX4_endsBehind_24 ?_
    obtain ⟨k4, hok⟩ := hok
    refine g_ld (n := 5) (f := (pf 1)) (v := (pf 1) ((o 1).toNatClampNeg)) (k := ((o 1).toNatClampNeg)) hx hb hK hP 11 rfl rfl k4 rfl dX4_endsBehind_27 ?_
    by_cases c5 : ((pf 1) ((o 1).toNatClampNeg)) = 0
    · rw [if_pos c5] at hR
      have hok := hok.1 c5
      refine lv_lookup (tgt := 56) (off := 28) hx hb dX4_endsBehind_28 (by decide) (by rw [c5]; rfl) (by decide) ?_
      refine lv_aload_n hx hb dX4_endsBehind_56 rfl (lv_at hl 0 rfl) ?_
      refine lv_iload_n hx hb dX4_endsBehind_57 rfl (lv_at hl 1 rfl) ?_
      obtain ⟨k7, hok⟩ := hok
      obtain ⟨R6, eR6, hR, hok⟩ := g_let2 hR hok
      refine g_callV (c_X4_greatestVoltage l G a o st b p1 R6 eR6 k7) hx hb hml hown hts hK hP hD hS hA gX4_endsBehind_X4_greatestVoltage rfl (n := 1) (by decide +kernel) rfl ⟨Nat.le_of_ble_eq_true rfl, Nat.le_of_ble_eq_true rfl⟩ [0, 1, 2] rfl (by decide) 0 rfl (ci := 4) rfl hl.1 rfl (Nat.le_of_ble_eq_true rfl) ⟨Nat.zero_le _, Nat.zero_le _⟩ dX4_endsBehind_58 (fun H locs hP hD hS => ?_)
      have hP : va_P G.1 vwCl (List.flatten [OW G a o, AW G (a 1) 9 st, BW G (fun k => a (k + 2)) b, PW G (fun k => a (k + 10)) pf]) H := hP
      have hD : va_D A (List.flatten [OW G a o, AW G (a 1) 9 st, BW G (fun k => a (k + 2)) b, PW G (fun k => a (k + 10)) pf]) := hD
      refine lv_aload_n hx hb dX4_endsBehind_61 rfl (lv_at hl 0 rfl) ?_
      refine lv_aload_n hx hb dX4_endsBehind_62 rfl (lv_at hl 0 rfl) ?_
      refine g_get (ci := 4) (v := .int (o 1)) (C := RX4) (T := TX4) (N := 12) hx hb hts hinX4 hown hK hP 0 rfl rfl 5 (by decide) (hts (.fieldLink RX4 40 "ChargeStages$State" "stage" "I") (List.mem_of_getElem? (i := 2) rfl)) rfl dX4_endsBehind_63 ?_
      obtain ⟨k9, hok⟩ := hok
      obtain ⟨R8, eR8, hR⟩ := g_let hR
      refine g_callV (c_X4_limitOfNow l G a o st pf (o 1) R8 eR8 k9) hx hb hml hown hts hK hP hD hS hA gX4_endsBehind_X4_limitOfNow rfl (n := 1) (by decide +kernel) rfl ⟨Nat.le_of_ble_eq_true rfl, Nat.le_of_ble_eq_true rfl⟩ [0, 1, 3] rfl (by decide) 0 rfl (ci := 4) rfl hl.1 rfl (Nat.le_of_ble_eq_true rfl) ⟨Nat.zero_le _, Nat.zero_le _⟩ dX4_endsBehind_66 (fun H locs hP hD hS => ?_)
      have hP : va_P G.1 vwCl (List.flatten [OW G a o, AW G (a 1) 9 st, BW G (fun k => a (k + 2)) b, PW G (fun k => a (k + 10)) pf]) H := hP
      have hD : va_D A (List.flatten [OW G a o, AW G (a 1) 9 st, BW G (fun k => a (k + 2)) b, PW G (fun k => a (k + 10)) pf]) := hD
      refine lv_icmp_lt (tgt := 76) hx hb dX4_endsBehind_69 (by decide) (fun c10 => ?_) (fun c10 => ?_)
      · rw [if_pos c10] at hR
        refine lv_iconst (v := 0) hx hb dX4_endsBehind_76 (by decide) ?_
        subst hR
        exact g_retz hx hb hr hlocks hS rfl dX4_endsBehind_77 rfl hP
      · rw [if_neg c10] at hR
        refine lv_iconst (v := 1) hx hb dX4_endsBehind_72 (by decide) ?_
        refine lv_goto (tgt := 77) hx hb dX4_endsBehind_73 (by decide) ?_
        subst hR
        exact g_retz hx hb hr hlocks hS rfl dX4_endsBehind_77 rfl hP
    · rw [if_neg c5] at hR
      have hok := hok.2 c5
      by_cases c11 : ((pf 1) ((o 1).toNatClampNeg)) = 2
      · rw [if_pos c11] at hR
        have hok := hok.1 c11
        refine lv_lookup (tgt := 78) (off := 50) hx hb dX4_endsBehind_28 (by decide) (by rw [c11]; rfl) (by decide) ?_
        refine lv_aload_n hx hb dX4_endsBehind_78 rfl (lv_at hl 0 rfl) ?_
        refine g_get (ci := 4) (v := .int (o 2)) (C := RX4) (T := TX4) (N := 12) hx hb hts hinX4 hown hK hP 0 rfl rfl 6 (by decide) (hts (.fieldLink RX4 43 "ChargeStages$State" "lasted" "I") (List.mem_of_getElem? (i := 4) rfl)) rfl dX4_endsBehind_79 ?_
        refine lv_aload_n hx hb dX4_endsBehind_82 rfl (lv_at hl 0 rfl) ?_
        refine g_get (ci := 4) (v := .ref (a 10)) (C := RX4) (T := TX4) (N := 12) hx hb hts hinX4 hown hK hP 0 rfl rfl 2 (by decide) (hts (.fieldLink RX4 25 "ChargeStages$State" "profile" "LChargeStages$Profile;") (List.mem_of_getElem? (i := 1) rfl)) rfl dX4_endsBehind_83 ?_
        refine g_get (ci := 3) (v := .ref (a 12)) (C := RX3) (T := TX3) (N := 5) hx hb hts hinX3 hown hK hP 10 rfl rfl 2 (by decide) (hts (.fieldLink RX4 146 "ChargeStages$Profile" "first" "[I") (List.mem_of_getElem? (i := 5) rfl)) rfl dX4_endsBehind_86 ?_
        refine lv_aload_n hx hb dX4_endsBehind_89 rfl (lv_at hl 0 rfl) ?_
        refine g_get (ci := 4) (v := .int (o 1)) (C := RX4) (T := TX4) (N := 12) hx hb hts hinX4 hown hK hP 0 rfl rfl 5 (by decide) (hts (.fieldLink RX4 40 "ChargeStages$State" "stage" "I") (List.mem_of_getElem? (i := 2) rfl)) rfl dX4_endsBehind_90 ?_
        obtain ⟨k12, hok⟩ := hok
        refine g_ld (n := 5) (f := (pf 2)) (v := (pf 2) ((o 1).toNatClampNeg)) (k := ((o 1).toNatClampNeg)) hx hb hK hP 12 rfl rfl k12 rfl dX4_endsBehind_93 ?_
        refine lv_icmp_lt (tgt := 101) hx hb dX4_endsBehind_94 (by decide) (fun c13 => ?_) (fun c13 => ?_)
        · rw [if_pos c13] at hR
          refine lv_iconst (v := 0) hx hb dX4_endsBehind_101 (by decide) ?_
          subst hR
          exact g_retz hx hb hr hlocks hS rfl dX4_endsBehind_102 rfl hP
        · rw [if_neg c13] at hR
          refine lv_iconst (v := 1) hx hb dX4_endsBehind_97 (by decide) ?_
          refine lv_goto (tgt := 102) hx hb dX4_endsBehind_98 (by decide) ?_
          subst hR
          exact g_retz hx hb hr hlocks hS rfl dX4_endsBehind_102 rfl hP
      · rw [if_neg c11] at hR
        have hok := hok.2 c11
        refine lv_lookup (tgt := 103) (off := 75) hx hb dX4_endsBehind_28 (by decide) (g_lk2 c5 c11) (by decide) ?_
        refine lv_iconst (v := 0) hx hb dX4_endsBehind_103 (by decide) ?_
        subst hR
        exact g_retz hx hb hr hlocks hS rfl dX4_endsBehind_104 rfl hP
  · rw [if_pos c3] at hR
    have hok := hok.1 c3
    refine lv_iconst (v := 1) hx hb dX4_endsBehind_14 (by decide) ?_
    subst hR
    exact g_retz hx hb hr hlocks hS rfl dX4_endsBehind_15 rfl hP
def f_X4_hasRunOut (o : (Nat → Int32)) (pf : (Nat → Nat → Int32)) : Int32 := (gL (f_X3_has pf (o 1)) (fun (R1 : Int32) => (if R1 = 0 then 0 else (if ((pf 4) ((o 1).toNatClampNeg)) ≤ 0 then 0 else (if (o 2) < ((pf 4) ((o 1).toNatClampNeg)) then 0 else 1)))))
def ok_X4_hasRunOut (o : (Nat → Int32)) (pf : (Nat → Nat → Int32)) : Prop := (gL (f_X3_has pf (o 1)) (fun (R1 : Int32) => ((R1 = 0 → True) ∧ (¬ R1 = 0 → (vp_in (o 1) 5) ∧ ((((pf 4) ((o 1).toNatClampNeg)) ≤ 0 → True) ∧ (¬ ((pf 4) ((o 1).toNatClampNeg)) ≤ 0 → (vp_in (o 1) 5) ∧ True))))))
set_option maxHeartbeats 4000000 in
set_option maxRecDepth 100000 in
theorem c_X4_hasRunOut (l : Launch) (G : gG) (a : Nat → Nat) (o : (Nat → Int32)) (pf : (Nat → Nat → Int32)) (R : Int32) (hR : R = f_X4_hasRunOut o pf) (hok : ok_X4_hasRunOut o pf) : CT l G yX4_hasRunOut wsX4_hasRunOut 1 21 [.ref (a 0)] [OW G a o, PW G (fun k => a (k + 10)) pf] (some (.int R)) [OW G a o, PW G (fun k => a (k + 10)) pf] := by
  unfold f_X4_hasRunOut at hR
  unfold ok_X4_hasRunOut at hok
  refine CT.of (cc := cX4_hasRunOut) (maxL := 1) (ret := (some .boolean)) (plainFor_of_name (by decide +kernel)) rfl rfl (Nat.le_of_ble_eq_true rfl) ?_
  intro p e s m below meth c A ls hx hb hml hr hts hown hlocks hK hP hD hA hS hl
  have hown : s.vm.findClass RX4 = some m.cls := hown
  have hl : lv_has ls 1 [(0, .ref (a 0))] := hl
  have hinX3 : ∀ w ∈ wsX30, w ∈ wsX4_hasRunOut := fun w h => List.mem_cons_of_mem _ (List.mem_append_right _ h)
  have hinX4 : ∀ w ∈ wsX40, w ∈ wsX4_hasRunOut := fun w h => List.mem_cons_of_mem _ (List.mem_append_left _ (List.mem_append_right _ h))
  refine lv_aload_n hx hb dX4_hasRunOut_0 rfl (lv_at hl 0 rfl) ?_
  refine g_get (ci := 4) (v := .ref (a 10)) (C := RX4) (T := TX4) (N := 12) hx hb hts hinX4 hown hK hP 0 rfl rfl 2 (by decide) (hts (.fieldLink RX4 25 "ChargeStages$State" "profile" "LChargeStages$Profile;") (List.mem_of_getElem? (i := 1) rfl)) rfl dX4_hasRunOut_1 ?_
  refine lv_aload_n hx hb dX4_hasRunOut_4 rfl (lv_at hl 0 rfl) ?_
  refine g_get (ci := 4) (v := .int (o 1)) (C := RX4) (T := TX4) (N := 12) hx hb hts hinX4 hown hK hP 0 rfl rfl 5 (by decide) (hts (.fieldLink RX4 40 "ChargeStages$State" "stage" "I") (List.mem_of_getElem? (i := 2) rfl)) rfl dX4_hasRunOut_5 ?_
  obtain ⟨R1, eR1, hR, hok⟩ := g_let2 hR hok
  refine g_callV (c_X3_has l G (fun k => a (k + 10)) pf (o 1) R1 eR1) hx hb hml hown hts hK hP hD hS hA gX4_hasRunOut_X3_has rfl (n := 1) (by decide +kernel) rfl ⟨Nat.le_of_ble_eq_true rfl, Nat.le_of_ble_eq_true rfl⟩ [1] rfl (by decide) 1 rfl (ci := 3) rfl hl.1 rfl (Nat.le_of_ble_eq_true rfl) ⟨Nat.zero_le _, Nat.zero_le _⟩ dX4_hasRunOut_8 (fun H locs hP hD hS => ?_)
  have hP : va_P G.1 vwCl (List.flatten [OW G a o, PW G (fun k => a (k + 10)) pf]) H := hP
  have hD : va_D A (List.flatten [OW G a o, PW G (fun k => a (k + 10)) pf]) := hD
  refine lv_if_eq (tgt := 52) hx hb dX4_hasRunOut_11 (by decide) (fun c3 => ?_) (fun c3 => ?_)
  · rw [if_pos c3] at hR
    have hok := hok.1 c3
    refine lv_iconst (v := 0) hx hb dX4_hasRunOut_52 (by decide) ?_
    subst hR
    exact g_retz hx hb hr hlocks hS rfl dX4_hasRunOut_53 rfl hP
  · rw [if_neg c3] at hR
    have hok := hok.2 c3
    refine lv_aload_n hx hb dX4_hasRunOut_14 rfl (lv_at hl 0 rfl) ?_
    refine g_get (ci := 4) (v := .ref (a 10)) (C := RX4) (T := TX4) (N := 12) hx hb hts hinX4 hown hK hP 0 rfl rfl 2 (by decide) (hts (.fieldLink RX4 25 "ChargeStages$State" "profile" "LChargeStages$Profile;") (List.mem_of_getElem? (i := 1) rfl)) rfl dX4_hasRunOut_15 ?_
    refine g_get (ci := 3) (v := .ref (a 14)) (C := RX3) (T := TX3) (N := 5) hx hb hts hinX3 hown hK hP 1 rfl rfl 4 (by decide) (hts (.fieldLink RX4 140 "ChargeStages$Profile" "timer" "[I") (List.mem_of_getElem? (i := 3) rfl)) rfl dX4_hasRunOut_18 ?_
    refine lv_aload_n hx hb dX4_hasRunOut_21 rfl (lv_at hl 0 rfl) ?_
    refine g_get (ci := 4) (v := .int (o 1)) (C := RX4) (T := TX4) (N := 12) hx hb hts hinX4 hown hK hP 0 rfl rfl 5 (by decide) (hts (.fieldLink RX4 40 "ChargeStages$State" "stage" "I") (List.mem_of_getElem? (i := 2) rfl)) rfl dX4_hasRunOut_22 ?_
    obtain ⟨k4, hok⟩ := hok
    refine g_ld (n := 5) (f := (pf 4)) (v := (pf 4) ((o 1).toNatClampNeg)) (k := ((o 1).toNatClampNeg)) hx hb hK hP 5 rfl rfl k4 rfl dX4_hasRunOut_25 ?_
    refine lv_if_le (tgt := 52) hx hb dX4_hasRunOut_26 (by decide) (fun c5 => ?_) (fun c5 => ?_)
    · rw [if_pos c5] at hR
      have hok := hok.1 c5
      refine lv_iconst (v := 0) hx hb dX4_hasRunOut_52 (by decide) ?_
      subst hR
      exact g_retz hx hb hr hlocks hS rfl dX4_hasRunOut_53 rfl hP
    · rw [if_neg c5] at hR
      have hok := hok.2 c5
      refine lv_aload_n hx hb dX4_hasRunOut_29 rfl (lv_at hl 0 rfl) ?_
      refine g_get (ci := 4) (v := .int (o 2)) (C := RX4) (T := TX4) (N := 12) hx hb hts hinX4 hown hK hP 0 rfl rfl 6 (by decide) (hts (.fieldLink RX4 43 "ChargeStages$State" "lasted" "I") (List.mem_of_getElem? (i := 4) rfl)) rfl dX4_hasRunOut_30 ?_
      refine lv_aload_n hx hb dX4_hasRunOut_33 rfl (lv_at hl 0 rfl) ?_
      refine g_get (ci := 4) (v := .ref (a 10)) (C := RX4) (T := TX4) (N := 12) hx hb hts hinX4 hown hK hP 0 rfl rfl 2 (by decide) (hts (.fieldLink RX4 25 "ChargeStages$State" "profile" "LChargeStages$Profile;") (List.mem_of_getElem? (i := 1) rfl)) rfl dX4_hasRunOut_34 ?_
      refine g_get (ci := 3) (v := .ref (a 14)) (C := RX3) (T := TX3) (N := 5) hx hb hts hinX3 hown hK hP 1 rfl rfl 4 (by decide) (hts (.fieldLink RX4 140 "ChargeStages$Profile" "timer" "[I") (List.mem_of_getElem? (i := 3) rfl)) rfl dX4_hasRunOut_37 ?_
      refine lv_aload_n hx hb dX4_hasRunOut_40 rfl (lv_at hl 0 rfl) ?_
      refine g_get (ci := 4) (v := .int (o 1)) (C := RX4) (T := TX4) (N := 12) hx hb hts hinX4 hown hK hP 0 rfl rfl 5 (by decide) (hts (.fieldLink RX4 40 "ChargeStages$State" "stage" "I") (List.mem_of_getElem? (i := 2) rfl)) rfl dX4_hasRunOut_41 ?_
      obtain ⟨k6, hok⟩ := hok
      refine g_ld (n := 5) (f := (pf 4)) (v := (pf 4) ((o 1).toNatClampNeg)) (k := ((o 1).toNatClampNeg)) hx hb hK hP 5 rfl rfl k6 rfl dX4_hasRunOut_44 ?_
      refine lv_icmp_lt (tgt := 52) hx hb dX4_hasRunOut_45 (by decide) (fun c7 => ?_) (fun c7 => ?_)
      · rw [if_pos c7] at hR
        refine lv_iconst (v := 0) hx hb dX4_hasRunOut_52 (by decide) ?_
        subst hR
        exact g_retz hx hb hr hlocks hS rfl dX4_hasRunOut_53 rfl hP
      · rw [if_neg c7] at hR
        refine lv_iconst (v := 1) hx hb dX4_hasRunOut_48 (by decide) ?_
        refine lv_goto (tgt := 53) hx hb dX4_hasRunOut_49 (by decide) ?_
        subst hR
        exact g_retz hx hb hr hlocks hS rfl dX4_hasRunOut_53 rfl hP
def f_X4_endStage (o : (Nat → Int32)) (pf : (Nat → Nat → Int32)) (g : (Nat → Nat → Int32)) : (Nat → Int32) × (Nat → Nat → Int32) := (gL (f_X3_has pf ((o 1) + 1)) (fun (R1 : Int32) => (if R1 = 0 then (gL (f_X2_add g 1 (o 3) (o 1)) (fun (R4 : (Nat → Nat → Int32)) => ((upd (upd o 0 2) 6 ((o 6) + 1)), R4))) else (gL (f_X4_begin o g ((o 1) + 1)) (fun (R6 : (Nat → Int32) × (Nat → Nat → Int32)) => (R6.1, R6.2))))))
def ok_X4_endStage (o : (Nat → Int32)) (pf : (Nat → Nat → Int32)) (g : (Nat → Nat → Int32)) : Prop := (gL (f_X3_has pf ((o 1) + 1)) (fun (R1 : Int32) => ((R1 = 0 → (ok_X2_add g 1 (o 3)) ∧ True) ∧ (¬ R1 = 0 → (ok_X4_begin o g) ∧ True))))
set_option maxHeartbeats 4000000 in
set_option maxRecDepth 100000 in
theorem c_X4_endStage (l : Launch) (G : gG) (a : Nat → Nat) (o : (Nat → Int32)) (pf : (Nat → Nat → Int32)) (g : (Nat → Nat → Int32)) (R : (Nat → Int32) × (Nat → Nat → Int32)) (hR : R = f_X4_endStage o pf g) (hok : ok_X4_endStage o pf g) : CT l G yX4_endStage wsX4_endStage 2 44 [.ref (a 0)] [OW G a o, PW G (fun k => a (k + 10)) pf, LW G (fun k => a (k + 15)) g] none [OW G a R.1, PW G (fun k => a (k + 10)) pf, LW G (fun k => a (k + 15)) R.2] := by
  unfold f_X4_endStage at hR
  unfold ok_X4_endStage at hok
  refine CT.of (cc := cX4_endStage) (maxL := 1) (ret := none) (plainFor_of_name (by decide +kernel)) rfl rfl (Nat.le_of_ble_eq_true rfl) ?_
  intro p e s m below meth c A ls hx hb hml hr hts hown hlocks hK hP hD hA hS hl
  have hown : s.vm.findClass RX4 = some m.cls := hown
  have hl : lv_has ls 1 [(0, .ref (a 0))] := hl
  have hinX4 : ∀ w ∈ wsX40, w ∈ wsX4_endStage := fun w h => List.mem_cons_of_mem _ (List.mem_append_left _ (List.mem_append_left _ (List.mem_append_right _ h)))
  refine lv_aload_n hx hb dX4_endStage_0 rfl (lv_at hl 0 rfl) ?_
  refine g_get (ci := 4) (v := .ref (a 10)) (C := RX4) (T := TX4) (N := 12) hx hb hts hinX4 hown hK hP 0 rfl rfl 2 (by decide) (hts (.fieldLink RX4 25 "ChargeStages$State" "profile" "LChargeStages$Profile;") (List.mem_of_getElem? (i := 1) rfl)) rfl dX4_endStage_1 ?_
  refine lv_aload_n hx hb dX4_endStage_4 rfl (lv_at hl 0 rfl) ?_
  refine g_get (ci := 4) (v := .int (o 1)) (C := RX4) (T := TX4) (N := 12) hx hb hts hinX4 hown hK hP 0 rfl rfl 5 (by decide) (hts (.fieldLink RX4 40 "ChargeStages$State" "stage" "I") (List.mem_of_getElem? (i := 2) rfl)) rfl dX4_endStage_5 ?_
  refine lv_iconst (v := 1) hx hb dX4_endStage_8 (by decide) ?_
  refine lv_iadd hx hb dX4_endStage_9 ?_
  obtain ⟨R1, eR1, hR, hok⟩ := g_let2 hR hok
  refine g_callV (c_X3_has l G (fun k => a (k + 10)) pf ((o 1) + 1) R1 eR1) hx hb hml hown hts hK hP hD hS hA gX4_endStage_X3_has rfl (n := 1) (by decide +kernel) rfl ⟨Nat.le_of_ble_eq_true rfl, Nat.le_of_ble_eq_true rfl⟩ [1] rfl (by decide) 1 rfl (ci := 3) rfl hl.1 rfl (Nat.le_of_ble_eq_true rfl) ⟨Nat.zero_le _, Nat.zero_le _⟩ dX4_endStage_10 (fun H locs hP hD hS => ?_)
  have hP : va_P G.1 vwCl (List.flatten [OW G a o, PW G (fun k => a (k + 10)) pf, LW G (fun k => a (k + 15)) g]) H := hP
  have hD : va_D A (List.flatten [OW G a o, PW G (fun k => a (k + 10)) pf, LW G (fun k => a (k + 15)) g]) := hD
  refine lv_if_eq (tgt := 29) hx hb dX4_endStage_13 (by decide) (fun c3 => ?_) (fun c3 => ?_)
  · rw [if_pos c3] at hR
    have hok := hok.1 c3
    refine lv_aload_n hx hb dX4_endStage_29 rfl (lv_at hl 0 rfl) ?_
    refine lv_iconst (v := 2) hx hb dX4_endStage_30 (by decide) ?_
    refine g_put (ci := 4) (v := .int 2) (ty := .int) (C := RX4) (T := TX4) (N := 12) (B2 := [OW G a (upd o 0 2), PW G (fun k => a (k + 10)) pf, LW G (fun k => a (k + 15)) g]) hx hb hts hinX4 tyX4 tyX4_ok nmX4 hown hK hP hD hS 0 rfl rfl 4 (by decide) (hts (.fieldLink RX4 36 "ChargeStages$State" "mode" "I") (List.mem_of_getElem? (i := 3) rfl)) rfl (by decide +kernel) rfl rfl (Nat.le_of_ble_eq_true rfl) rfl dX4_endStage_31 (fun H locs hP hD hS => ?_)
    refine lv_aload_n hx hb dX4_endStage_34 rfl (lv_at hl 0 rfl) ?_
    refine lv_dup hx hb dX4_endStage_35 rfl ?_
    refine g_get (ci := 4) (v := .int (o 6)) (C := RX4) (T := TX4) (N := 12) hx hb hts hinX4 hown hK hP 0 rfl rfl 10 (by decide) (hts (.fieldLink RX4 56 "ChargeStages$State" "timesDone" "I") (List.mem_of_getElem? (i := 4) rfl)) rfl dX4_endStage_36 ?_
    refine lv_iconst (v := 1) hx hb dX4_endStage_39 (by decide) ?_
    refine lv_iadd hx hb dX4_endStage_40 ?_
    refine g_put (ci := 4) (v := .int ((o 6) + 1)) (ty := .int) (C := RX4) (T := TX4) (N := 12) (B2 := [OW G a (upd (upd o 0 2) 6 ((o 6) + 1)), PW G (fun k => a (k + 10)) pf, LW G (fun k => a (k + 15)) g]) hx hb hts hinX4 tyX4 tyX4_ok nmX4 hown hK hP hD hS 0 rfl rfl 10 (by decide) (hts (.fieldLink RX4 56 "ChargeStages$State" "timesDone" "I") (List.mem_of_getElem? (i := 4) rfl)) rfl (by decide +kernel) rfl rfl (Nat.le_of_ble_eq_true rfl) rfl dX4_endStage_41 (fun H locs hP hD hS => ?_)
    refine lv_aload_n hx hb dX4_endStage_44 rfl (lv_at hl 0 rfl) ?_
    refine g_get (ci := 4) (v := .ref (a 15)) (C := RX4) (T := TX4) (N := 12) hx hb hts hinX4 hown hK hP 0 rfl rfl 3 (by decide) (hts (.fieldLink RX4 32 "ChargeStages$State" "log" "LChargeStages$Log;") (List.mem_of_getElem? (i := 5) rfl)) rfl dX4_endStage_45 ?_
    refine lv_iconst (v := 1) hx hb dX4_endStage_48 (by decide) ?_
    refine lv_aload_n hx hb dX4_endStage_49 rfl (lv_at hl 0 rfl) ?_
    refine g_get (ci := 4) (v := .int (o 3)) (C := RX4) (T := TX4) (N := 12) hx hb hts hinX4 hown hK hP 0 rfl rfl 7 (by decide) (hts (.fieldLink RX4 46 "ChargeStages$State" "tick" "I") (List.mem_of_getElem? (i := 6) rfl)) rfl dX4_endStage_50 ?_
    refine lv_aload_n hx hb dX4_endStage_53 rfl (lv_at hl 0 rfl) ?_
    refine g_get (ci := 4) (v := .int (o 1)) (C := RX4) (T := TX4) (N := 12) hx hb hts hinX4 hown hK hP 0 rfl rfl 5 (by decide) (hts (.fieldLink RX4 40 "ChargeStages$State" "stage" "I") (List.mem_of_getElem? (i := 2) rfl)) rfl dX4_endStage_54 ?_
    obtain ⟨k5, hok⟩ := hok
    obtain ⟨R4, eR4, hR⟩ := g_let hR
    refine g_callV (c_X2_add l G (fun k => a (k + 15)) g 1 (o 3) (o 1) R4 eR4 k5) hx hb hml hown hts hK hP hD hS hA gX4_endStage_X2_add rfl (n := 3) (by decide +kernel) rfl ⟨Nat.le_of_ble_eq_true rfl, Nat.le_of_ble_eq_true rfl⟩ [2] rfl (by decide) 6 rfl (ci := 2) rfl hl.1 rfl (Nat.le_of_ble_eq_true rfl) ⟨Nat.zero_le _, Nat.zero_le _⟩ dX4_endStage_57 (fun H locs hP hD hS => ?_)
    have hP : va_P G.1 vwCl (List.flatten [OW G a (upd (upd o 0 2) 6 ((o 6) + 1)), PW G (fun k => a (k + 10)) pf, LW G (fun k => a (k + 15)) R4]) H := hP
    have hD : va_D A (List.flatten [OW G a (upd (upd o 0 2) 6 ((o 6) + 1)), PW G (fun k => a (k + 10)) pf, LW G (fun k => a (k + 15)) R4]) := hD
    subst hR
    exact g_retv hx hb hr hlocks hS dX4_endStage_60 rfl hP
  · rw [if_neg c3] at hR
    have hok := hok.2 c3
    refine lv_aload_n hx hb dX4_endStage_16 rfl (lv_at hl 0 rfl) ?_
    refine lv_aload_n hx hb dX4_endStage_17 rfl (lv_at hl 0 rfl) ?_
    refine g_get (ci := 4) (v := .int (o 1)) (C := RX4) (T := TX4) (N := 12) hx hb hts hinX4 hown hK hP 0 rfl rfl 5 (by decide) (hts (.fieldLink RX4 40 "ChargeStages$State" "stage" "I") (List.mem_of_getElem? (i := 2) rfl)) rfl dX4_endStage_18 ?_
    refine lv_iconst (v := 1) hx hb dX4_endStage_21 (by decide) ?_
    refine lv_iadd hx hb dX4_endStage_22 ?_
    obtain ⟨k7, hok⟩ := hok
    obtain ⟨R6, eR6, hR⟩ := g_let hR
    refine g_callV (c_X4_begin l G a o g ((o 1) + 1) R6 eR6 k7) hx hb hml hown hts hK hP hD hS hA gX4_endStage_X4_begin rfl (n := 1) (by decide +kernel) rfl ⟨Nat.le_of_ble_eq_true rfl, Nat.le_of_ble_eq_true rfl⟩ [0, 2] rfl (by decide) 0 rfl (ci := 4) rfl hl.1 rfl (Nat.le_of_ble_eq_true rfl) ⟨Nat.zero_le _, Nat.zero_le _⟩ dX4_endStage_23 (fun H locs hP hD hS => ?_)
    have hP : va_P G.1 vwCl (List.flatten [OW G a R6.1, PW G (fun k => a (k + 10)) pf, LW G (fun k => a (k + 15)) R6.2]) H := hP
    have hD : va_D A (List.flatten [OW G a R6.1, PW G (fun k => a (k + 10)) pf, LW G (fun k => a (k + 15)) R6.2]) := hD
    refine lv_goto (tgt := 60) hx hb dX4_endStage_26 (by decide) ?_
    subst hR
    exact g_retv hx hb hr hlocks hS dX4_endStage_60 rfl hP
def f_X4_charge (o : (Nat → Int32)) (st : (Nat → Int32)) (b : (Nat → Nat → Int32)) (pf : (Nat → Nat → Int32)) (g : (Nat → Nat → Int32)) : (Nat → Int32) × (Nat → Nat → Int32) × (Nat → Nat → Int32) := (gL (f_X4_currentOfStage o st b pf) (fun (R1 : Int32) => (if R1 = (-1) then (gL (f_X4_endStage o pf g) (fun (R16 : (Nat → Int32) × (Nat → Nat → Int32)) => (R16.1, b, R16.2))) else (gL (f_X0_takeIn b R1 (st 2) (st 0)) (fun (R4 : (Nat → Nat → Int32)) => (gL (f_X4_endsBehind (upd o 2 ((o 2) + 1)) st R4 pf R1) (fun (R6 : Int32) => (if R6 = 0 then (gL (f_X4_hasRunOut (upd o 2 ((o 2) + 1)) pf) (fun (R9 : Int32) => (if R9 = 0 then ((upd o 2 ((o 2) + 1)), R4, g) else (gL (f_X2_add g 2 (o 3) (o 1)) (fun (R12 : (Nat → Nat → Int32)) => ((upd (upd (upd o 2 ((o 2) + 1)) 0 3) 7 ((o 7) + 1)), R4, R12)))))) else (gL (f_X4_endStage (upd o 2 ((o 2) + 1)) pf g) (fun (R14 : (Nat → Int32) × (Nat → Nat → Int32)) => (R14.1, R4, R14.2)))))))))))
def ok_X4_charge (o : (Nat → Int32)) (st : (Nat → Int32)) (b : (Nat → Nat → Int32)) (pf : (Nat → Nat → Int32)) (g : (Nat → Nat → Int32)) : Prop := (ok_X4_currentOfStage o st b pf) ∧ (gL (f_X4_currentOfStage o st b pf) (fun (R1 : Int32) => ((R1 = (-1) → (ok_X4_endStage o pf g) ∧ True) ∧ (¬ R1 = (-1) → (ok_X0_takeIn b R1 (st 2) (st 0)) ∧ (gL (f_X0_takeIn b R1 (st 2) (st 0)) (fun (R4 : (Nat → Nat → Int32)) => (ok_X4_endsBehind (upd o 2 ((o 2) + 1)) st R4 pf R1) ∧ (gL (f_X4_endsBehind (upd o 2 ((o 2) + 1)) st R4 pf R1) (fun (R6 : Int32) => ((R6 = 0 → (ok_X4_hasRunOut (upd o 2 ((o 2) + 1)) pf) ∧ (gL (f_X4_hasRunOut (upd o 2 ((o 2) + 1)) pf) (fun (R9 : Int32) => ((R9 = 0 → True) ∧ (¬ R9 = 0 → (ok_X2_add g 2 (o 3)) ∧ True))))) ∧ (¬ R6 = 0 → (ok_X4_endStage (upd o 2 ((o 2) + 1)) pf g) ∧ True))))))))))
set_option maxHeartbeats 4000000 in
set_option maxRecDepth 100000 in
theorem c_X4_charge (l : Launch) (G : gG) (a : Nat → Nat) (o : (Nat → Int32)) (st : (Nat → Int32)) (b : (Nat → Nat → Int32)) (pf : (Nat → Nat → Int32)) (g : (Nat → Nat → Int32)) (R : (Nat → Int32) × (Nat → Nat → Int32) × (Nat → Nat → Int32)) (hR : R = f_X4_charge o st b pf g) (hok : ok_X4_charge o st b pf g) : CT l G yX4_charge wsX4_charge 4 77 [.ref (a 0)] [OW G a o, AW G (a 1) 9 st, BW G (fun k => a (k + 2)) b, PW G (fun k => a (k + 10)) pf, LW G (fun k => a (k + 15)) g] none [OW G a R.1, AW G (a 1) 9 st, BW G (fun k => a (k + 2)) R.2.1, PW G (fun k => a (k + 10)) pf, LW G (fun k => a (k + 15)) R.2.2] := by
  unfold f_X4_charge at hR
  unfold ok_X4_charge at hok
  refine CT.of (cc := cX4_charge) (maxL := 3) (ret := none) (plainFor_of_name (by decide +kernel)) rfl rfl (Nat.le_of_ble_eq_true rfl) ?_
  intro p e s m below meth c A ls hx hb hml hr hts hown hlocks hK hP hD hA hS hl
  have hown : s.vm.findClass RX4 = some m.cls := hown
  have hl : lv_has ls 3 [(0, .ref (a 0))] := hl
  have hinX4 : ∀ w ∈ wsX40, w ∈ wsX4_charge := fun w h => List.mem_cons_of_mem _ (List.mem_append_left _ (List.mem_append_left _ (List.mem_append_left _ (List.mem_append_right _ h))))
  refine lv_aload_n hx hb dX4_charge_0 rfl (lv_at hl 0 rfl) ?_
  obtain ⟨k2, hok⟩ := hok
  obtain ⟨R1, eR1, hR, hok⟩ := g_let2 hR hok
  refine g_callV (c_X4_currentOfStage l G a o st b pf R1 eR1 k2) hx hb hml hown hts hK hP hD hS hA gX4_charge_X4_currentOfStage rfl (n := 0) (by decide +kernel) rfl ⟨Nat.le_of_ble_eq_true rfl, Nat.le_of_ble_eq_true rfl⟩ [0, 1, 2, 3] rfl (by decide) 0 rfl (ci := 4) rfl hl.1 rfl (Nat.le_of_ble_eq_true rfl) ⟨Nat.zero_le _, Nat.zero_le _⟩ dX4_charge_1 (fun H locs hP hD hS => ?_)
  have hP : va_P G.1 vwCl (List.flatten [OW G a o, AW G (a 1) 9 st, BW G (fun k => a (k + 2)) b, PW G (fun k => a (k + 10)) pf, LW G (fun k => a (k + 15)) g]) H := hP
  have hD : va_D A (List.flatten [OW G a o, AW G (a 1) 9 st, BW G (fun k => a (k + 2)) b, PW G (fun k => a (k + 10)) pf, LW G (fun k => a (k + 15)) g]) := hD
  refine lv_istore_n (lv' := [(1, .int R1), (0, .ref (a 0))]) hx hb dX4_charge_4 rfl hl (by decide) rfl (fun ls hl => ?_)
  refine lv_iload_n hx hb dX4_charge_5 rfl (lv_at hl 0 rfl) ?_
  refine lv_iconst (v := (-1)) hx hb dX4_charge_6 (by decide) ?_
  refine lv_icmp_ne (tgt := 14) hx hb dX4_charge_7 (by decide) (fun c3 => ?_) (fun c3 => ?_)
  · rw [if_neg c3] at hR
    have hok := hok.2 c3
    refine lv_iconst (v := 0) hx hb dX4_charge_14 (by decide) ?_
    refine lv_istore_n (lv' := [(2, .int 0), (1, .int R1), (0, .ref (a 0))]) hx hb dX4_charge_15 rfl hl (by decide) rfl (fun ls hl => ?_)
    refine lv_iload_n hx hb dX4_charge_16 rfl (lv_at hl 0 rfl) ?_
    refine lv_if_ne (tgt := 56) hx hb dX4_charge_17 (by decide) (fun c => absurd c (by decide)) (fun _ => ?_)
    refine lv_aload_n hx hb dX4_charge_20 rfl (lv_at hl 2 rfl) ?_
    refine g_get (ci := 4) (v := .ref (a 2)) (C := RX4) (T := TX4) (N := 12) hx hb hts hinX4 hown hK hP 0 rfl rfl 1 (by decide) (hts (.fieldLink RX4 18 "ChargeStages$State" "row" "LChargeStages$Battery;") (List.mem_of_getElem? (i := 1) rfl)) rfl dX4_charge_21 ?_
    refine lv_iload_n hx hb dX4_charge_24 rfl (lv_at hl 1 rfl) ?_
    refine lv_aload_n hx hb dX4_charge_25 rfl (lv_at hl 2 rfl) ?_
    refine g_get (ci := 4) (v := .ref (a 1)) (C := RX4) (T := TX4) (N := 12) hx hb hts hinX4 hown hK hP 0 rfl rfl 0 (by decide) (hts (.fieldLink RX4 9 "ChargeStages$State" "settings" "[I") (List.mem_of_getElem? (i := 2) rfl)) rfl dX4_charge_26 ?_
    refine lv_iconst (v := 2) hx hb dX4_charge_29 (by decide) ?_
    refine g_ld (n := 9) (f := st) (v := st 2) (k := 2) hx hb hK hP 1 rfl (by decide) (by unfold vp_in; decide) rfl dX4_charge_30 ?_
    refine lv_aload_n hx hb dX4_charge_31 rfl (lv_at hl 2 rfl) ?_
    refine g_get (ci := 4) (v := .ref (a 1)) (C := RX4) (T := TX4) (N := 12) hx hb hts hinX4 hown hK hP 0 rfl rfl 0 (by decide) (hts (.fieldLink RX4 9 "ChargeStages$State" "settings" "[I") (List.mem_of_getElem? (i := 2) rfl)) rfl dX4_charge_32 ?_
    refine lv_iconst (v := 0) hx hb dX4_charge_35 (by decide) ?_
    refine g_ld (n := 9) (f := st) (v := st 0) (k := 0) hx hb hK hP 1 rfl (by decide) (by unfold vp_in; decide) rfl dX4_charge_36 ?_
    obtain ⟨k5, hok⟩ := hok
    obtain ⟨R4, eR4, hR, hok⟩ := g_let2 hR hok
    refine g_callV (c_X0_takeIn l G (fun k => a (k + 2)) b R1 (st 2) (st 0) R4 eR4 k5) hx hb hml hown hts hK hP hD hS hA gX4_charge_X0_takeIn rfl (n := 3) (by decide +kernel) rfl ⟨Nat.le_of_ble_eq_true rfl, Nat.le_of_ble_eq_true rfl⟩ [2] rfl (by decide) 2 rfl (ci := 0) rfl hl.1 rfl (Nat.le_of_ble_eq_true rfl) ⟨Nat.zero_le _, Nat.zero_le _⟩ dX4_charge_37 (fun H locs hP hD hS => ?_)
    have hP : va_P G.1 vwCl (List.flatten [OW G a o, AW G (a 1) 9 st, BW G (fun k => a (k + 2)) R4, PW G (fun k => a (k + 10)) pf, LW G (fun k => a (k + 15)) g]) H := hP
    have hD : va_D A (List.flatten [OW G a o, AW G (a 1) 9 st, BW G (fun k => a (k + 2)) R4, PW G (fun k => a (k + 10)) pf, LW G (fun k => a (k + 15)) g]) := hD
    refine lv_aload_n hx hb dX4_charge_40 rfl (lv_at hl 2 rfl) ?_
    refine lv_dup hx hb dX4_charge_41 rfl ?_
    refine g_get (ci := 4) (v := .int (o 2)) (C := RX4) (T := TX4) (N := 12) hx hb hts hinX4 hown hK hP 0 rfl rfl 6 (by decide) (hts (.fieldLink RX4 43 "ChargeStages$State" "lasted" "I") (List.mem_of_getElem? (i := 3) rfl)) rfl dX4_charge_42 ?_
    refine lv_iconst (v := 1) hx hb dX4_charge_45 (by decide) ?_
    refine lv_iadd hx hb dX4_charge_46 ?_
    refine g_put (ci := 4) (v := .int ((o 2) + 1)) (ty := .int) (C := RX4) (T := TX4) (N := 12) (B2 := [OW G a (upd o 2 ((o 2) + 1)), AW G (a 1) 9 st, BW G (fun k => a (k + 2)) R4, PW G (fun k => a (k + 10)) pf, LW G (fun k => a (k + 15)) g]) hx hb hts hinX4 tyX4 tyX4_ok nmX4 hown hK hP hD hS 0 rfl rfl 6 (by decide) (hts (.fieldLink RX4 43 "ChargeStages$State" "lasted" "I") (List.mem_of_getElem? (i := 3) rfl)) rfl (by decide +kernel) rfl rfl (Nat.le_of_ble_eq_true rfl) rfl dX4_charge_47 (fun H locs hP hD hS => ?_)
    refine lv_aload_n hx hb dX4_charge_50 rfl (lv_at hl 2 rfl) ?_
    refine lv_iload_n hx hb dX4_charge_51 rfl (lv_at hl 1 rfl) ?_
    obtain ⟨k7, hok⟩ := hok
    obtain ⟨R6, eR6, hR, hok⟩ := g_let2 hR hok
    refine g_callV (c_X4_endsBehind l G a (upd o 2 ((o 2) + 1)) st R4 pf R1 R6 eR6 k7) hx hb hml hown hts hK hP hD hS hA gX4_charge_X4_endsBehind rfl (n := 1) (by decide +kernel) rfl ⟨Nat.le_of_ble_eq_true rfl, Nat.le_of_ble_eq_true rfl⟩ [0, 1, 2, 3] rfl (by decide) 0 rfl (ci := 4) rfl hl.1 rfl (Nat.le_of_ble_eq_true rfl) ⟨Nat.zero_le _, Nat.zero_le _⟩ dX4_charge_52 (fun H locs hP hD hS => ?_)
    have hP : va_P G.1 vwCl (List.flatten [OW G a (upd o 2 ((o 2) + 1)), AW G (a 1) 9 st, BW G (fun k => a (k + 2)) R4, PW G (fun k => a (k + 10)) pf, LW G (fun k => a (k + 15)) g]) H := hP
    have hD : va_D A (List.flatten [OW G a (upd o 2 ((o 2) + 1)), AW G (a 1) 9 st, BW G (fun k => a (k + 2)) R4, PW G (fun k => a (k + 10)) pf, LW G (fun k => a (k + 15)) g]) := hD
    refine lv_istore_n (lv' := [(2, .int R6), (1, .int R1), (0, .ref (a 0))]) hx hb dX4_charge_55 rfl hl (by decide) rfl (fun ls hl => ?_)
    refine lv_iload_n hx hb dX4_charge_56 rfl (lv_at hl 0 rfl) ?_
    refine lv_if_eq (tgt := 67) hx hb dX4_charge_57 (by decide) (fun c8 => ?_) (fun c8 => ?_)
    · rw [if_pos c8] at hR
      have hok := hok.1 c8
      refine lv_aload_n hx hb dX4_charge_67 rfl (lv_at hl 2 rfl) ?_
      obtain ⟨k10, hok⟩ := hok
      obtain ⟨R9, eR9, hR, hok⟩ := g_let2 hR hok
      refine g_callV (c_X4_hasRunOut l G a (upd o 2 ((o 2) + 1)) pf R9 eR9 k10) hx hb hml hown hts hK hP hD hS hA gX4_charge_X4_hasRunOut rfl (n := 0) (by decide +kernel) rfl ⟨Nat.le_of_ble_eq_true rfl, Nat.le_of_ble_eq_true rfl⟩ [0, 3] rfl (by decide) 0 rfl (ci := 4) rfl hl.1 rfl (Nat.le_of_ble_eq_true rfl) ⟨Nat.zero_le _, Nat.zero_le _⟩ dX4_charge_68 (fun H locs hP hD hS => ?_)
      have hP : va_P G.1 vwCl (List.flatten [OW G a (upd o 2 ((o 2) + 1)), AW G (a 1) 9 st, BW G (fun k => a (k + 2)) R4, PW G (fun k => a (k + 10)) pf, LW G (fun k => a (k + 15)) g]) H := hP
      have hD : va_D A (List.flatten [OW G a (upd o 2 ((o 2) + 1)), AW G (a 1) 9 st, BW G (fun k => a (k + 2)) R4, PW G (fun k => a (k + 10)) pf, LW G (fun k => a (k + 15)) g]) := hD
      refine lv_if_eq (tgt := 105) hx hb dX4_charge_71 (by decide) (fun c11 => ?_) (fun c11 => ?_)
      · rw [if_pos c11] at hR
        have hok := hok.1 c11
        subst hR
        exact g_retv hx hb hr hlocks hS dX4_charge_105 rfl hP
      · rw [if_neg c11] at hR
        have hok := hok.2 c11
        refine lv_aload_n hx hb dX4_charge_74 rfl (lv_at hl 2 rfl) ?_
        refine lv_iconst (v := 3) hx hb dX4_charge_75 (by decide) ?_
        refine g_put (ci := 4) (v := .int 3) (ty := .int) (C := RX4) (T := TX4) (N := 12) (B2 := [OW G a (upd (upd o 2 ((o 2) + 1)) 0 3), AW G (a 1) 9 st, BW G (fun k => a (k + 2)) R4, PW G (fun k => a (k + 10)) pf, LW G (fun k => a (k + 15)) g]) hx hb hts hinX4 tyX4 tyX4_ok nmX4 hown hK hP hD hS 0 rfl rfl 4 (by decide) (hts (.fieldLink RX4 36 "ChargeStages$State" "mode" "I") (List.mem_of_getElem? (i := 4) rfl)) rfl (by decide +kernel) rfl rfl (Nat.le_of_ble_eq_true rfl) rfl dX4_charge_76 (fun H locs hP hD hS => ?_)
        refine lv_aload_n hx hb dX4_charge_79 rfl (lv_at hl 2 rfl) ?_
        refine lv_dup hx hb dX4_charge_80 rfl ?_
        refine g_get (ci := 4) (v := .int (o 7)) (C := RX4) (T := TX4) (N := 12) hx hb hts hinX4 hown hK hP 0 rfl rfl 11 (by decide) (hts (.fieldLink RX4 59 "ChargeStages$State" "timesAtFault" "I") (List.mem_of_getElem? (i := 5) rfl)) rfl dX4_charge_81 ?_
        refine lv_iconst (v := 1) hx hb dX4_charge_84 (by decide) ?_
        refine lv_iadd hx hb dX4_charge_85 ?_
        refine g_put (ci := 4) (v := .int ((o 7) + 1)) (ty := .int) (C := RX4) (T := TX4) (N := 12) (B2 := [OW G a (upd (upd (upd o 2 ((o 2) + 1)) 0 3) 7 ((o 7) + 1)), AW G (a 1) 9 st, BW G (fun k => a (k + 2)) R4, PW G (fun k => a (k + 10)) pf, LW G (fun k => a (k + 15)) g]) hx hb hts hinX4 tyX4 tyX4_ok nmX4 hown hK hP hD hS 0 rfl rfl 11 (by decide) (hts (.fieldLink RX4 59 "ChargeStages$State" "timesAtFault" "I") (List.mem_of_getElem? (i := 5) rfl)) rfl (by decide +kernel) rfl rfl (Nat.le_of_ble_eq_true rfl) rfl dX4_charge_86 (fun H locs hP hD hS => ?_)
        refine lv_aload_n hx hb dX4_charge_89 rfl (lv_at hl 2 rfl) ?_
        refine g_get (ci := 4) (v := .ref (a 15)) (C := RX4) (T := TX4) (N := 12) hx hb hts hinX4 hown hK hP 0 rfl rfl 3 (by decide) (hts (.fieldLink RX4 32 "ChargeStages$State" "log" "LChargeStages$Log;") (List.mem_of_getElem? (i := 6) rfl)) rfl dX4_charge_90 ?_
        refine lv_iconst (v := 2) hx hb dX4_charge_93 (by decide) ?_
        refine lv_aload_n hx hb dX4_charge_94 rfl (lv_at hl 2 rfl) ?_
        refine g_get (ci := 4) (v := .int (o 3)) (C := RX4) (T := TX4) (N := 12) hx hb hts hinX4 hown hK hP 0 rfl rfl 7 (by decide) (hts (.fieldLink RX4 46 "ChargeStages$State" "tick" "I") (List.mem_of_getElem? (i := 7) rfl)) rfl dX4_charge_95 ?_
        refine lv_aload_n hx hb dX4_charge_98 rfl (lv_at hl 2 rfl) ?_
        refine g_get (ci := 4) (v := .int (o 1)) (C := RX4) (T := TX4) (N := 12) hx hb hts hinX4 hown hK hP 0 rfl rfl 5 (by decide) (hts (.fieldLink RX4 40 "ChargeStages$State" "stage" "I") (List.mem_of_getElem? (i := 8) rfl)) rfl dX4_charge_99 ?_
        obtain ⟨k13, hok⟩ := hok
        obtain ⟨R12, eR12, hR⟩ := g_let hR
        refine g_callV (c_X2_add l G (fun k => a (k + 15)) g 2 (o 3) (o 1) R12 eR12 k13) hx hb hml hown hts hK hP hD hS hA gX4_charge_X2_add rfl (n := 3) (by decide +kernel) rfl ⟨Nat.le_of_ble_eq_true rfl, Nat.le_of_ble_eq_true rfl⟩ [4] rfl (by decide) 15 rfl (ci := 2) rfl hl.1 rfl (Nat.le_of_ble_eq_true rfl) ⟨Nat.zero_le _, Nat.zero_le _⟩ dX4_charge_102 (fun H locs hP hD hS => ?_)
        have hP : va_P G.1 vwCl (List.flatten [OW G a (upd (upd (upd o 2 ((o 2) + 1)) 0 3) 7 ((o 7) + 1)), AW G (a 1) 9 st, BW G (fun k => a (k + 2)) R4, PW G (fun k => a (k + 10)) pf, LW G (fun k => a (k + 15)) R12]) H := hP
        have hD : va_D A (List.flatten [OW G a (upd (upd (upd o 2 ((o 2) + 1)) 0 3) 7 ((o 7) + 1)), AW G (a 1) 9 st, BW G (fun k => a (k + 2)) R4, PW G (fun k => a (k + 10)) pf, LW G (fun k => a (k + 15)) R12]) := hD
        subst hR
        exact g_retv hx hb hr hlocks hS dX4_charge_105 rfl hP
    · rw [if_neg c8] at hR
      have hok := hok.2 c8
      refine lv_aload_n hx hb dX4_charge_60 rfl (lv_at hl 2 rfl) ?_
      obtain ⟨k15, hok⟩ := hok
      obtain ⟨R14, eR14, hR⟩ := g_let hR
      refine g_callV (c_X4_endStage l G a (upd o 2 ((o 2) + 1)) pf g R14 eR14 k15) hx hb hml hown hts hK hP hD hS hA gX4_charge_X4_endStage rfl (n := 0) (by decide +kernel) rfl ⟨Nat.le_of_ble_eq_true rfl, Nat.le_of_ble_eq_true rfl⟩ [0, 3, 4] rfl (by decide) 0 rfl (ci := 4) rfl hl.1 rfl (Nat.le_of_ble_eq_true rfl) ⟨Nat.zero_le _, Nat.zero_le _⟩ dX4_charge_61 (fun H locs hP hD hS => ?_)
      have hP : va_P G.1 vwCl (List.flatten [OW G a R14.1, AW G (a 1) 9 st, BW G (fun k => a (k + 2)) R4, PW G (fun k => a (k + 10)) pf, LW G (fun k => a (k + 15)) R14.2]) H := hP
      have hD : va_D A (List.flatten [OW G a R14.1, AW G (a 1) 9 st, BW G (fun k => a (k + 2)) R4, PW G (fun k => a (k + 10)) pf, LW G (fun k => a (k + 15)) R14.2]) := hD
      refine lv_goto (tgt := 105) hx hb dX4_charge_64 (by decide) ?_
      subst hR
      exact g_retv hx hb hr hlocks hS dX4_charge_105 rfl hP
  · rw [if_pos c3] at hR
    have hok := hok.1 c3
    refine lv_iconst (v := 1) hx hb dX4_charge_10 (by decide) ?_
    refine lv_goto (tgt := 15) hx hb dX4_charge_11 (by decide) ?_
    refine lv_istore_n (lv' := [(2, .int 1), (1, .int R1), (0, .ref (a 0))]) hx hb dX4_charge_15 rfl hl (by decide) rfl (fun ls hl => ?_)
    refine lv_iload_n hx hb dX4_charge_16 rfl (lv_at hl 0 rfl) ?_
    refine lv_if_ne (tgt := 56) hx hb dX4_charge_17 (by decide) (fun _ => ?_) (fun c => absurd c (by decide))
    refine lv_iload_n hx hb dX4_charge_56 rfl (lv_at hl 0 rfl) ?_
    refine lv_if_eq (tgt := 67) hx hb dX4_charge_57 (by decide) (fun c => absurd c (by decide)) (fun _ => ?_)
    refine lv_aload_n hx hb dX4_charge_60 rfl (lv_at hl 2 rfl) ?_
    obtain ⟨k17, hok⟩ := hok
    obtain ⟨R16, eR16, hR⟩ := g_let hR
    refine g_callV (c_X4_endStage l G a o pf g R16 eR16 k17) hx hb hml hown hts hK hP hD hS hA gX4_charge_X4_endStage rfl (n := 0) (by decide +kernel) rfl ⟨Nat.le_of_ble_eq_true rfl, Nat.le_of_ble_eq_true rfl⟩ [0, 3, 4] rfl (by decide) 0 rfl (ci := 4) rfl hl.1 rfl (Nat.le_of_ble_eq_true rfl) ⟨Nat.zero_le _, Nat.zero_le _⟩ dX4_charge_61 (fun H locs hP hD hS => ?_)
    have hP : va_P G.1 vwCl (List.flatten [OW G a R16.1, AW G (a 1) 9 st, BW G (fun k => a (k + 2)) b, PW G (fun k => a (k + 10)) pf, LW G (fun k => a (k + 15)) R16.2]) H := hP
    have hD : va_D A (List.flatten [OW G a R16.1, AW G (a 1) 9 st, BW G (fun k => a (k + 2)) b, PW G (fun k => a (k + 10)) pf, LW G (fun k => a (k + 15)) R16.2]) := hD
    refine lv_goto (tgt := 105) hx hb dX4_charge_64 (by decide) ?_
    subst hR
    exact g_retv hx hb hr hlocks hS dX4_charge_105 rfl hP
def f_X4_passOneTick (o : (Nat → Int32)) (st : (Nat → Int32)) (b : (Nat → Nat → Int32)) (pf : (Nat → Nat → Int32)) (g : (Nat → Nat → Int32)) : (Nat → Int32) × (Nat → Nat → Int32) × (Nat → Nat → Int32) := (gL (f_X4_isPaused o st) (fun (R1 : Int32) => (if R1 = 0 then (if (o 0) = 1 then (gL (f_X4_charge o st b pf g) (fun (R9 : (Nat → Int32) × (Nat → Nat → Int32) × (Nat → Nat → Int32)) => (if (st 8) ≤ 0 then ((upd (upd R9.1 5 R1) 3 ((R9.1 3) + 1)), R9.2.1, R9.2.2) else (gL (f_X0_loseTo R9.2.1 (st 8) (st 7) (st 0)) (fun (R13 : (Nat → Nat → Int32)) => ((upd (upd R9.1 5 R1) 3 ((R9.1 3) + 1)), R13, R9.2.2)))))) else (if (st 8) ≤ 0 then ((upd (upd o 5 R1) 3 ((o 3) + 1)), b, g) else (gL (f_X0_loseTo b (st 8) (st 7) (st 0)) (fun (R7 : (Nat → Nat → Int32)) => ((upd (upd o 5 R1) 3 ((o 3) + 1)), R7, g))))) else (gL (f_X4_countPausedTick o g) (fun (R15 : (Nat → Int32) × (Nat → Nat → Int32)) => (if (st 8) ≤ 0 then ((upd (upd R15.1 5 R1) 3 ((R15.1 3) + 1)), b, R15.2) else (gL (f_X0_loseTo b (st 8) (st 7) (st 0)) (fun (R19 : (Nat → Nat → Int32)) => ((upd (upd R15.1 5 R1) 3 ((R15.1 3) + 1)), R19, R15.2)))))))))
def ok_X4_passOneTick (o : (Nat → Int32)) (st : (Nat → Int32)) (b : (Nat → Nat → Int32)) (pf : (Nat → Nat → Int32)) (g : (Nat → Nat → Int32)) : Prop := (gL (f_X4_isPaused o st) (fun (R1 : Int32) => ((R1 = 0 → (((o 0) = 1 → (ok_X4_charge o st b pf g) ∧ (gL (f_X4_charge o st b pf g) (fun (R9 : (Nat → Int32) × (Nat → Nat → Int32) × (Nat → Nat → Int32)) => (gz R1) ∧ (((st 8) ≤ 0 → True) ∧ (¬ (st 8) ≤ 0 → (ok_X0_loseTo R9.2.1 (st 8) (st 7) (st 0)) ∧ True))))) ∧ (¬ (o 0) = 1 → (gz R1) ∧ (((st 8) ≤ 0 → True) ∧ (¬ (st 8) ≤ 0 → (ok_X0_loseTo b (st 8) (st 7) (st 0)) ∧ True))))) ∧ (¬ R1 = 0 → (ok_X4_countPausedTick o g) ∧ (gL (f_X4_countPausedTick o g) (fun (R15 : (Nat → Int32) × (Nat → Nat → Int32)) => (gz R1) ∧ (((st 8) ≤ 0 → True) ∧ (¬ (st 8) ≤ 0 → (ok_X0_loseTo b (st 8) (st 7) (st 0)) ∧ True))))))))
set_option maxHeartbeats 4000000 in
set_option maxRecDepth 100000 in
theorem c_X4_passOneTick (l : Launch) (G : gG) (a : Nat → Nat) (o : (Nat → Int32)) (st : (Nat → Int32)) (b : (Nat → Nat → Int32)) (pf : (Nat → Nat → Int32)) (g : (Nat → Nat → Int32)) (R : (Nat → Int32) × (Nat → Nat → Int32) × (Nat → Nat → Int32)) (hR : R = f_X4_passOneTick o st b pf g) (hok : ok_X4_passOneTick o st b pf g) : CT l G yX4_passOneTick wsX4_passOneTick 5 99 [.ref (a 0)] [OW G a o, AW G (a 1) 9 st, BW G (fun k => a (k + 2)) b, PW G (fun k => a (k + 10)) pf, LW G (fun k => a (k + 15)) g] none [OW G a R.1, AW G (a 1) 9 st, BW G (fun k => a (k + 2)) R.2.1, PW G (fun k => a (k + 10)) pf, LW G (fun k => a (k + 15)) R.2.2] := by
  unfold f_X4_passOneTick at hR
  unfold ok_X4_passOneTick at hok
  refine CT.of (cc := cX4_passOneTick) (maxL := 2) (ret := none) (plainFor_of_name (by decide +kernel)) rfl rfl (Nat.le_of_ble_eq_true rfl) ?_
  intro p e s m below meth c A ls hx hb hml hr hts hown hlocks hK hP hD hA hS hl
  have hown : s.vm.findClass RX4 = some m.cls := hown
  have hl : lv_has ls 2 [(0, .ref (a 0))] := hl
  have hinX4 : ∀ w ∈ wsX40, w ∈ wsX4_passOneTick := fun w h => List.mem_cons_of_mem _ (List.mem_append_left _ (List.mem_append_left _ (List.mem_append_left _ (List.mem_append_right _ h))))
  refine lv_aload_n hx hb dX4_passOneTick_0 rfl (lv_at hl 0 rfl) ?_
  obtain ⟨R1, eR1, hR, hok⟩ := g_let2 hR hok
  refine g_callV (c_X4_isPaused l G a o st R1 eR1) hx hb hml hown hts hK hP hD hS hA gX4_passOneTick_X4_isPaused rfl (n := 0) (by decide +kernel) rfl ⟨Nat.le_of_ble_eq_true rfl, Nat.le_of_ble_eq_true rfl⟩ [0, 1] rfl (by decide) 0 rfl (ci := 4) rfl hl.1 rfl (Nat.le_of_ble_eq_true rfl) ⟨Nat.zero_le _, Nat.zero_le _⟩ dX4_passOneTick_1 (fun H locs hP hD hS => ?_)
  have hP : va_P G.1 vwCl (List.flatten [OW G a o, AW G (a 1) 9 st, BW G (fun k => a (k + 2)) b, PW G (fun k => a (k + 10)) pf, LW G (fun k => a (k + 15)) g]) H := hP
  have hD : va_D A (List.flatten [OW G a o, AW G (a 1) 9 st, BW G (fun k => a (k + 2)) b, PW G (fun k => a (k + 10)) pf, LW G (fun k => a (k + 15)) g]) := hD
  refine lv_istore_n (lv' := [(1, .int R1), (0, .ref (a 0))]) hx hb dX4_passOneTick_4 rfl hl (by decide) rfl (fun ls hl => ?_)
  refine lv_iload_n hx hb dX4_passOneTick_5 rfl (lv_at hl 0 rfl) ?_
  refine lv_if_eq (tgt := 16) hx hb dX4_passOneTick_6 (by decide) (fun c3 => ?_) (fun c3 => ?_)
  · rw [if_pos c3] at hR
    have hok := hok.1 c3
    refine lv_aload_n hx hb dX4_passOneTick_16 rfl (lv_at hl 1 rfl) ?_
    refine g_get (ci := 4) (v := .int (o 0)) (C := RX4) (T := TX4) (N := 12) hx hb hts hinX4 hown hK hP 0 rfl rfl 4 (by decide) (hts (.fieldLink RX4 36 "ChargeStages$State" "mode" "I") (List.mem_of_getElem? (i := 1) rfl)) rfl dX4_passOneTick_17 ?_
    refine lv_iconst (v := 1) hx hb dX4_passOneTick_20 (by decide) ?_
    refine lv_icmp_ne (tgt := 28) hx hb dX4_passOneTick_21 (by decide) (fun c4 => ?_) (fun c4 => ?_)
    · rw [if_neg c4] at hR
      have hok := hok.2 c4
      refine lv_aload_n hx hb dX4_passOneTick_28 rfl (lv_at hl 1 rfl) ?_
      refine lv_iload_n hx hb dX4_passOneTick_29 rfl (lv_at hl 0 rfl) ?_
      obtain ⟨k5, hok⟩ := hok
      refine g_put (ci := 4) (v := .int R1) (ty := .boolean) (C := RX4) (T := TX4) (N := 12) (B2 := [OW G a (upd o 5 R1), AW G (a 1) 9 st, BW G (fun k => a (k + 2)) b, PW G (fun k => a (k + 10)) pf, LW G (fun k => a (k + 15)) g]) hx hb hts hinX4 tyX4 tyX4_ok nmX4 hown hK hP hD hS 0 rfl rfl 9 (by decide) (hts (.fieldLink RX4 52 "ChargeStages$State" "wasPaused" "Z") (List.mem_of_getElem? (i := 2) rfl)) rfl (by decide +kernel) k5.narrow k5.fits (Nat.le_of_ble_eq_true rfl) rfl dX4_passOneTick_30 (fun H locs hP hD hS => ?_)
      refine lv_aload_n hx hb dX4_passOneTick_33 rfl (lv_at hl 1 rfl) ?_
      refine g_get (ci := 4) (v := .ref (a 1)) (C := RX4) (T := TX4) (N := 12) hx hb hts hinX4 hown hK hP 0 rfl rfl 0 (by decide) (hts (.fieldLink RX4 9 "ChargeStages$State" "settings" "[I") (List.mem_of_getElem? (i := 3) rfl)) rfl dX4_passOneTick_34 ?_
      refine lv_bipush (v := 8) hx hb dX4_passOneTick_37 (by decide) ?_
      refine g_ld (n := 9) (f := st) (v := st 8) (k := 8) hx hb hK hP 1 rfl (by decide) (by unfold vp_in; decide) rfl dX4_passOneTick_39 ?_
      refine lv_if_le (tgt := 70) hx hb dX4_passOneTick_40 (by decide) (fun c6 => ?_) (fun c6 => ?_)
      · rw [if_pos c6] at hR
        have hok := hok.1 c6
        refine lv_aload_n hx hb dX4_passOneTick_70 rfl (lv_at hl 1 rfl) ?_
        refine lv_dup hx hb dX4_passOneTick_71 rfl ?_
        refine g_get (ci := 4) (v := .int (o 3)) (C := RX4) (T := TX4) (N := 12) hx hb hts hinX4 hown hK hP 0 rfl rfl 7 (by decide) (hts (.fieldLink RX4 46 "ChargeStages$State" "tick" "I") (List.mem_of_getElem? (i := 5) rfl)) rfl dX4_passOneTick_72 ?_
        refine lv_iconst (v := 1) hx hb dX4_passOneTick_75 (by decide) ?_
        refine lv_iadd hx hb dX4_passOneTick_76 ?_
        refine g_put (ci := 4) (v := .int ((o 3) + 1)) (ty := .int) (C := RX4) (T := TX4) (N := 12) (B2 := [OW G a (upd (upd o 5 R1) 3 ((o 3) + 1)), AW G (a 1) 9 st, BW G (fun k => a (k + 2)) b, PW G (fun k => a (k + 10)) pf, LW G (fun k => a (k + 15)) g]) hx hb hts hinX4 tyX4 tyX4_ok nmX4 hown hK hP hD hS 0 rfl rfl 7 (by decide) (hts (.fieldLink RX4 46 "ChargeStages$State" "tick" "I") (List.mem_of_getElem? (i := 5) rfl)) rfl (by decide +kernel) rfl rfl (Nat.le_of_ble_eq_true rfl) rfl dX4_passOneTick_77 (fun H locs hP hD hS => ?_)
        subst hR
        exact g_retv hx hb hr hlocks hS dX4_passOneTick_80 rfl hP
      · rw [if_neg c6] at hR
        have hok := hok.2 c6
        refine lv_aload_n hx hb dX4_passOneTick_43 rfl (lv_at hl 1 rfl) ?_
        refine g_get (ci := 4) (v := .ref (a 2)) (C := RX4) (T := TX4) (N := 12) hx hb hts hinX4 hown hK hP 0 rfl rfl 1 (by decide) (hts (.fieldLink RX4 18 "ChargeStages$State" "row" "LChargeStages$Battery;") (List.mem_of_getElem? (i := 4) rfl)) rfl dX4_passOneTick_44 ?_
        refine lv_aload_n hx hb dX4_passOneTick_47 rfl (lv_at hl 1 rfl) ?_
        refine g_get (ci := 4) (v := .ref (a 1)) (C := RX4) (T := TX4) (N := 12) hx hb hts hinX4 hown hK hP 0 rfl rfl 0 (by decide) (hts (.fieldLink RX4 9 "ChargeStages$State" "settings" "[I") (List.mem_of_getElem? (i := 3) rfl)) rfl dX4_passOneTick_48 ?_
        refine lv_bipush (v := 8) hx hb dX4_passOneTick_51 (by decide) ?_
        refine g_ld (n := 9) (f := st) (v := st 8) (k := 8) hx hb hK hP 1 rfl (by decide) (by unfold vp_in; decide) rfl dX4_passOneTick_53 ?_
        refine lv_aload_n hx hb dX4_passOneTick_54 rfl (lv_at hl 1 rfl) ?_
        refine g_get (ci := 4) (v := .ref (a 1)) (C := RX4) (T := TX4) (N := 12) hx hb hts hinX4 hown hK hP 0 rfl rfl 0 (by decide) (hts (.fieldLink RX4 9 "ChargeStages$State" "settings" "[I") (List.mem_of_getElem? (i := 3) rfl)) rfl dX4_passOneTick_55 ?_
        refine lv_bipush (v := 7) hx hb dX4_passOneTick_58 (by decide) ?_
        refine g_ld (n := 9) (f := st) (v := st 7) (k := 7) hx hb hK hP 1 rfl (by decide) (by unfold vp_in; decide) rfl dX4_passOneTick_60 ?_
        refine lv_aload_n hx hb dX4_passOneTick_61 rfl (lv_at hl 1 rfl) ?_
        refine g_get (ci := 4) (v := .ref (a 1)) (C := RX4) (T := TX4) (N := 12) hx hb hts hinX4 hown hK hP 0 rfl rfl 0 (by decide) (hts (.fieldLink RX4 9 "ChargeStages$State" "settings" "[I") (List.mem_of_getElem? (i := 3) rfl)) rfl dX4_passOneTick_62 ?_
        refine lv_iconst (v := 0) hx hb dX4_passOneTick_65 (by decide) ?_
        refine g_ld (n := 9) (f := st) (v := st 0) (k := 0) hx hb hK hP 1 rfl (by decide) (by unfold vp_in; decide) rfl dX4_passOneTick_66 ?_
        obtain ⟨k8, hok⟩ := hok
        obtain ⟨R7, eR7, hR⟩ := g_let hR
        refine g_callV (c_X0_loseTo l G (fun k => a (k + 2)) b (st 8) (st 7) (st 0) R7 eR7 k8) hx hb hml hown hts hK hP hD hS hA gX4_passOneTick_X0_loseTo rfl (n := 3) (by decide +kernel) rfl ⟨Nat.le_of_ble_eq_true rfl, Nat.le_of_ble_eq_true rfl⟩ [2] rfl (by decide) 2 rfl (ci := 0) rfl hl.1 rfl (Nat.le_of_ble_eq_true rfl) ⟨Nat.zero_le _, Nat.zero_le _⟩ dX4_passOneTick_67 (fun H locs hP hD hS => ?_)
        have hP : va_P G.1 vwCl (List.flatten [OW G a (upd o 5 R1), AW G (a 1) 9 st, BW G (fun k => a (k + 2)) R7, PW G (fun k => a (k + 10)) pf, LW G (fun k => a (k + 15)) g]) H := hP
        have hD : va_D A (List.flatten [OW G a (upd o 5 R1), AW G (a 1) 9 st, BW G (fun k => a (k + 2)) R7, PW G (fun k => a (k + 10)) pf, LW G (fun k => a (k + 15)) g]) := hD
        refine lv_aload_n hx hb dX4_passOneTick_70 rfl (lv_at hl 1 rfl) ?_
        refine lv_dup hx hb dX4_passOneTick_71 rfl ?_
        refine g_get (ci := 4) (v := .int (o 3)) (C := RX4) (T := TX4) (N := 12) hx hb hts hinX4 hown hK hP 0 rfl rfl 7 (by decide) (hts (.fieldLink RX4 46 "ChargeStages$State" "tick" "I") (List.mem_of_getElem? (i := 5) rfl)) rfl dX4_passOneTick_72 ?_
        refine lv_iconst (v := 1) hx hb dX4_passOneTick_75 (by decide) ?_
        refine lv_iadd hx hb dX4_passOneTick_76 ?_
        refine g_put (ci := 4) (v := .int ((o 3) + 1)) (ty := .int) (C := RX4) (T := TX4) (N := 12) (B2 := [OW G a (upd (upd o 5 R1) 3 ((o 3) + 1)), AW G (a 1) 9 st, BW G (fun k => a (k + 2)) R7, PW G (fun k => a (k + 10)) pf, LW G (fun k => a (k + 15)) g]) hx hb hts hinX4 tyX4 tyX4_ok nmX4 hown hK hP hD hS 0 rfl rfl 7 (by decide) (hts (.fieldLink RX4 46 "ChargeStages$State" "tick" "I") (List.mem_of_getElem? (i := 5) rfl)) rfl (by decide +kernel) rfl rfl (Nat.le_of_ble_eq_true rfl) rfl dX4_passOneTick_77 (fun H locs hP hD hS => ?_)
        subst hR
        exact g_retv hx hb hr hlocks hS dX4_passOneTick_80 rfl hP
    · rw [if_pos c4] at hR
      have hok := hok.1 c4
      refine lv_aload_n hx hb dX4_passOneTick_24 rfl (lv_at hl 1 rfl) ?_
      obtain ⟨k10, hok⟩ := hok
      obtain ⟨R9, eR9, hR, hok⟩ := g_let2 hR hok
      refine g_callV (c_X4_charge l G a o st b pf g R9 eR9 k10) hx hb hml hown hts hK hP hD hS hA gX4_passOneTick_X4_charge rfl (n := 0) (by decide +kernel) rfl ⟨Nat.le_of_ble_eq_true rfl, Nat.le_of_ble_eq_true rfl⟩ [0, 1, 2, 3, 4] rfl (by decide) 0 rfl (ci := 4) rfl hl.1 rfl (Nat.le_of_ble_eq_true rfl) ⟨Nat.zero_le _, Nat.zero_le _⟩ dX4_passOneTick_25 (fun H locs hP hD hS => ?_)
      have hP : va_P G.1 vwCl (List.flatten [OW G a R9.1, AW G (a 1) 9 st, BW G (fun k => a (k + 2)) R9.2.1, PW G (fun k => a (k + 10)) pf, LW G (fun k => a (k + 15)) R9.2.2]) H := hP
      have hD : va_D A (List.flatten [OW G a R9.1, AW G (a 1) 9 st, BW G (fun k => a (k + 2)) R9.2.1, PW G (fun k => a (k + 10)) pf, LW G (fun k => a (k + 15)) R9.2.2]) := hD
      refine lv_aload_n hx hb dX4_passOneTick_28 rfl (lv_at hl 1 rfl) ?_
      refine lv_iload_n hx hb dX4_passOneTick_29 rfl (lv_at hl 0 rfl) ?_
      obtain ⟨k11, hok⟩ := hok
      refine g_put (ci := 4) (v := .int R1) (ty := .boolean) (C := RX4) (T := TX4) (N := 12) (B2 := [OW G a (upd R9.1 5 R1), AW G (a 1) 9 st, BW G (fun k => a (k + 2)) R9.2.1, PW G (fun k => a (k + 10)) pf, LW G (fun k => a (k + 15)) R9.2.2]) hx hb hts hinX4 tyX4 tyX4_ok nmX4 hown hK hP hD hS 0 rfl rfl 9 (by decide) (hts (.fieldLink RX4 52 "ChargeStages$State" "wasPaused" "Z") (List.mem_of_getElem? (i := 2) rfl)) rfl (by decide +kernel) k11.narrow k11.fits (Nat.le_of_ble_eq_true rfl) rfl dX4_passOneTick_30 (fun H locs hP hD hS => ?_)
      refine lv_aload_n hx hb dX4_passOneTick_33 rfl (lv_at hl 1 rfl) ?_
      refine g_get (ci := 4) (v := .ref (a 1)) (C := RX4) (T := TX4) (N := 12) hx hb hts hinX4 hown hK hP 0 rfl rfl 0 (by decide) (hts (.fieldLink RX4 9 "ChargeStages$State" "settings" "[I") (List.mem_of_getElem? (i := 3) rfl)) rfl dX4_passOneTick_34 ?_
      refine lv_bipush (v := 8) hx hb dX4_passOneTick_37 (by decide) ?_
      refine g_ld (n := 9) (f := st) (v := st 8) (k := 8) hx hb hK hP 1 rfl (by decide) (by unfold vp_in; decide) rfl dX4_passOneTick_39 ?_
      refine lv_if_le (tgt := 70) hx hb dX4_passOneTick_40 (by decide) (fun c12 => ?_) (fun c12 => ?_)
      · rw [if_pos c12] at hR
        have hok := hok.1 c12
        refine lv_aload_n hx hb dX4_passOneTick_70 rfl (lv_at hl 1 rfl) ?_
        refine lv_dup hx hb dX4_passOneTick_71 rfl ?_
        refine g_get (ci := 4) (v := .int (R9.1 3)) (C := RX4) (T := TX4) (N := 12) hx hb hts hinX4 hown hK hP 0 rfl rfl 7 (by decide) (hts (.fieldLink RX4 46 "ChargeStages$State" "tick" "I") (List.mem_of_getElem? (i := 5) rfl)) rfl dX4_passOneTick_72 ?_
        refine lv_iconst (v := 1) hx hb dX4_passOneTick_75 (by decide) ?_
        refine lv_iadd hx hb dX4_passOneTick_76 ?_
        refine g_put (ci := 4) (v := .int ((R9.1 3) + 1)) (ty := .int) (C := RX4) (T := TX4) (N := 12) (B2 := [OW G a (upd (upd R9.1 5 R1) 3 ((R9.1 3) + 1)), AW G (a 1) 9 st, BW G (fun k => a (k + 2)) R9.2.1, PW G (fun k => a (k + 10)) pf, LW G (fun k => a (k + 15)) R9.2.2]) hx hb hts hinX4 tyX4 tyX4_ok nmX4 hown hK hP hD hS 0 rfl rfl 7 (by decide) (hts (.fieldLink RX4 46 "ChargeStages$State" "tick" "I") (List.mem_of_getElem? (i := 5) rfl)) rfl (by decide +kernel) rfl rfl (Nat.le_of_ble_eq_true rfl) rfl dX4_passOneTick_77 (fun H locs hP hD hS => ?_)
        subst hR
        exact g_retv hx hb hr hlocks hS dX4_passOneTick_80 rfl hP
      · rw [if_neg c12] at hR
        have hok := hok.2 c12
        refine lv_aload_n hx hb dX4_passOneTick_43 rfl (lv_at hl 1 rfl) ?_
        refine g_get (ci := 4) (v := .ref (a 2)) (C := RX4) (T := TX4) (N := 12) hx hb hts hinX4 hown hK hP 0 rfl rfl 1 (by decide) (hts (.fieldLink RX4 18 "ChargeStages$State" "row" "LChargeStages$Battery;") (List.mem_of_getElem? (i := 4) rfl)) rfl dX4_passOneTick_44 ?_
        refine lv_aload_n hx hb dX4_passOneTick_47 rfl (lv_at hl 1 rfl) ?_
        refine g_get (ci := 4) (v := .ref (a 1)) (C := RX4) (T := TX4) (N := 12) hx hb hts hinX4 hown hK hP 0 rfl rfl 0 (by decide) (hts (.fieldLink RX4 9 "ChargeStages$State" "settings" "[I") (List.mem_of_getElem? (i := 3) rfl)) rfl dX4_passOneTick_48 ?_
        refine lv_bipush (v := 8) hx hb dX4_passOneTick_51 (by decide) ?_
        refine g_ld (n := 9) (f := st) (v := st 8) (k := 8) hx hb hK hP 1 rfl (by decide) (by unfold vp_in; decide) rfl dX4_passOneTick_53 ?_
        refine lv_aload_n hx hb dX4_passOneTick_54 rfl (lv_at hl 1 rfl) ?_
        refine g_get (ci := 4) (v := .ref (a 1)) (C := RX4) (T := TX4) (N := 12) hx hb hts hinX4 hown hK hP 0 rfl rfl 0 (by decide) (hts (.fieldLink RX4 9 "ChargeStages$State" "settings" "[I") (List.mem_of_getElem? (i := 3) rfl)) rfl dX4_passOneTick_55 ?_
        refine lv_bipush (v := 7) hx hb dX4_passOneTick_58 (by decide) ?_
        refine g_ld (n := 9) (f := st) (v := st 7) (k := 7) hx hb hK hP 1 rfl (by decide) (by unfold vp_in; decide) rfl dX4_passOneTick_60 ?_
        refine lv_aload_n hx hb dX4_passOneTick_61 rfl (lv_at hl 1 rfl) ?_
        refine g_get (ci := 4) (v := .ref (a 1)) (C := RX4) (T := TX4) (N := 12) hx hb hts hinX4 hown hK hP 0 rfl rfl 0 (by decide) (hts (.fieldLink RX4 9 "ChargeStages$State" "settings" "[I") (List.mem_of_getElem? (i := 3) rfl)) rfl dX4_passOneTick_62 ?_
        refine lv_iconst (v := 0) hx hb dX4_passOneTick_65 (by decide) ?_
        refine g_ld (n := 9) (f := st) (v := st 0) (k := 0) hx hb hK hP 1 rfl (by decide) (by unfold vp_in; decide) rfl dX4_passOneTick_66 ?_
        obtain ⟨k14, hok⟩ := hok
        obtain ⟨R13, eR13, hR⟩ := g_let hR
        refine g_callV (c_X0_loseTo l G (fun k => a (k + 2)) R9.2.1 (st 8) (st 7) (st 0) R13 eR13 k14) hx hb hml hown hts hK hP hD hS hA gX4_passOneTick_X0_loseTo rfl (n := 3) (by decide +kernel) rfl ⟨Nat.le_of_ble_eq_true rfl, Nat.le_of_ble_eq_true rfl⟩ [2] rfl (by decide) 2 rfl (ci := 0) rfl hl.1 rfl (Nat.le_of_ble_eq_true rfl) ⟨Nat.zero_le _, Nat.zero_le _⟩ dX4_passOneTick_67 (fun H locs hP hD hS => ?_)
        have hP : va_P G.1 vwCl (List.flatten [OW G a (upd R9.1 5 R1), AW G (a 1) 9 st, BW G (fun k => a (k + 2)) R13, PW G (fun k => a (k + 10)) pf, LW G (fun k => a (k + 15)) R9.2.2]) H := hP
        have hD : va_D A (List.flatten [OW G a (upd R9.1 5 R1), AW G (a 1) 9 st, BW G (fun k => a (k + 2)) R13, PW G (fun k => a (k + 10)) pf, LW G (fun k => a (k + 15)) R9.2.2]) := hD
        refine lv_aload_n hx hb dX4_passOneTick_70 rfl (lv_at hl 1 rfl) ?_
        refine lv_dup hx hb dX4_passOneTick_71 rfl ?_
        refine g_get (ci := 4) (v := .int (R9.1 3)) (C := RX4) (T := TX4) (N := 12) hx hb hts hinX4 hown hK hP 0 rfl rfl 7 (by decide) (hts (.fieldLink RX4 46 "ChargeStages$State" "tick" "I") (List.mem_of_getElem? (i := 5) rfl)) rfl dX4_passOneTick_72 ?_
        refine lv_iconst (v := 1) hx hb dX4_passOneTick_75 (by decide) ?_
        refine lv_iadd hx hb dX4_passOneTick_76 ?_
        refine g_put (ci := 4) (v := .int ((R9.1 3) + 1)) (ty := .int) (C := RX4) (T := TX4) (N := 12) (B2 := [OW G a (upd (upd R9.1 5 R1) 3 ((R9.1 3) + 1)), AW G (a 1) 9 st, BW G (fun k => a (k + 2)) R13, PW G (fun k => a (k + 10)) pf, LW G (fun k => a (k + 15)) R9.2.2]) hx hb hts hinX4 tyX4 tyX4_ok nmX4 hown hK hP hD hS 0 rfl rfl 7 (by decide) (hts (.fieldLink RX4 46 "ChargeStages$State" "tick" "I") (List.mem_of_getElem? (i := 5) rfl)) rfl (by decide +kernel) rfl rfl (Nat.le_of_ble_eq_true rfl) rfl dX4_passOneTick_77 (fun H locs hP hD hS => ?_)
        subst hR
        exact g_retv hx hb hr hlocks hS dX4_passOneTick_80 rfl hP
  · rw [if_neg c3] at hR
    have hok := hok.2 c3
    refine lv_aload_n hx hb dX4_passOneTick_9 rfl (lv_at hl 1 rfl) ?_
    obtain ⟨k16, hok⟩ := hok
    obtain ⟨R15, eR15, hR, hok⟩ := g_let2 hR hok
    refine g_callV (c_X4_countPausedTick l G a o g R15 eR15 k16) hx hb hml hown hts hK hP hD hS hA gX4_passOneTick_X4_countPausedTick rfl (n := 0) (by decide +kernel) rfl ⟨Nat.le_of_ble_eq_true rfl, Nat.le_of_ble_eq_true rfl⟩ [0, 4] rfl (by decide) 0 rfl (ci := 4) rfl hl.1 rfl (Nat.le_of_ble_eq_true rfl) ⟨Nat.zero_le _, Nat.zero_le _⟩ dX4_passOneTick_10 (fun H locs hP hD hS => ?_)
    have hP : va_P G.1 vwCl (List.flatten [OW G a R15.1, AW G (a 1) 9 st, BW G (fun k => a (k + 2)) b, PW G (fun k => a (k + 10)) pf, LW G (fun k => a (k + 15)) R15.2]) H := hP
    have hD : va_D A (List.flatten [OW G a R15.1, AW G (a 1) 9 st, BW G (fun k => a (k + 2)) b, PW G (fun k => a (k + 10)) pf, LW G (fun k => a (k + 15)) R15.2]) := hD
    refine lv_goto (tgt := 28) hx hb dX4_passOneTick_13 (by decide) ?_
    refine lv_aload_n hx hb dX4_passOneTick_28 rfl (lv_at hl 1 rfl) ?_
    refine lv_iload_n hx hb dX4_passOneTick_29 rfl (lv_at hl 0 rfl) ?_
    obtain ⟨k17, hok⟩ := hok
    refine g_put (ci := 4) (v := .int R1) (ty := .boolean) (C := RX4) (T := TX4) (N := 12) (B2 := [OW G a (upd R15.1 5 R1), AW G (a 1) 9 st, BW G (fun k => a (k + 2)) b, PW G (fun k => a (k + 10)) pf, LW G (fun k => a (k + 15)) R15.2]) hx hb hts hinX4 tyX4 tyX4_ok nmX4 hown hK hP hD hS 0 rfl rfl 9 (by decide) (hts (.fieldLink RX4 52 "ChargeStages$State" "wasPaused" "Z") (List.mem_of_getElem? (i := 2) rfl)) rfl (by decide +kernel) k17.narrow k17.fits (Nat.le_of_ble_eq_true rfl) rfl dX4_passOneTick_30 (fun H locs hP hD hS => ?_)
    refine lv_aload_n hx hb dX4_passOneTick_33 rfl (lv_at hl 1 rfl) ?_
    refine g_get (ci := 4) (v := .ref (a 1)) (C := RX4) (T := TX4) (N := 12) hx hb hts hinX4 hown hK hP 0 rfl rfl 0 (by decide) (hts (.fieldLink RX4 9 "ChargeStages$State" "settings" "[I") (List.mem_of_getElem? (i := 3) rfl)) rfl dX4_passOneTick_34 ?_
    refine lv_bipush (v := 8) hx hb dX4_passOneTick_37 (by decide) ?_
    refine g_ld (n := 9) (f := st) (v := st 8) (k := 8) hx hb hK hP 1 rfl (by decide) (by unfold vp_in; decide) rfl dX4_passOneTick_39 ?_
    refine lv_if_le (tgt := 70) hx hb dX4_passOneTick_40 (by decide) (fun c18 => ?_) (fun c18 => ?_)
    · rw [if_pos c18] at hR
      have hok := hok.1 c18
      refine lv_aload_n hx hb dX4_passOneTick_70 rfl (lv_at hl 1 rfl) ?_
      refine lv_dup hx hb dX4_passOneTick_71 rfl ?_
      refine g_get (ci := 4) (v := .int (R15.1 3)) (C := RX4) (T := TX4) (N := 12) hx hb hts hinX4 hown hK hP 0 rfl rfl 7 (by decide) (hts (.fieldLink RX4 46 "ChargeStages$State" "tick" "I") (List.mem_of_getElem? (i := 5) rfl)) rfl dX4_passOneTick_72 ?_
      refine lv_iconst (v := 1) hx hb dX4_passOneTick_75 (by decide) ?_
      refine lv_iadd hx hb dX4_passOneTick_76 ?_
      refine g_put (ci := 4) (v := .int ((R15.1 3) + 1)) (ty := .int) (C := RX4) (T := TX4) (N := 12) (B2 := [OW G a (upd (upd R15.1 5 R1) 3 ((R15.1 3) + 1)), AW G (a 1) 9 st, BW G (fun k => a (k + 2)) b, PW G (fun k => a (k + 10)) pf, LW G (fun k => a (k + 15)) R15.2]) hx hb hts hinX4 tyX4 tyX4_ok nmX4 hown hK hP hD hS 0 rfl rfl 7 (by decide) (hts (.fieldLink RX4 46 "ChargeStages$State" "tick" "I") (List.mem_of_getElem? (i := 5) rfl)) rfl (by decide +kernel) rfl rfl (Nat.le_of_ble_eq_true rfl) rfl dX4_passOneTick_77 (fun H locs hP hD hS => ?_)
      subst hR
      exact g_retv hx hb hr hlocks hS dX4_passOneTick_80 rfl hP
    · rw [if_neg c18] at hR
      have hok := hok.2 c18
      refine lv_aload_n hx hb dX4_passOneTick_43 rfl (lv_at hl 1 rfl) ?_
      refine g_get (ci := 4) (v := .ref (a 2)) (C := RX4) (T := TX4) (N := 12) hx hb hts hinX4 hown hK hP 0 rfl rfl 1 (by decide) (hts (.fieldLink RX4 18 "ChargeStages$State" "row" "LChargeStages$Battery;") (List.mem_of_getElem? (i := 4) rfl)) rfl dX4_passOneTick_44 ?_
      refine lv_aload_n hx hb dX4_passOneTick_47 rfl (lv_at hl 1 rfl) ?_
      refine g_get (ci := 4) (v := .ref (a 1)) (C := RX4) (T := TX4) (N := 12) hx hb hts hinX4 hown hK hP 0 rfl rfl 0 (by decide) (hts (.fieldLink RX4 9 "ChargeStages$State" "settings" "[I") (List.mem_of_getElem? (i := 3) rfl)) rfl dX4_passOneTick_48 ?_
      refine lv_bipush (v := 8) hx hb dX4_passOneTick_51 (by decide) ?_
      refine g_ld (n := 9) (f := st) (v := st 8) (k := 8) hx hb hK hP 1 rfl (by decide) (by unfold vp_in; decide) rfl dX4_passOneTick_53 ?_
      refine lv_aload_n hx hb dX4_passOneTick_54 rfl (lv_at hl 1 rfl) ?_
      refine g_get (ci := 4) (v := .ref (a 1)) (C := RX4) (T := TX4) (N := 12) hx hb hts hinX4 hown hK hP 0 rfl rfl 0 (by decide) (hts (.fieldLink RX4 9 "ChargeStages$State" "settings" "[I") (List.mem_of_getElem? (i := 3) rfl)) rfl dX4_passOneTick_55 ?_
      refine lv_bipush (v := 7) hx hb dX4_passOneTick_58 (by decide) ?_
      refine g_ld (n := 9) (f := st) (v := st 7) (k := 7) hx hb hK hP 1 rfl (by decide) (by unfold vp_in; decide) rfl dX4_passOneTick_60 ?_
      refine lv_aload_n hx hb dX4_passOneTick_61 rfl (lv_at hl 1 rfl) ?_
      refine g_get (ci := 4) (v := .ref (a 1)) (C := RX4) (T := TX4) (N := 12) hx hb hts hinX4 hown hK hP 0 rfl rfl 0 (by decide) (hts (.fieldLink RX4 9 "ChargeStages$State" "settings" "[I") (List.mem_of_getElem? (i := 3) rfl)) rfl dX4_passOneTick_62 ?_
      refine lv_iconst (v := 0) hx hb dX4_passOneTick_65 (by decide) ?_
      refine g_ld (n := 9) (f := st) (v := st 0) (k := 0) hx hb hK hP 1 rfl (by decide) (by unfold vp_in; decide) rfl dX4_passOneTick_66 ?_
      obtain ⟨k20, hok⟩ := hok
      obtain ⟨R19, eR19, hR⟩ := g_let hR
      refine g_callV (c_X0_loseTo l G (fun k => a (k + 2)) b (st 8) (st 7) (st 0) R19 eR19 k20) hx hb hml hown hts hK hP hD hS hA gX4_passOneTick_X0_loseTo rfl (n := 3) (by decide +kernel) rfl ⟨Nat.le_of_ble_eq_true rfl, Nat.le_of_ble_eq_true rfl⟩ [2] rfl (by decide) 2 rfl (ci := 0) rfl hl.1 rfl (Nat.le_of_ble_eq_true rfl) ⟨Nat.zero_le _, Nat.zero_le _⟩ dX4_passOneTick_67 (fun H locs hP hD hS => ?_)
      have hP : va_P G.1 vwCl (List.flatten [OW G a (upd R15.1 5 R1), AW G (a 1) 9 st, BW G (fun k => a (k + 2)) R19, PW G (fun k => a (k + 10)) pf, LW G (fun k => a (k + 15)) R15.2]) H := hP
      have hD : va_D A (List.flatten [OW G a (upd R15.1 5 R1), AW G (a 1) 9 st, BW G (fun k => a (k + 2)) R19, PW G (fun k => a (k + 10)) pf, LW G (fun k => a (k + 15)) R15.2]) := hD
      refine lv_aload_n hx hb dX4_passOneTick_70 rfl (lv_at hl 1 rfl) ?_
      refine lv_dup hx hb dX4_passOneTick_71 rfl ?_
      refine g_get (ci := 4) (v := .int (R15.1 3)) (C := RX4) (T := TX4) (N := 12) hx hb hts hinX4 hown hK hP 0 rfl rfl 7 (by decide) (hts (.fieldLink RX4 46 "ChargeStages$State" "tick" "I") (List.mem_of_getElem? (i := 5) rfl)) rfl dX4_passOneTick_72 ?_
      refine lv_iconst (v := 1) hx hb dX4_passOneTick_75 (by decide) ?_
      refine lv_iadd hx hb dX4_passOneTick_76 ?_
      refine g_put (ci := 4) (v := .int ((R15.1 3) + 1)) (ty := .int) (C := RX4) (T := TX4) (N := 12) (B2 := [OW G a (upd (upd R15.1 5 R1) 3 ((R15.1 3) + 1)), AW G (a 1) 9 st, BW G (fun k => a (k + 2)) R19, PW G (fun k => a (k + 10)) pf, LW G (fun k => a (k + 15)) R15.2]) hx hb hts hinX4 tyX4 tyX4_ok nmX4 hown hK hP hD hS 0 rfl rfl 7 (by decide) (hts (.fieldLink RX4 46 "ChargeStages$State" "tick" "I") (List.mem_of_getElem? (i := 5) rfl)) rfl (by decide +kernel) rfl rfl (Nat.le_of_ble_eq_true rfl) rfl dX4_passOneTick_77 (fun H locs hP hD hS => ?_)
      subst hR
      exact g_retv hx hb hr hlocks hS dX4_passOneTick_80 rfl hP
def fl_X4_passTicks_2 (p1 : Int32) (st : (Nat → Int32)) (pf : (Nat → Nat → Int32)) : Nat → Int32 → (Nat → Int32) → (Nat → Nat → Int32) → (Nat → Nat → Int32) → (Nat → Int32) × (Nat → Nat → Int32) × (Nat → Nat → Int32)
  | 0, _, _, _, _ => ((fun _ => 0), (fun _ _ => 0), (fun _ _ => 0))
  | n + 1, x2_2, w2_0, w2_2, w2_4 => (if p1 ≤ x2_2 then (w2_0, w2_2, w2_4) else (gL (f_X4_passOneTick w2_0 st w2_2 pf w2_4) (fun (R5 : (Nat → Int32) × (Nat → Nat → Int32) × (Nat → Nat → Int32)) => (gL ((x2_2 + 1)) (fun (v7 : Int32) => (fl_X4_passTicks_2 p1 st pf n v7 R5.1 R5.2.1 R5.2.2))))))
def okl_X4_passTicks_2 (p1 : Int32) (st : (Nat → Int32)) (pf : (Nat → Nat → Int32)) : Nat → Int32 → (Nat → Int32) → (Nat → Nat → Int32) → (Nat → Nat → Int32) → Prop
  | 0, _, _, _, _ => False
  | n + 1, x2_2, w2_0, w2_2, w2_4 => ((p1 ≤ x2_2 → True) ∧ (¬ p1 ≤ x2_2 → (ok_X4_passOneTick w2_0 st w2_2 pf w2_4) ∧ (gL (f_X4_passOneTick w2_0 st w2_2 pf w2_4) (fun (R5 : (Nat → Int32) × (Nat → Nat → Int32) × (Nat → Nat → Int32)) => (gL ((x2_2 + 1)) (fun (v7 : Int32) => (okl_X4_passTicks_2 p1 st pf n v7 R5.1 R5.2.1 R5.2.2)))))))
def f_X4_passTicks (o : (Nat → Int32)) (st : (Nat → Int32)) (b : (Nat → Nat → Int32)) (pf : (Nat → Nat → Int32)) (g : (Nat → Nat → Int32)) (p1 : Int32) : (Nat → Int32) × (Nat → Nat → Int32) × (Nat → Nat → Int32) := (fl_X4_passTicks_2 p1 st pf 201 0 o b g)
def ok_X4_passTicks (o : (Nat → Int32)) (st : (Nat → Int32)) (b : (Nat → Nat → Int32)) (pf : (Nat → Nat → Int32)) (g : (Nat → Nat → Int32)) (p1 : Int32) : Prop := (okl_X4_passTicks_2 p1 st pf 201 0 o b g)
set_option maxHeartbeats 4000000 in
set_option maxRecDepth 100000 in
theorem c_X4_passTicks (l : Launch) (G : gG) (a : Nat → Nat) (o : (Nat → Int32)) (st : (Nat → Int32)) (b : (Nat → Nat → Int32)) (pf : (Nat → Nat → Int32)) (g : (Nat → Nat → Int32)) (p1 : Int32) (R : (Nat → Int32) × (Nat → Nat → Int32) × (Nat → Nat → Int32)) (hR : R = f_X4_passTicks o st b pf g p1) (hok : ok_X4_passTicks o st b pf g p1) : CT l G yX4_passTicks wsX4_passTicks 6 120 [.ref (a 0), .int p1] [OW G a o, AW G (a 1) 9 st, BW G (fun k => a (k + 2)) b, PW G (fun k => a (k + 10)) pf, LW G (fun k => a (k + 15)) g] none [OW G a R.1, AW G (a 1) 9 st, BW G (fun k => a (k + 2)) R.2.1, PW G (fun k => a (k + 10)) pf, LW G (fun k => a (k + 15)) R.2.2] := by
  unfold f_X4_passTicks at hR
  unfold ok_X4_passTicks at hok
  refine CT.of (cc := cX4_passTicks) (maxL := 3) (ret := none) (plainFor_of_name (by decide +kernel)) rfl rfl (Nat.le_of_ble_eq_true rfl) ?_
  intro p e s m below meth c A ls hx hb hml hr hts hown hlocks hK hP hD hA hS hl
  have hown : s.vm.findClass RX4 = some m.cls := hown
  have hl : lv_has ls 3 [(0, .ref (a 0)), (1, .int p1)] := hl
  refine lv_iconst (v := 0) hx hb dX4_passTicks_0 (by decide) ?_
  refine lv_istore_n (lv' := [(2, .int 0), (0, .ref (a 0)), (1, .int p1)]) hx hb dX4_passTicks_1 rfl hl (by decide) rfl (fun ls hl => ?_)
  have lp2 : ∀ (n : Nat) (x2_2 : Int32) (w2_0 : (Nat → Int32)) (w2_2 : (Nat → Nat → Int32)) (w2_4 : (Nat → Nat → Int32)) (H : Heap) (locs : List Loc) (ls : Array Slot), R = fl_X4_passTicks_2 p1 st pf n x2_2 w2_0 w2_2 w2_4 → okl_X4_passTicks_2 p1 st pf n x2_2 w2_0 w2_2 w2_4 → va_P G.1 vwCl (List.flatten [OW G a w2_0, AW G (a 1) 9 st, BW G (fun k => a (k + 2)) w2_2, PW G (fun k => a (k + 10)) pf, LW G (fun k => a (k + 15)) w2_4]) H → va_D A (List.flatten [OW G a w2_0, AW G (a 1) 9 st, BW G (fun k => a (k + 2)) w2_2, PW G (fun k => a (k + 10)) pf, LW G (fun k => a (k + 15)) w2_4]) → va_S A s.heap H locs → lv_has ls 3 [(0, .ref (a 0)), (1, .int p1), (2, .int x2_2)] → W p l e { frames := 6, cells := 0, slots := 0, locals := 120 } s m (List.toArray [.ref (a 0), .int p1]) below meth c H locs 0 0 (gQ G below (List.toArray [.ref (a 0), .int p1]) s none [OW G a R.1, AW G (a 1) 9 st, BW G (fun k => a (k + 2)) R.2.1, PW G (fun k => a (k + 10)) pf, LW G (fun k => a (k + 15)) R.2.2] A) (F0 m 2 ls []) := by
    intro n
    induction n with
    | zero =>
      intro x2_2 w2_0 w2_2 w2_4 H locs ls hR hok hP hD hS hl
      rw [okl_X4_passTicks_2] at hok
      exact hok.elim
    | succ n ih =>
      intro x2_2 w2_0 w2_2 w2_4 H locs ls hR hok hP hD hS hl
      rw [fl_X4_passTicks_2] at hR
      rw [okl_X4_passTicks_2] at hok
      refine lv_iload_n hx hb dX4_passTicks_2 rfl (lv_at hl 2 rfl) ?_
      refine lv_iload_n hx hb dX4_passTicks_3 rfl (lv_at hl 1 rfl) ?_
      refine lv_icmp_ge (tgt := 17) hx hb dX4_passTicks_4 (by decide) (fun c4 => ?_) (fun c4 => ?_)
      · rw [if_pos c4] at hR
        have hok := hok.1 c4
        subst hR
        exact g_retv hx hb hr hlocks hS dX4_passTicks_17 rfl hP
      · rw [if_neg c4] at hR
        have hok := hok.2 c4
        refine lv_aload_n hx hb dX4_passTicks_7 rfl (lv_at hl 0 rfl) ?_
        obtain ⟨k6, hok⟩ := hok
        obtain ⟨R5, eR5, hR, hok⟩ := g_let2 hR hok
        refine g_callV (c_X4_passOneTick l G a w2_0 st w2_2 pf w2_4 R5 eR5 k6) hx hb hml hown hts hK hP hD hS hA gX4_passTicks_X4_passOneTick rfl (n := 0) (by decide +kernel) rfl ⟨Nat.le_of_ble_eq_true rfl, Nat.le_of_ble_eq_true rfl⟩ [0, 1, 2, 3, 4] rfl (by decide) 0 rfl (ci := 4) rfl hl.1 rfl (Nat.le_of_ble_eq_true rfl) ⟨Nat.zero_le _, Nat.zero_le _⟩ dX4_passTicks_8 (fun H locs hP hD hS => ?_)
        have hP : va_P G.1 vwCl (List.flatten [OW G a R5.1, AW G (a 1) 9 st, BW G (fun k => a (k + 2)) R5.2.1, PW G (fun k => a (k + 10)) pf, LW G (fun k => a (k + 15)) R5.2.2]) H := hP
        have hD : va_D A (List.flatten [OW G a R5.1, AW G (a 1) 9 st, BW G (fun k => a (k + 2)) R5.2.1, PW G (fun k => a (k + 10)) pf, LW G (fun k => a (k + 15)) R5.2.2]) := hD
        obtain ⟨v7, ev7, hR, hok⟩ := g_let2 hR hok
        refine lv_iinc (v := v7) (lv' := [(2, .int v7), (0, .ref (a 0)), (1, .int p1)]) hx hb dX4_passTicks_11 hl (k := 2) rfl (by subst ev7; rfl) (by decide) rfl (fun ls hl => ?_)
        refine lv_goto (tgt := 2) hx hb dX4_passTicks_14 (by decide) ?_
        exact ih v7 R5.1 R5.2.1 R5.2.2 _ _ _ hR hok hP hD hS (lv_sub hl [1, 2, 0] rfl)
  exact lp2 201 0 o b g _ _ _ hR hok hP hD hS (lv_sub hl [1, 2, 0] rfl)
def fl_X4_runUntilDone_2 (p1 : Int32) (st : (Nat → Int32)) (pf : (Nat → Nat → Int32)) : Nat → Int32 → (Nat → Int32) → (Nat → Nat → Int32) → (Nat → Nat → Int32) → Int32 × (Nat → Int32) × (Nat → Nat → Int32) × (Nat → Nat → Int32)
  | 0, _, _, _, _ => ((0 : Int32), (fun _ => 0), (fun _ _ => 0), (fun _ _ => 0))
  | n + 1, x2_2, w2_0, w2_2, w2_4 => (if p1 < x2_2 then ((-5), w2_0, w2_2, w2_4) else (if (w2_0 0) = 1 then (gL (f_X4_isPaused w2_0 st) (fun (R11 : Int32) => (if R11 = 0 then (gL (f_X4_passOneTick w2_0 st w2_2 pf w2_4) (fun (R14 : (Nat → Int32) × (Nat → Nat → Int32) × (Nat → Nat → Int32)) => (if (R14.1 0) = 2 then (x2_2, R14.1, R14.2.1, R14.2.2) else (gL ((x2_2 + 1)) (fun (v17 : Int32) => (fl_X4_runUntilDone_2 p1 st pf n v17 R14.1 R14.2.1 R14.2.2)))))) else ((-5), w2_0, w2_2, w2_4)))) else ((-5), w2_0, w2_2, w2_4)))
def okl_X4_runUntilDone_2 (p1 : Int32) (st : (Nat → Int32)) (pf : (Nat → Nat → Int32)) : Nat → Int32 → (Nat → Int32) → (Nat → Nat → Int32) → (Nat → Nat → Int32) → Prop
  | 0, _, _, _, _ => False
  | n + 1, x2_2, w2_0, w2_2, w2_4 => ((p1 < x2_2 → True) ∧ (¬ p1 < x2_2 → (((w2_0 0) = 1 → (gL (f_X4_isPaused w2_0 st) (fun (R11 : Int32) => ((R11 = 0 → (ok_X4_passOneTick w2_0 st w2_2 pf w2_4) ∧ (gL (f_X4_passOneTick w2_0 st w2_2 pf w2_4) (fun (R14 : (Nat → Int32) × (Nat → Nat → Int32) × (Nat → Nat → Int32)) => (((R14.1 0) = 2 → True) ∧ (¬ (R14.1 0) = 2 → (gL ((x2_2 + 1)) (fun (v17 : Int32) => (okl_X4_runUntilDone_2 p1 st pf n v17 R14.1 R14.2.1 R14.2.2)))))))) ∧ (¬ R11 = 0 → True))))) ∧ (¬ (w2_0 0) = 1 → True))))
def f_X4_runUntilDone (o : (Nat → Int32)) (st : (Nat → Int32)) (b : (Nat → Nat → Int32)) (pf : (Nat → Nat → Int32)) (g : (Nat → Nat → Int32)) (p1 : Int32) : Int32 × (Nat → Int32) × (Nat → Nat → Int32) × (Nat → Nat → Int32) := (fl_X4_runUntilDone_2 p1 st pf 2001 1 o b g)
def ok_X4_runUntilDone (o : (Nat → Int32)) (st : (Nat → Int32)) (b : (Nat → Nat → Int32)) (pf : (Nat → Nat → Int32)) (g : (Nat → Nat → Int32)) (p1 : Int32) : Prop := (okl_X4_runUntilDone_2 p1 st pf 2001 1 o b g)
set_option maxHeartbeats 4000000 in
set_option maxRecDepth 100000 in
theorem c_X4_runUntilDone (l : Launch) (G : gG) (a : Nat → Nat) (o : (Nat → Int32)) (st : (Nat → Int32)) (b : (Nat → Nat → Int32)) (pf : (Nat → Nat → Int32)) (g : (Nat → Nat → Int32)) (p1 : Int32) (R : Int32 × (Nat → Int32) × (Nat → Nat → Int32) × (Nat → Nat → Int32)) (hR : R = f_X4_runUntilDone o st b pf g p1) (hok : ok_X4_runUntilDone o st b pf g p1) : CT l G yX4_runUntilDone wsX4_runUntilDone 6 120 [.ref (a 0), .int p1] [OW G a o, AW G (a 1) 9 st, BW G (fun k => a (k + 2)) b, PW G (fun k => a (k + 10)) pf, LW G (fun k => a (k + 15)) g] (some (.int R.1)) [OW G a R.2.1, AW G (a 1) 9 st, BW G (fun k => a (k + 2)) R.2.2.1, PW G (fun k => a (k + 10)) pf, LW G (fun k => a (k + 15)) R.2.2.2] := by
  unfold f_X4_runUntilDone at hR
  unfold ok_X4_runUntilDone at hok
  refine CT.of (cc := cX4_runUntilDone) (maxL := 3) (ret := (some .int)) (plainFor_of_name (by decide +kernel)) rfl rfl (Nat.le_of_ble_eq_true rfl) ?_
  intro p e s m below meth c A ls hx hb hml hr hts hown hlocks hK hP hD hA hS hl
  have hown : s.vm.findClass RX4 = some m.cls := hown
  have hl : lv_has ls 3 [(0, .ref (a 0)), (1, .int p1)] := hl
  have hinX4 : ∀ w ∈ wsX40, w ∈ wsX4_runUntilDone := fun w h => List.mem_cons_of_mem _ (List.mem_append_left _ (List.mem_append_left _ (List.mem_append_left _ (List.mem_append_right _ h))))
  refine lv_iconst (v := 1) hx hb dX4_runUntilDone_0 (by decide) ?_
  refine lv_istore_n (lv' := [(2, .int 1), (0, .ref (a 0)), (1, .int p1)]) hx hb dX4_runUntilDone_1 rfl hl (by decide) rfl (fun ls hl => ?_)
  have lp2 : ∀ (n : Nat) (x2_2 : Int32) (w2_0 : (Nat → Int32)) (w2_2 : (Nat → Nat → Int32)) (w2_4 : (Nat → Nat → Int32)) (H : Heap) (locs : List Loc) (ls : Array Slot), R = fl_X4_runUntilDone_2 p1 st pf n x2_2 w2_0 w2_2 w2_4 → okl_X4_runUntilDone_2 p1 st pf n x2_2 w2_0 w2_2 w2_4 → va_P G.1 vwCl (List.flatten [OW G a w2_0, AW G (a 1) 9 st, BW G (fun k => a (k + 2)) w2_2, PW G (fun k => a (k + 10)) pf, LW G (fun k => a (k + 15)) w2_4]) H → va_D A (List.flatten [OW G a w2_0, AW G (a 1) 9 st, BW G (fun k => a (k + 2)) w2_2, PW G (fun k => a (k + 10)) pf, LW G (fun k => a (k + 15)) w2_4]) → va_S A s.heap H locs → lv_has ls 3 [(0, .ref (a 0)), (1, .int p1), (2, .int x2_2)] → W p l e { frames := 6, cells := 0, slots := 0, locals := 120 } s m (List.toArray [.ref (a 0), .int p1]) below meth c H locs 0 0 (gQ G below (List.toArray [.ref (a 0), .int p1]) s (some (.int R.1)) [OW G a R.2.1, AW G (a 1) 9 st, BW G (fun k => a (k + 2)) R.2.2.1, PW G (fun k => a (k + 10)) pf, LW G (fun k => a (k + 15)) R.2.2.2] A) (F0 m 2 ls []) := by
    intro n
    induction n with
    | zero =>
      intro x2_2 w2_0 w2_2 w2_4 H locs ls hR hok hP hD hS hl
      rw [okl_X4_runUntilDone_2] at hok
      exact hok.elim
    | succ n ih =>
      intro x2_2 w2_0 w2_2 w2_4 H locs ls hR hok hP hD hS hl
      rw [fl_X4_runUntilDone_2] at hR
      rw [okl_X4_runUntilDone_2] at hok
      refine lv_iload_n hx hb dX4_runUntilDone_2 rfl (lv_at hl 2 rfl) ?_
      refine lv_iload_n hx hb dX4_runUntilDone_3 rfl (lv_at hl 1 rfl) ?_
      refine lv_icmp_gt (tgt := 42) hx hb dX4_runUntilDone_4 (by decide) (fun c9 => ?_) (fun c9 => ?_)
      · rw [if_pos c9] at hR
        have hok := hok.1 c9
        refine lv_bipush (v := (-5)) hx hb dX4_runUntilDone_42 (by decide) ?_
        subst hR
        exact g_ret hx hb hr hlocks hS dX4_runUntilDone_44 rfl hP
      · rw [if_neg c9] at hR
        have hok := hok.2 c9
        refine lv_aload_n hx hb dX4_runUntilDone_7 rfl (lv_at hl 0 rfl) ?_
        refine g_get (ci := 4) (v := .int (w2_0 0)) (C := RX4) (T := TX4) (N := 12) hx hb hts hinX4 hown hK hP 0 rfl rfl 4 (by decide) (hts (.fieldLink RX4 36 "ChargeStages$State" "mode" "I") (List.mem_of_getElem? (i := 1) rfl)) rfl dX4_runUntilDone_8 ?_
        refine lv_iconst (v := 1) hx hb dX4_runUntilDone_11 (by decide) ?_
        refine lv_icmp_ne (tgt := 42) hx hb dX4_runUntilDone_12 (by decide) (fun c10 => ?_) (fun c10 => ?_)
        · rw [if_neg c10] at hR
          have hok := hok.2 c10
          refine lv_bipush (v := (-5)) hx hb dX4_runUntilDone_42 (by decide) ?_
          subst hR
          exact g_ret hx hb hr hlocks hS dX4_runUntilDone_44 rfl hP
        · rw [if_pos c10] at hR
          have hok := hok.1 c10
          refine lv_aload_n hx hb dX4_runUntilDone_15 rfl (lv_at hl 0 rfl) ?_
          obtain ⟨R11, eR11, hR, hok⟩ := g_let2 hR hok
          refine g_callV (c_X4_isPaused l G a w2_0 st R11 eR11) hx hb hml hown hts hK hP hD hS hA gX4_runUntilDone_X4_isPaused rfl (n := 0) (by decide +kernel) rfl ⟨Nat.le_of_ble_eq_true rfl, Nat.le_of_ble_eq_true rfl⟩ [0, 1] rfl (by decide) 0 rfl (ci := 4) rfl hl.1 rfl (Nat.le_of_ble_eq_true rfl) ⟨Nat.zero_le _, Nat.zero_le _⟩ dX4_runUntilDone_16 (fun H locs hP hD hS => ?_)
          have hP : va_P G.1 vwCl (List.flatten [OW G a w2_0, AW G (a 1) 9 st, BW G (fun k => a (k + 2)) w2_2, PW G (fun k => a (k + 10)) pf, LW G (fun k => a (k + 15)) w2_4]) H := hP
          have hD : va_D A (List.flatten [OW G a w2_0, AW G (a 1) 9 st, BW G (fun k => a (k + 2)) w2_2, PW G (fun k => a (k + 10)) pf, LW G (fun k => a (k + 15)) w2_4]) := hD
          refine lv_if_ne (tgt := 42) hx hb dX4_runUntilDone_19 (by decide) (fun c13 => ?_) (fun c13 => ?_)
          · rw [if_neg c13] at hR
            have hok := hok.2 c13
            refine lv_bipush (v := (-5)) hx hb dX4_runUntilDone_42 (by decide) ?_
            subst hR
            exact g_ret hx hb hr hlocks hS dX4_runUntilDone_44 rfl hP
          · rw [if_pos c13] at hR
            have hok := hok.1 c13
            refine lv_aload_n hx hb dX4_runUntilDone_22 rfl (lv_at hl 0 rfl) ?_
            obtain ⟨k15, hok⟩ := hok
            obtain ⟨R14, eR14, hR, hok⟩ := g_let2 hR hok
            refine g_callV (c_X4_passOneTick l G a w2_0 st w2_2 pf w2_4 R14 eR14 k15) hx hb hml hown hts hK hP hD hS hA gX4_runUntilDone_X4_passOneTick rfl (n := 0) (by decide +kernel) rfl ⟨Nat.le_of_ble_eq_true rfl, Nat.le_of_ble_eq_true rfl⟩ [0, 1, 2, 3, 4] rfl (by decide) 0 rfl (ci := 4) rfl hl.1 rfl (Nat.le_of_ble_eq_true rfl) ⟨Nat.zero_le _, Nat.zero_le _⟩ dX4_runUntilDone_23 (fun H locs hP hD hS => ?_)
            have hP : va_P G.1 vwCl (List.flatten [OW G a R14.1, AW G (a 1) 9 st, BW G (fun k => a (k + 2)) R14.2.1, PW G (fun k => a (k + 10)) pf, LW G (fun k => a (k + 15)) R14.2.2]) H := hP
            have hD : va_D A (List.flatten [OW G a R14.1, AW G (a 1) 9 st, BW G (fun k => a (k + 2)) R14.2.1, PW G (fun k => a (k + 10)) pf, LW G (fun k => a (k + 15)) R14.2.2]) := hD
            refine lv_aload_n hx hb dX4_runUntilDone_26 rfl (lv_at hl 0 rfl) ?_
            refine g_get (ci := 4) (v := .int (R14.1 0)) (C := RX4) (T := TX4) (N := 12) hx hb hts hinX4 hown hK hP 0 rfl rfl 4 (by decide) (hts (.fieldLink RX4 36 "ChargeStages$State" "mode" "I") (List.mem_of_getElem? (i := 1) rfl)) rfl dX4_runUntilDone_27 ?_
            refine lv_iconst (v := 2) hx hb dX4_runUntilDone_30 (by decide) ?_
            refine lv_icmp_ne (tgt := 36) hx hb dX4_runUntilDone_31 (by decide) (fun c16 => ?_) (fun c16 => ?_)
            · rw [if_neg c16] at hR
              have hok := hok.2 c16
              obtain ⟨v17, ev17, hR, hok⟩ := g_let2 hR hok
              refine lv_iinc (v := v17) (lv' := [(2, .int v17), (0, .ref (a 0)), (1, .int p1)]) hx hb dX4_runUntilDone_36 hl (k := 2) rfl (by subst ev17; rfl) (by decide) rfl (fun ls hl => ?_)
              refine lv_goto (tgt := 2) hx hb dX4_runUntilDone_39 (by decide) ?_
              exact ih v17 R14.1 R14.2.1 R14.2.2 _ _ _ hR hok hP hD hS (lv_sub hl [1, 2, 0] rfl)
            · rw [if_pos c16] at hR
              have hok := hok.1 c16
              refine lv_iload_n hx hb dX4_runUntilDone_34 rfl (lv_at hl 2 rfl) ?_
              subst hR
              exact g_ret hx hb hr hlocks hS dX4_runUntilDone_35 rfl hP
  exact lp2 2001 1 o b g _ _ _ hR hok hP hD hS (lv_sub hl [1, 2, 0] rfl)
