set_option maxHeartbeats 4000000 in
set_option maxRecDepth 100000 in
theorem c_X1_dropOldest (l : Launch) (G : gG) (a : Nat → Nat) (u0 : Nat → Nat) (u1 : Nat → Nat) (u2 : Nat → Nat) (u3 : Nat → Nat) (o0 : (Nat → Int32)) (o1 : (Nat → Int32)) (o2 : (Nat → Int32)) (o3 : (Nat → Int32)) : CT l G yX1_dropOldest wsX1_dropOldest 0 0 [.ref (a 0)] [HW G a 4 (k4 (u0 0) (u1 0) (u2 0) (u3 0)), OW G u0 o0, OW G u1 o1, OW G u2 o2, OW G u3 o3] none [HW G a 3 (k4 (u1 0) (u2 0) (u3 0) (u0 0)), OW G u0 o0, OW G u1 o1, OW G u2 o2, OW G u3 o3] := by
  refine CT.of (cc := cX1_dropOldest) (maxL := 3) (ret := none) (plainFor_of_name (by decide +kernel)) rfl rfl (Nat.le_of_ble_eq_true rfl) ?_
  intro p e s m below meth c A ls hx hb hml hr hts hown hlocks hK hP hD hA hS hl
  have hown : s.vm.findClass RX1 = some m.cls := hown
  have hl : lv_has ls 3 [(0, .ref (a 0))] := hl
  have hinX1 : ∀ w ∈ wsX10, w ∈ wsX1_dropOldest := fun w h => List.mem_cons_of_mem _ (List.mem_append_right _ h)
  refine lv_aload_n hx hb dX1_dropOldest_0 rfl (lv_at hl 0 rfl) ?_
  refine g_get (ci := 1) (v := .ref (a 1)) (C := RX1) (T := TX1) (N := 2) hx hb hts hinX1 hown hK hP 0 rfl rfl 1 (by decide) (hts (.fieldLink RX1 17 "ChargeStages$History" "kept" "[LChargeStages$State;") (List.mem_of_getElem? (i := 1) rfl)) rfl dX1_dropOldest_1 ?_
  refine lv_iconst (v := 0) hx hb dX1_dropOldest_4 (by decide) ?_
  refine g_aldq (n := 4) (v := (u0 0)) (k := 0) hx hb hK hP 1 rfl (by decide) (by unfold vp_in; decide) rfl dX1_dropOldest_5 ?_
  refine lv_astore_n (lv' := [(1, .ref (u0 0)), (0, .ref (a 0))]) hx hb dX1_dropOldest_6 rfl hl (by decide) rfl (fun ls hl => ?_)
  refine lv_iconst (v := 1) hx hb dX1_dropOldest_7 (by decide) ?_
  refine lv_istore_n (lv' := [(2, .int 1), (1, .ref (u0 0)), (0, .ref (a 0))]) hx hb dX1_dropOldest_8 rfl hl (by decide) rfl (fun ls hl => ?_)
  refine lv_iload_n hx hb dX1_dropOldest_9 rfl (lv_at hl 0 rfl) ?_
  refine lv_iconst (v := 4) hx hb dX1_dropOldest_10 (by decide) ?_
  refine lv_icmp_ge (tgt := 34) hx hb dX1_dropOldest_11 (by decide) (fun c => absurd c (by decide)) (fun _ => ?_)
  refine lv_aload_n hx hb dX1_dropOldest_14 rfl (lv_at hl 2 rfl) ?_
  refine g_get (ci := 1) (v := .ref (a 1)) (C := RX1) (T := TX1) (N := 2) hx hb hts hinX1 hown hK hP 0 rfl rfl 1 (by decide) (hts (.fieldLink RX1 17 "ChargeStages$History" "kept" "[LChargeStages$State;") (List.mem_of_getElem? (i := 1) rfl)) rfl dX1_dropOldest_15 ?_
  refine lv_iload_n hx hb dX1_dropOldest_18 rfl (lv_at hl 0 rfl) ?_
  refine lv_iconst (v := 1) hx hb dX1_dropOldest_19 (by decide) ?_
  refine lv_isub hx hb dX1_dropOldest_20 ?_
  refine g_topE (y := 0) (by decide) ?_
  refine lv_aload_n hx hb dX1_dropOldest_21 rfl (lv_at hl 2 rfl) ?_
  refine g_get (ci := 1) (v := .ref (a 1)) (C := RX1) (T := TX1) (N := 2) hx hb hts hinX1 hown hK hP 0 rfl rfl 1 (by decide) (hts (.fieldLink RX1 17 "ChargeStages$History" "kept" "[LChargeStages$State;") (List.mem_of_getElem? (i := 1) rfl)) rfl dX1_dropOldest_22 ?_
  refine lv_iload_n hx hb dX1_dropOldest_25 rfl (lv_at hl 0 rfl) ?_
  refine g_aldq (n := 4) (v := (u1 0)) (k := 1) hx hb hK hP 1 rfl (by decide) (by unfold vp_in; decide) rfl dX1_dropOldest_26 ?_
  refine g_astq (n := 4) (k := 0) (B2 := [HW G a 4 (k4 (u1 0) (u1 0) (u2 0) (u3 0)), OW G u0 o0, OW G u1 o1, OW G u2 o2, OW G u3 o3]) hx hb hK hP hD hS 1 3 rfl rfl (by decide) (by unfold vp_in; decide) (by rw [k4_0]; rfl) dX1_dropOldest_27 (fun H locs hP hD hS => ?_)
  refine lv_iinc (v := 2) (lv' := [(2, .int 2), (1, .ref (u0 0)), (0, .ref (a 0))]) hx hb dX1_dropOldest_28 hl (k := 0) rfl (by decide) (by decide) rfl (fun ls hl => ?_)
  refine lv_goto (tgt := 9) hx hb dX1_dropOldest_31 (by decide) ?_
  refine lv_iload_n hx hb dX1_dropOldest_9 rfl (lv_at hl 0 rfl) ?_
  refine lv_iconst (v := 4) hx hb dX1_dropOldest_10 (by decide) ?_
  refine lv_icmp_ge (tgt := 34) hx hb dX1_dropOldest_11 (by decide) (fun c => absurd c (by decide)) (fun _ => ?_)
  refine lv_aload_n hx hb dX1_dropOldest_14 rfl (lv_at hl 2 rfl) ?_
  refine g_get (ci := 1) (v := .ref (a 1)) (C := RX1) (T := TX1) (N := 2) hx hb hts hinX1 hown hK hP 0 rfl rfl 1 (by decide) (hts (.fieldLink RX1 17 "ChargeStages$History" "kept" "[LChargeStages$State;") (List.mem_of_getElem? (i := 1) rfl)) rfl dX1_dropOldest_15 ?_
  refine lv_iload_n hx hb dX1_dropOldest_18 rfl (lv_at hl 0 rfl) ?_
  refine lv_iconst (v := 1) hx hb dX1_dropOldest_19 (by decide) ?_
  refine lv_isub hx hb dX1_dropOldest_20 ?_
  refine g_topE (y := 1) (by decide) ?_
  refine lv_aload_n hx hb dX1_dropOldest_21 rfl (lv_at hl 2 rfl) ?_
  refine g_get (ci := 1) (v := .ref (a 1)) (C := RX1) (T := TX1) (N := 2) hx hb hts hinX1 hown hK hP 0 rfl rfl 1 (by decide) (hts (.fieldLink RX1 17 "ChargeStages$History" "kept" "[LChargeStages$State;") (List.mem_of_getElem? (i := 1) rfl)) rfl dX1_dropOldest_22 ?_
  refine lv_iload_n hx hb dX1_dropOldest_25 rfl (lv_at hl 0 rfl) ?_
  refine g_aldq (n := 4) (v := (u2 0)) (k := 2) hx hb hK hP 1 rfl (by decide) (by unfold vp_in; decide) rfl dX1_dropOldest_26 ?_
  refine g_astq (n := 4) (k := 1) (B2 := [HW G a 4 (k4 (u1 0) (u2 0) (u2 0) (u3 0)), OW G u0 o0, OW G u1 o1, OW G u2 o2, OW G u3 o3]) hx hb hK hP hD hS 1 4 rfl rfl (by decide) (by unfold vp_in; decide) (by rw [k4_1]; rfl) dX1_dropOldest_27 (fun H locs hP hD hS => ?_)
  refine lv_iinc (v := 3) (lv' := [(2, .int 3), (1, .ref (u0 0)), (0, .ref (a 0))]) hx hb dX1_dropOldest_28 hl (k := 0) rfl (by decide) (by decide) rfl (fun ls hl => ?_)
  refine lv_goto (tgt := 9) hx hb dX1_dropOldest_31 (by decide) ?_
  refine lv_iload_n hx hb dX1_dropOldest_9 rfl (lv_at hl 0 rfl) ?_
  refine lv_iconst (v := 4) hx hb dX1_dropOldest_10 (by decide) ?_
  refine lv_icmp_ge (tgt := 34) hx hb dX1_dropOldest_11 (by decide) (fun c => absurd c (by decide)) (fun _ => ?_)
  refine lv_aload_n hx hb dX1_dropOldest_14 rfl (lv_at hl 2 rfl) ?_
  refine g_get (ci := 1) (v := .ref (a 1)) (C := RX1) (T := TX1) (N := 2) hx hb hts hinX1 hown hK hP 0 rfl rfl 1 (by decide) (hts (.fieldLink RX1 17 "ChargeStages$History" "kept" "[LChargeStages$State;") (List.mem_of_getElem? (i := 1) rfl)) rfl dX1_dropOldest_15 ?_
  refine lv_iload_n hx hb dX1_dropOldest_18 rfl (lv_at hl 0 rfl) ?_
  refine lv_iconst (v := 1) hx hb dX1_dropOldest_19 (by decide) ?_
  refine lv_isub hx hb dX1_dropOldest_20 ?_
  refine g_topE (y := 2) (by decide) ?_
  refine lv_aload_n hx hb dX1_dropOldest_21 rfl (lv_at hl 2 rfl) ?_
  refine g_get (ci := 1) (v := .ref (a 1)) (C := RX1) (T := TX1) (N := 2) hx hb hts hinX1 hown hK hP 0 rfl rfl 1 (by decide) (hts (.fieldLink RX1 17 "ChargeStages$History" "kept" "[LChargeStages$State;") (List.mem_of_getElem? (i := 1) rfl)) rfl dX1_dropOldest_22 ?_
  refine lv_iload_n hx hb dX1_dropOldest_25 rfl (lv_at hl 0 rfl) ?_
  refine g_aldq (n := 4) (v := (u3 0)) (k := 3) hx hb hK hP 1 rfl (by decide) (by unfold vp_in; decide) rfl dX1_dropOldest_26 ?_
  refine g_astq (n := 4) (k := 2) (B2 := [HW G a 4 (k4 (u1 0) (u2 0) (u3 0) (u3 0)), OW G u0 o0, OW G u1 o1, OW G u2 o2, OW G u3 o3]) hx hb hK hP hD hS 1 5 rfl rfl (by decide) (by unfold vp_in; decide) (by rw [k4_2]; rfl) dX1_dropOldest_27 (fun H locs hP hD hS => ?_)
  refine lv_iinc (v := 4) (lv' := [(2, .int 4), (1, .ref (u0 0)), (0, .ref (a 0))]) hx hb dX1_dropOldest_28 hl (k := 0) rfl (by decide) (by decide) rfl (fun ls hl => ?_)
  refine lv_goto (tgt := 9) hx hb dX1_dropOldest_31 (by decide) ?_
  refine lv_iload_n hx hb dX1_dropOldest_9 rfl (lv_at hl 0 rfl) ?_
  refine lv_iconst (v := 4) hx hb dX1_dropOldest_10 (by decide) ?_
  refine lv_icmp_ge (tgt := 34) hx hb dX1_dropOldest_11 (by decide) (fun _ => ?_) (fun c => absurd c (by decide))
  refine lv_aload_n hx hb dX1_dropOldest_34 rfl (lv_at hl 2 rfl) ?_
  refine g_get (ci := 1) (v := .ref (a 1)) (C := RX1) (T := TX1) (N := 2) hx hb hts hinX1 hown hK hP 0 rfl rfl 1 (by decide) (hts (.fieldLink RX1 17 "ChargeStages$History" "kept" "[LChargeStages$State;") (List.mem_of_getElem? (i := 1) rfl)) rfl dX1_dropOldest_35 ?_
  refine lv_iconst (v := 3) hx hb dX1_dropOldest_38 (by decide) ?_
  refine lv_aload_n hx hb dX1_dropOldest_39 rfl (lv_at hl 1 rfl) ?_
  refine g_astq (n := 4) (k := 3) (B2 := [HW G a 4 (k4 (u1 0) (u2 0) (u3 0) (u0 0)), OW G u0 o0, OW G u1 o1, OW G u2 o2, OW G u3 o3]) hx hb hK hP hD hS 1 2 rfl rfl (by decide) (by unfold vp_in; decide) (by rw [k4_3]; rfl) dX1_dropOldest_40 (fun H locs hP hD hS => ?_)
  refine lv_aload_n hx hb dX1_dropOldest_41 rfl (lv_at hl 2 rfl) ?_
  refine lv_dup hx hb dX1_dropOldest_42 rfl ?_
  refine g_get (ci := 1) (v := .int 4) (C := RX1) (T := TX1) (N := 2) hx hb hts hinX1 hown hK hP 0 rfl rfl 0 (by decide) (hts (.fieldLink RX1 9 "ChargeStages$History" "states" "I") (List.mem_of_getElem? (i := 2) rfl)) rfl dX1_dropOldest_43 ?_
  refine lv_iconst (v := 1) hx hb dX1_dropOldest_46 (by decide) ?_
  refine lv_isub hx hb dX1_dropOldest_47 ?_
  refine g_topE (y := 3) (by decide) ?_
  refine g_put (ci := 1) (v := .int 3) (ty := .int) (C := RX1) (T := TX1) (N := 2) (B2 := [HW G a 3 (k4 (u1 0) (u2 0) (u3 0) (u0 0)), OW G u0 o0, OW G u1 o1, OW G u2 o2, OW G u3 o3]) hx hb hts hinX1 tyX1 tyX1_ok nmX1 hown hK hP hD hS 0 rfl rfl 0 (by decide) (hts (.fieldLink RX1 9 "ChargeStages$History" "states" "I") (List.mem_of_getElem? (i := 2) rfl)) rfl (by decide +kernel) rfl rfl (Nat.le_of_ble_eq_true rfl) rfl dX1_dropOldest_48 (fun H locs hP hD hS => ?_)
  exact g_retv hx hb hr hlocks hS dX1_dropOldest_51 rfl hP
def ok_X1_add0 (o : (Nat → Int32)) : Prop := (ok_X4_copyFrom o) ∧ True
set_option maxHeartbeats 4000000 in
set_option maxRecDepth 100000 in
theorem c_X1_add0 (l : Launch) (G : gG) (a : Nat → Nat) (u0 : Nat → Nat) (u1 : Nat → Nat) (u2 : Nat → Nat) (u3 : Nat → Nat) (h : Nat → Nat) (o0 : (Nat → Int32)) (st0 : (Nat → Int32)) (b0 : (Nat → Nat → Int32)) (pf0 : (Nat → Nat → Int32)) (g0 : (Nat → Nat → Int32)) (o : (Nat → Int32)) (st : (Nat → Int32)) (b : (Nat → Nat → Int32)) (pf : (Nat → Nat → Int32)) (g : (Nat → Nat → Int32)) (hok : ok_X1_add0 o) : CT l G yX1_add wsX1_add 3 60 [.ref (a 0), .ref (h 0)] [HW G a 0 (k4 (u0 0) (u1 0) (u2 0) (u3 0)), OW G u0 o0, AW G (u0 1) 9 st0, BW G (fun k => u0 (k + 2)) b0, PW G (fun k => u0 (k + 10)) pf0, LW G (fun k => u0 (k + 15)) g0, OW G h o, AW G (h 1) 9 st, BW G (fun k => h (k + 2)) b, PW G (fun k => h (k + 10)) pf, LW G (fun k => h (k + 15)) g] none [HW G a 1 (k4 (u0 0) (u1 0) (u2 0) (u3 0)), OW G u0 o, AW G (u0 1) 9 st, BW G (fun k => u0 (k + 2)) b, PW G (fun k => u0 (k + 10)) pf, LW G (fun k => u0 (k + 15)) g, OW G h o, AW G (h 1) 9 st, BW G (fun k => h (k + 2)) b, PW G (fun k => h (k + 10)) pf, LW G (fun k => h (k + 15)) g] := by
  unfold ok_X1_add0 at hok
  refine CT.of (cc := cX1_add) (maxL := 2) (ret := none) (plainFor_of_name (by decide +kernel)) rfl rfl (Nat.le_of_ble_eq_true rfl) ?_
  intro p e s m below meth c A ls hx hb hml hr hts hown hlocks hK hP hD hA hS hl
  have hown : s.vm.findClass RX1 = some m.cls := hown
  have hl : lv_has ls 2 [(0, .ref (a 0)), (1, .ref (h 0))] := hl
  have hinX1 : ∀ w ∈ wsX10, w ∈ wsX1_add := fun w h => List.mem_cons_of_mem _ (List.mem_append_left _ (List.mem_append_left _ (List.mem_append_left _ (List.mem_append_left _ (List.mem_append_right _ h)))))
  refine lv_aload_n hx hb dX1_add_0 rfl (lv_at hl 0 rfl) ?_
  refine g_get (ci := 1) (v := .int 0) (C := RX1) (T := TX1) (N := 2) hx hb hts hinX1 hown hK hP 0 rfl rfl 0 (by decide) (hts (.fieldLink RX1 9 "ChargeStages$History" "states" "I") (List.mem_of_getElem? (i := 1) rfl)) rfl dX1_add_1 ?_
  refine lv_iconst (v := 4) hx hb dX1_add_4 (by decide) ?_
  refine lv_icmp_ne (tgt := 12) hx hb dX1_add_5 (by decide) (fun _ => ?_) (fun c => absurd c (by decide))
  refine lv_aload_n hx hb dX1_add_12 rfl (lv_at hl 0 rfl) ?_
  refine g_get (ci := 1) (v := .ref (a 1)) (C := RX1) (T := TX1) (N := 2) hx hb hts hinX1 hown hK hP 0 rfl rfl 1 (by decide) (hts (.fieldLink RX1 17 "ChargeStages$History" "kept" "[LChargeStages$State;") (List.mem_of_getElem? (i := 2) rfl)) rfl dX1_add_13 ?_
  refine lv_aload_n hx hb dX1_add_16 rfl (lv_at hl 0 rfl) ?_
  refine g_get (ci := 1) (v := .int 0) (C := RX1) (T := TX1) (N := 2) hx hb hts hinX1 hown hK hP 0 rfl rfl 0 (by decide) (hts (.fieldLink RX1 9 "ChargeStages$History" "states" "I") (List.mem_of_getElem? (i := 1) rfl)) rfl dX1_add_17 ?_
  refine g_aldq (n := 4) (v := (u0 0)) (k := 0) hx hb hK hP 1 rfl (by decide) (by unfold vp_in; decide) rfl dX1_add_20 ?_
  refine lv_aload_n hx hb dX1_add_21 rfl (lv_at hl 1 rfl) ?_
  obtain ⟨k1, hok⟩ := hok
  refine g_callV (c_X4_copyFrom l G u0 h o0 st0 b0 pf0 g0 o st b pf g k1) hx hb hml hown hts hK hP hD hS hA gX1_add_X4_copyFrom rfl (n := 1) (by decide +kernel) rfl ⟨Nat.le_of_ble_eq_true rfl, Nat.le_of_ble_eq_true rfl⟩ [1, 2, 3, 4, 5, 6, 7, 8, 9, 10] rfl (by decide) 2 rfl (ci := 4) rfl hl.1 rfl (Nat.le_of_ble_eq_true rfl) ⟨Nat.zero_le _, Nat.zero_le _⟩ dX1_add_22 (fun H locs hP hD hS => ?_)
  have hP : va_P G.1 vwCl (List.flatten [HW G a 0 (k4 (u0 0) (u1 0) (u2 0) (u3 0)), OW G u0 o, AW G (u0 1) 9 st, BW G (fun k => u0 (k + 2)) b, PW G (fun k => u0 (k + 10)) pf, LW G (fun k => u0 (k + 15)) g, OW G h o, AW G (h 1) 9 st, BW G (fun k => h (k + 2)) b, PW G (fun k => h (k + 10)) pf, LW G (fun k => h (k + 15)) g]) H := hP
  have hD : va_D A (List.flatten [HW G a 0 (k4 (u0 0) (u1 0) (u2 0) (u3 0)), OW G u0 o, AW G (u0 1) 9 st, BW G (fun k => u0 (k + 2)) b, PW G (fun k => u0 (k + 10)) pf, LW G (fun k => u0 (k + 15)) g, OW G h o, AW G (h 1) 9 st, BW G (fun k => h (k + 2)) b, PW G (fun k => h (k + 10)) pf, LW G (fun k => h (k + 15)) g]) := hD
  refine lv_aload_n hx hb dX1_add_25 rfl (lv_at hl 0 rfl) ?_
  refine lv_dup hx hb dX1_add_26 rfl ?_
  refine g_get (ci := 1) (v := .int 0) (C := RX1) (T := TX1) (N := 2) hx hb hts hinX1 hown hK hP 0 rfl rfl 0 (by decide) (hts (.fieldLink RX1 9 "ChargeStages$History" "states" "I") (List.mem_of_getElem? (i := 1) rfl)) rfl dX1_add_27 ?_
  refine lv_iconst (v := 1) hx hb dX1_add_30 (by decide) ?_
  refine lv_iadd hx hb dX1_add_31 ?_
  refine g_topE (y := 1) (by decide) ?_
  refine g_put (ci := 1) (v := .int 1) (ty := .int) (C := RX1) (T := TX1) (N := 2) (B2 := [HW G a 1 (k4 (u0 0) (u1 0) (u2 0) (u3 0)), OW G u0 o, AW G (u0 1) 9 st, BW G (fun k => u0 (k + 2)) b, PW G (fun k => u0 (k + 10)) pf, LW G (fun k => u0 (k + 15)) g, OW G h o, AW G (h 1) 9 st, BW G (fun k => h (k + 2)) b, PW G (fun k => h (k + 10)) pf, LW G (fun k => h (k + 15)) g]) hx hb hts hinX1 tyX1 tyX1_ok nmX1 hown hK hP hD hS 0 rfl rfl 0 (by decide) (hts (.fieldLink RX1 9 "ChargeStages$History" "states" "I") (List.mem_of_getElem? (i := 1) rfl)) rfl (by decide +kernel) rfl rfl (Nat.le_of_ble_eq_true rfl) rfl dX1_add_32 (fun H locs hP hD hS => ?_)
  exact g_retv hx hb hr hlocks hS dX1_add_35 rfl hP
def ok_X1_add1 (o : (Nat → Int32)) : Prop := (ok_X4_copyFrom o) ∧ True
set_option maxHeartbeats 4000000 in
set_option maxRecDepth 100000 in
theorem c_X1_add1 (l : Launch) (G : gG) (a : Nat → Nat) (u0 : Nat → Nat) (u1 : Nat → Nat) (u2 : Nat → Nat) (u3 : Nat → Nat) (h : Nat → Nat) (o1 : (Nat → Int32)) (st1 : (Nat → Int32)) (b1 : (Nat → Nat → Int32)) (pf1 : (Nat → Nat → Int32)) (g1 : (Nat → Nat → Int32)) (o : (Nat → Int32)) (st : (Nat → Int32)) (b : (Nat → Nat → Int32)) (pf : (Nat → Nat → Int32)) (g : (Nat → Nat → Int32)) (hok : ok_X1_add1 o) : CT l G yX1_add wsX1_add 3 60 [.ref (a 0), .ref (h 0)] [HW G a 1 (k4 (u0 0) (u1 0) (u2 0) (u3 0)), OW G u1 o1, AW G (u1 1) 9 st1, BW G (fun k => u1 (k + 2)) b1, PW G (fun k => u1 (k + 10)) pf1, LW G (fun k => u1 (k + 15)) g1, OW G h o, AW G (h 1) 9 st, BW G (fun k => h (k + 2)) b, PW G (fun k => h (k + 10)) pf, LW G (fun k => h (k + 15)) g] none [HW G a 2 (k4 (u0 0) (u1 0) (u2 0) (u3 0)), OW G u1 o, AW G (u1 1) 9 st, BW G (fun k => u1 (k + 2)) b, PW G (fun k => u1 (k + 10)) pf, LW G (fun k => u1 (k + 15)) g, OW G h o, AW G (h 1) 9 st, BW G (fun k => h (k + 2)) b, PW G (fun k => h (k + 10)) pf, LW G (fun k => h (k + 15)) g] := by
  unfold ok_X1_add1 at hok
  refine CT.of (cc := cX1_add) (maxL := 2) (ret := none) (plainFor_of_name (by decide +kernel)) rfl rfl (Nat.le_of_ble_eq_true rfl) ?_
  intro p e s m below meth c A ls hx hb hml hr hts hown hlocks hK hP hD hA hS hl
  have hown : s.vm.findClass RX1 = some m.cls := hown
  have hl : lv_has ls 2 [(0, .ref (a 0)), (1, .ref (h 0))] := hl
  have hinX1 : ∀ w ∈ wsX10, w ∈ wsX1_add := fun w h => List.mem_cons_of_mem _ (List.mem_append_left _ (List.mem_append_left _ (List.mem_append_left _ (List.mem_append_left _ (List.mem_append_right _ h)))))
  refine lv_aload_n hx hb dX1_add_0 rfl (lv_at hl 0 rfl) ?_
  refine g_get (ci := 1) (v := .int 1) (C := RX1) (T := TX1) (N := 2) hx hb hts hinX1 hown hK hP 0 rfl rfl 0 (by decide) (hts (.fieldLink RX1 9 "ChargeStages$History" "states" "I") (List.mem_of_getElem? (i := 1) rfl)) rfl dX1_add_1 ?_
  refine lv_iconst (v := 4) hx hb dX1_add_4 (by decide) ?_
  refine lv_icmp_ne (tgt := 12) hx hb dX1_add_5 (by decide) (fun _ => ?_) (fun c => absurd c (by decide))
  refine lv_aload_n hx hb dX1_add_12 rfl (lv_at hl 0 rfl) ?_
  refine g_get (ci := 1) (v := .ref (a 1)) (C := RX1) (T := TX1) (N := 2) hx hb hts hinX1 hown hK hP 0 rfl rfl 1 (by decide) (hts (.fieldLink RX1 17 "ChargeStages$History" "kept" "[LChargeStages$State;") (List.mem_of_getElem? (i := 2) rfl)) rfl dX1_add_13 ?_
  refine lv_aload_n hx hb dX1_add_16 rfl (lv_at hl 0 rfl) ?_
  refine g_get (ci := 1) (v := .int 1) (C := RX1) (T := TX1) (N := 2) hx hb hts hinX1 hown hK hP 0 rfl rfl 0 (by decide) (hts (.fieldLink RX1 9 "ChargeStages$History" "states" "I") (List.mem_of_getElem? (i := 1) rfl)) rfl dX1_add_17 ?_
  refine g_aldq (n := 4) (v := (u1 0)) (k := 1) hx hb hK hP 1 rfl (by decide) (by unfold vp_in; decide) rfl dX1_add_20 ?_
  refine lv_aload_n hx hb dX1_add_21 rfl (lv_at hl 1 rfl) ?_
  obtain ⟨k1, hok⟩ := hok
  refine g_callV (c_X4_copyFrom l G u1 h o1 st1 b1 pf1 g1 o st b pf g k1) hx hb hml hown hts hK hP hD hS hA gX1_add_X4_copyFrom rfl (n := 1) (by decide +kernel) rfl ⟨Nat.le_of_ble_eq_true rfl, Nat.le_of_ble_eq_true rfl⟩ [1, 2, 3, 4, 5, 6, 7, 8, 9, 10] rfl (by decide) 2 rfl (ci := 4) rfl hl.1 rfl (Nat.le_of_ble_eq_true rfl) ⟨Nat.zero_le _, Nat.zero_le _⟩ dX1_add_22 (fun H locs hP hD hS => ?_)
  have hP : va_P G.1 vwCl (List.flatten [HW G a 1 (k4 (u0 0) (u1 0) (u2 0) (u3 0)), OW G u1 o, AW G (u1 1) 9 st, BW G (fun k => u1 (k + 2)) b, PW G (fun k => u1 (k + 10)) pf, LW G (fun k => u1 (k + 15)) g, OW G h o, AW G (h 1) 9 st, BW G (fun k => h (k + 2)) b, PW G (fun k => h (k + 10)) pf, LW G (fun k => h (k + 15)) g]) H := hP
  have hD : va_D A (List.flatten [HW G a 1 (k4 (u0 0) (u1 0) (u2 0) (u3 0)), OW G u1 o, AW G (u1 1) 9 st, BW G (fun k => u1 (k + 2)) b, PW G (fun k => u1 (k + 10)) pf, LW G (fun k => u1 (k + 15)) g, OW G h o, AW G (h 1) 9 st, BW G (fun k => h (k + 2)) b, PW G (fun k => h (k + 10)) pf, LW G (fun k => h (k + 15)) g]) := hD
  refine lv_aload_n hx hb dX1_add_25 rfl (lv_at hl 0 rfl) ?_
  refine lv_dup hx hb dX1_add_26 rfl ?_
  refine g_get (ci := 1) (v := .int 1) (C := RX1) (T := TX1) (N := 2) hx hb hts hinX1 hown hK hP 0 rfl rfl 0 (by decide) (hts (.fieldLink RX1 9 "ChargeStages$History" "states" "I") (List.mem_of_getElem? (i := 1) rfl)) rfl dX1_add_27 ?_
  refine lv_iconst (v := 1) hx hb dX1_add_30 (by decide) ?_
  refine lv_iadd hx hb dX1_add_31 ?_
  refine g_topE (y := 2) (by decide) ?_
  refine g_put (ci := 1) (v := .int 2) (ty := .int) (C := RX1) (T := TX1) (N := 2) (B2 := [HW G a 2 (k4 (u0 0) (u1 0) (u2 0) (u3 0)), OW G u1 o, AW G (u1 1) 9 st, BW G (fun k => u1 (k + 2)) b, PW G (fun k => u1 (k + 10)) pf, LW G (fun k => u1 (k + 15)) g, OW G h o, AW G (h 1) 9 st, BW G (fun k => h (k + 2)) b, PW G (fun k => h (k + 10)) pf, LW G (fun k => h (k + 15)) g]) hx hb hts hinX1 tyX1 tyX1_ok nmX1 hown hK hP hD hS 0 rfl rfl 0 (by decide) (hts (.fieldLink RX1 9 "ChargeStages$History" "states" "I") (List.mem_of_getElem? (i := 1) rfl)) rfl (by decide +kernel) rfl rfl (Nat.le_of_ble_eq_true rfl) rfl dX1_add_32 (fun H locs hP hD hS => ?_)
  exact g_retv hx hb hr hlocks hS dX1_add_35 rfl hP
def ok_X1_add2 (o : (Nat → Int32)) : Prop := (ok_X4_copyFrom o) ∧ True
set_option maxHeartbeats 4000000 in
set_option maxRecDepth 100000 in
theorem c_X1_add2 (l : Launch) (G : gG) (a : Nat → Nat) (u0 : Nat → Nat) (u1 : Nat → Nat) (u2 : Nat → Nat) (u3 : Nat → Nat) (h : Nat → Nat) (o2 : (Nat → Int32)) (st2 : (Nat → Int32)) (b2 : (Nat → Nat → Int32)) (pf2 : (Nat → Nat → Int32)) (g2 : (Nat → Nat → Int32)) (o : (Nat → Int32)) (st : (Nat → Int32)) (b : (Nat → Nat → Int32)) (pf : (Nat → Nat → Int32)) (g : (Nat → Nat → Int32)) (hok : ok_X1_add2 o) : CT l G yX1_add wsX1_add 3 60 [.ref (a 0), .ref (h 0)] [HW G a 2 (k4 (u0 0) (u1 0) (u2 0) (u3 0)), OW G u2 o2, AW G (u2 1) 9 st2, BW G (fun k => u2 (k + 2)) b2, PW G (fun k => u2 (k + 10)) pf2, LW G (fun k => u2 (k + 15)) g2, OW G h o, AW G (h 1) 9 st, BW G (fun k => h (k + 2)) b, PW G (fun k => h (k + 10)) pf, LW G (fun k => h (k + 15)) g] none [HW G a 3 (k4 (u0 0) (u1 0) (u2 0) (u3 0)), OW G u2 o, AW G (u2 1) 9 st, BW G (fun k => u2 (k + 2)) b, PW G (fun k => u2 (k + 10)) pf, LW G (fun k => u2 (k + 15)) g, OW G h o, AW G (h 1) 9 st, BW G (fun k => h (k + 2)) b, PW G (fun k => h (k + 10)) pf, LW G (fun k => h (k + 15)) g] := by
  unfold ok_X1_add2 at hok
  refine CT.of (cc := cX1_add) (maxL := 2) (ret := none) (plainFor_of_name (by decide +kernel)) rfl rfl (Nat.le_of_ble_eq_true rfl) ?_
  intro p e s m below meth c A ls hx hb hml hr hts hown hlocks hK hP hD hA hS hl
  have hown : s.vm.findClass RX1 = some m.cls := hown
  have hl : lv_has ls 2 [(0, .ref (a 0)), (1, .ref (h 0))] := hl
  have hinX1 : ∀ w ∈ wsX10, w ∈ wsX1_add := fun w h => List.mem_cons_of_mem _ (List.mem_append_left _ (List.mem_append_left _ (List.mem_append_left _ (List.mem_append_left _ (List.mem_append_right _ h)))))
  refine lv_aload_n hx hb dX1_add_0 rfl (lv_at hl 0 rfl) ?_
  refine g_get (ci := 1) (v := .int 2) (C := RX1) (T := TX1) (N := 2) hx hb hts hinX1 hown hK hP 0 rfl rfl 0 (by decide) (hts (.fieldLink RX1 9 "ChargeStages$History" "states" "I") (List.mem_of_getElem? (i := 1) rfl)) rfl dX1_add_1 ?_
  refine lv_iconst (v := 4) hx hb dX1_add_4 (by decide) ?_
  refine lv_icmp_ne (tgt := 12) hx hb dX1_add_5 (by decide) (fun _ => ?_) (fun c => absurd c (by decide))
  refine lv_aload_n hx hb dX1_add_12 rfl (lv_at hl 0 rfl) ?_
  refine g_get (ci := 1) (v := .ref (a 1)) (C := RX1) (T := TX1) (N := 2) hx hb hts hinX1 hown hK hP 0 rfl rfl 1 (by decide) (hts (.fieldLink RX1 17 "ChargeStages$History" "kept" "[LChargeStages$State;") (List.mem_of_getElem? (i := 2) rfl)) rfl dX1_add_13 ?_
  refine lv_aload_n hx hb dX1_add_16 rfl (lv_at hl 0 rfl) ?_
  refine g_get (ci := 1) (v := .int 2) (C := RX1) (T := TX1) (N := 2) hx hb hts hinX1 hown hK hP 0 rfl rfl 0 (by decide) (hts (.fieldLink RX1 9 "ChargeStages$History" "states" "I") (List.mem_of_getElem? (i := 1) rfl)) rfl dX1_add_17 ?_
  refine g_aldq (n := 4) (v := (u2 0)) (k := 2) hx hb hK hP 1 rfl (by decide) (by unfold vp_in; decide) rfl dX1_add_20 ?_
  refine lv_aload_n hx hb dX1_add_21 rfl (lv_at hl 1 rfl) ?_
  obtain ⟨k1, hok⟩ := hok
  refine g_callV (c_X4_copyFrom l G u2 h o2 st2 b2 pf2 g2 o st b pf g k1) hx hb hml hown hts hK hP hD hS hA gX1_add_X4_copyFrom rfl (n := 1) (by decide +kernel) rfl ⟨Nat.le_of_ble_eq_true rfl, Nat.le_of_ble_eq_true rfl⟩ [1, 2, 3, 4, 5, 6, 7, 8, 9, 10] rfl (by decide) 2 rfl (ci := 4) rfl hl.1 rfl (Nat.le_of_ble_eq_true rfl) ⟨Nat.zero_le _, Nat.zero_le _⟩ dX1_add_22 (fun H locs hP hD hS => ?_)
  have hP : va_P G.1 vwCl (List.flatten [HW G a 2 (k4 (u0 0) (u1 0) (u2 0) (u3 0)), OW G u2 o, AW G (u2 1) 9 st, BW G (fun k => u2 (k + 2)) b, PW G (fun k => u2 (k + 10)) pf, LW G (fun k => u2 (k + 15)) g, OW G h o, AW G (h 1) 9 st, BW G (fun k => h (k + 2)) b, PW G (fun k => h (k + 10)) pf, LW G (fun k => h (k + 15)) g]) H := hP
  have hD : va_D A (List.flatten [HW G a 2 (k4 (u0 0) (u1 0) (u2 0) (u3 0)), OW G u2 o, AW G (u2 1) 9 st, BW G (fun k => u2 (k + 2)) b, PW G (fun k => u2 (k + 10)) pf, LW G (fun k => u2 (k + 15)) g, OW G h o, AW G (h 1) 9 st, BW G (fun k => h (k + 2)) b, PW G (fun k => h (k + 10)) pf, LW G (fun k => h (k + 15)) g]) := hD
  refine lv_aload_n hx hb dX1_add_25 rfl (lv_at hl 0 rfl) ?_
  refine lv_dup hx hb dX1_add_26 rfl ?_
  refine g_get (ci := 1) (v := .int 2) (C := RX1) (T := TX1) (N := 2) hx hb hts hinX1 hown hK hP 0 rfl rfl 0 (by decide) (hts (.fieldLink RX1 9 "ChargeStages$History" "states" "I") (List.mem_of_getElem? (i := 1) rfl)) rfl dX1_add_27 ?_
  refine lv_iconst (v := 1) hx hb dX1_add_30 (by decide) ?_
  refine lv_iadd hx hb dX1_add_31 ?_
  refine g_topE (y := 3) (by decide) ?_
  refine g_put (ci := 1) (v := .int 3) (ty := .int) (C := RX1) (T := TX1) (N := 2) (B2 := [HW G a 3 (k4 (u0 0) (u1 0) (u2 0) (u3 0)), OW G u2 o, AW G (u2 1) 9 st, BW G (fun k => u2 (k + 2)) b, PW G (fun k => u2 (k + 10)) pf, LW G (fun k => u2 (k + 15)) g, OW G h o, AW G (h 1) 9 st, BW G (fun k => h (k + 2)) b, PW G (fun k => h (k + 10)) pf, LW G (fun k => h (k + 15)) g]) hx hb hts hinX1 tyX1 tyX1_ok nmX1 hown hK hP hD hS 0 rfl rfl 0 (by decide) (hts (.fieldLink RX1 9 "ChargeStages$History" "states" "I") (List.mem_of_getElem? (i := 1) rfl)) rfl (by decide +kernel) rfl rfl (Nat.le_of_ble_eq_true rfl) rfl dX1_add_32 (fun H locs hP hD hS => ?_)
  exact g_retv hx hb hr hlocks hS dX1_add_35 rfl hP
def ok_X1_add3 (o : (Nat → Int32)) : Prop := (ok_X4_copyFrom o) ∧ True
set_option maxHeartbeats 4000000 in
set_option maxRecDepth 100000 in
theorem c_X1_add3 (l : Launch) (G : gG) (a : Nat → Nat) (u0 : Nat → Nat) (u1 : Nat → Nat) (u2 : Nat → Nat) (u3 : Nat → Nat) (h : Nat → Nat) (o3 : (Nat → Int32)) (st3 : (Nat → Int32)) (b3 : (Nat → Nat → Int32)) (pf3 : (Nat → Nat → Int32)) (g3 : (Nat → Nat → Int32)) (o : (Nat → Int32)) (st : (Nat → Int32)) (b : (Nat → Nat → Int32)) (pf : (Nat → Nat → Int32)) (g : (Nat → Nat → Int32)) (hok : ok_X1_add3 o) : CT l G yX1_add wsX1_add 3 60 [.ref (a 0), .ref (h 0)] [HW G a 3 (k4 (u0 0) (u1 0) (u2 0) (u3 0)), OW G u3 o3, AW G (u3 1) 9 st3, BW G (fun k => u3 (k + 2)) b3, PW G (fun k => u3 (k + 10)) pf3, LW G (fun k => u3 (k + 15)) g3, OW G h o, AW G (h 1) 9 st, BW G (fun k => h (k + 2)) b, PW G (fun k => h (k + 10)) pf, LW G (fun k => h (k + 15)) g] none [HW G a 4 (k4 (u0 0) (u1 0) (u2 0) (u3 0)), OW G u3 o, AW G (u3 1) 9 st, BW G (fun k => u3 (k + 2)) b, PW G (fun k => u3 (k + 10)) pf, LW G (fun k => u3 (k + 15)) g, OW G h o, AW G (h 1) 9 st, BW G (fun k => h (k + 2)) b, PW G (fun k => h (k + 10)) pf, LW G (fun k => h (k + 15)) g] := by
  unfold ok_X1_add3 at hok
  refine CT.of (cc := cX1_add) (maxL := 2) (ret := none) (plainFor_of_name (by decide +kernel)) rfl rfl (Nat.le_of_ble_eq_true rfl) ?_
  intro p e s m below meth c A ls hx hb hml hr hts hown hlocks hK hP hD hA hS hl
  have hown : s.vm.findClass RX1 = some m.cls := hown
  have hl : lv_has ls 2 [(0, .ref (a 0)), (1, .ref (h 0))] := hl
  have hinX1 : ∀ w ∈ wsX10, w ∈ wsX1_add := fun w h => List.mem_cons_of_mem _ (List.mem_append_left _ (List.mem_append_left _ (List.mem_append_left _ (List.mem_append_left _ (List.mem_append_right _ h)))))
  refine lv_aload_n hx hb dX1_add_0 rfl (lv_at hl 0 rfl) ?_
  refine g_get (ci := 1) (v := .int 3) (C := RX1) (T := TX1) (N := 2) hx hb hts hinX1 hown hK hP 0 rfl rfl 0 (by decide) (hts (.fieldLink RX1 9 "ChargeStages$History" "states" "I") (List.mem_of_getElem? (i := 1) rfl)) rfl dX1_add_1 ?_
  refine lv_iconst (v := 4) hx hb dX1_add_4 (by decide) ?_
  refine lv_icmp_ne (tgt := 12) hx hb dX1_add_5 (by decide) (fun _ => ?_) (fun c => absurd c (by decide))
  refine lv_aload_n hx hb dX1_add_12 rfl (lv_at hl 0 rfl) ?_
  refine g_get (ci := 1) (v := .ref (a 1)) (C := RX1) (T := TX1) (N := 2) hx hb hts hinX1 hown hK hP 0 rfl rfl 1 (by decide) (hts (.fieldLink RX1 17 "ChargeStages$History" "kept" "[LChargeStages$State;") (List.mem_of_getElem? (i := 2) rfl)) rfl dX1_add_13 ?_
  refine lv_aload_n hx hb dX1_add_16 rfl (lv_at hl 0 rfl) ?_
  refine g_get (ci := 1) (v := .int 3) (C := RX1) (T := TX1) (N := 2) hx hb hts hinX1 hown hK hP 0 rfl rfl 0 (by decide) (hts (.fieldLink RX1 9 "ChargeStages$History" "states" "I") (List.mem_of_getElem? (i := 1) rfl)) rfl dX1_add_17 ?_
  refine g_aldq (n := 4) (v := (u3 0)) (k := 3) hx hb hK hP 1 rfl (by decide) (by unfold vp_in; decide) rfl dX1_add_20 ?_
  refine lv_aload_n hx hb dX1_add_21 rfl (lv_at hl 1 rfl) ?_
  obtain ⟨k1, hok⟩ := hok
  refine g_callV (c_X4_copyFrom l G u3 h o3 st3 b3 pf3 g3 o st b pf g k1) hx hb hml hown hts hK hP hD hS hA gX1_add_X4_copyFrom rfl (n := 1) (by decide +kernel) rfl ⟨Nat.le_of_ble_eq_true rfl, Nat.le_of_ble_eq_true rfl⟩ [1, 2, 3, 4, 5, 6, 7, 8, 9, 10] rfl (by decide) 2 rfl (ci := 4) rfl hl.1 rfl (Nat.le_of_ble_eq_true rfl) ⟨Nat.zero_le _, Nat.zero_le _⟩ dX1_add_22 (fun H locs hP hD hS => ?_)
  have hP : va_P G.1 vwCl (List.flatten [HW G a 3 (k4 (u0 0) (u1 0) (u2 0) (u3 0)), OW G u3 o, AW G (u3 1) 9 st, BW G (fun k => u3 (k + 2)) b, PW G (fun k => u3 (k + 10)) pf, LW G (fun k => u3 (k + 15)) g, OW G h o, AW G (h 1) 9 st, BW G (fun k => h (k + 2)) b, PW G (fun k => h (k + 10)) pf, LW G (fun k => h (k + 15)) g]) H := hP
  have hD : va_D A (List.flatten [HW G a 3 (k4 (u0 0) (u1 0) (u2 0) (u3 0)), OW G u3 o, AW G (u3 1) 9 st, BW G (fun k => u3 (k + 2)) b, PW G (fun k => u3 (k + 10)) pf, LW G (fun k => u3 (k + 15)) g, OW G h o, AW G (h 1) 9 st, BW G (fun k => h (k + 2)) b, PW G (fun k => h (k + 10)) pf, LW G (fun k => h (k + 15)) g]) := hD
  refine lv_aload_n hx hb dX1_add_25 rfl (lv_at hl 0 rfl) ?_
  refine lv_dup hx hb dX1_add_26 rfl ?_
  refine g_get (ci := 1) (v := .int 3) (C := RX1) (T := TX1) (N := 2) hx hb hts hinX1 hown hK hP 0 rfl rfl 0 (by decide) (hts (.fieldLink RX1 9 "ChargeStages$History" "states" "I") (List.mem_of_getElem? (i := 1) rfl)) rfl dX1_add_27 ?_
  refine lv_iconst (v := 1) hx hb dX1_add_30 (by decide) ?_
  refine lv_iadd hx hb dX1_add_31 ?_
  refine g_topE (y := 4) (by decide) ?_
  refine g_put (ci := 1) (v := .int 4) (ty := .int) (C := RX1) (T := TX1) (N := 2) (B2 := [HW G a 4 (k4 (u0 0) (u1 0) (u2 0) (u3 0)), OW G u3 o, AW G (u3 1) 9 st, BW G (fun k => u3 (k + 2)) b, PW G (fun k => u3 (k + 10)) pf, LW G (fun k => u3 (k + 15)) g, OW G h o, AW G (h 1) 9 st, BW G (fun k => h (k + 2)) b, PW G (fun k => h (k + 10)) pf, LW G (fun k => h (k + 15)) g]) hx hb hts hinX1 tyX1 tyX1_ok nmX1 hown hK hP hD hS 0 rfl rfl 0 (by decide) (hts (.fieldLink RX1 9 "ChargeStages$History" "states" "I") (List.mem_of_getElem? (i := 1) rfl)) rfl (by decide +kernel) rfl rfl (Nat.le_of_ble_eq_true rfl) rfl dX1_add_32 (fun H locs hP hD hS => ?_)
  exact g_retv hx hb hr hlocks hS dX1_add_35 rfl hP
def ok_X1_add4 (o : (Nat → Int32)) : Prop := (ok_X4_copyFrom o) ∧ True
set_option maxHeartbeats 4000000 in
set_option maxRecDepth 100000 in
theorem c_X1_add4 (l : Launch) (G : gG) (a : Nat → Nat) (u0 : Nat → Nat) (u1 : Nat → Nat) (u2 : Nat → Nat) (u3 : Nat → Nat) (h : Nat → Nat) (o0 : (Nat → Int32)) (st0 : (Nat → Int32)) (b0 : (Nat → Nat → Int32)) (pf0 : (Nat → Nat → Int32)) (g0 : (Nat → Nat → Int32)) (o1 : (Nat → Int32)) (o2 : (Nat → Int32)) (o3 : (Nat → Int32)) (o : (Nat → Int32)) (st : (Nat → Int32)) (b : (Nat → Nat → Int32)) (pf : (Nat → Nat → Int32)) (g : (Nat → Nat → Int32)) (hok : ok_X1_add4 o) : CT l G yX1_add wsX1_add 3 60 [.ref (a 0), .ref (h 0)] [HW G a 4 (k4 (u0 0) (u1 0) (u2 0) (u3 0)), OW G u0 o0, AW G (u0 1) 9 st0, BW G (fun k => u0 (k + 2)) b0, PW G (fun k => u0 (k + 10)) pf0, LW G (fun k => u0 (k + 15)) g0, OW G u1 o1, OW G u2 o2, OW G u3 o3, OW G h o, AW G (h 1) 9 st, BW G (fun k => h (k + 2)) b, PW G (fun k => h (k + 10)) pf, LW G (fun k => h (k + 15)) g] none [HW G a 4 (k4 (u1 0) (u2 0) (u3 0) (u0 0)), OW G u0 o, AW G (u0 1) 9 st, BW G (fun k => u0 (k + 2)) b, PW G (fun k => u0 (k + 10)) pf, LW G (fun k => u0 (k + 15)) g, OW G u1 o1, OW G u2 o2, OW G u3 o3, OW G h o, AW G (h 1) 9 st, BW G (fun k => h (k + 2)) b, PW G (fun k => h (k + 10)) pf, LW G (fun k => h (k + 15)) g] := by
  unfold ok_X1_add4 at hok
  refine CT.of (cc := cX1_add) (maxL := 2) (ret := none) (plainFor_of_name (by decide +kernel)) rfl rfl (Nat.le_of_ble_eq_true rfl) ?_
  intro p e s m below meth c A ls hx hb hml hr hts hown hlocks hK hP hD hA hS hl
  have hown : s.vm.findClass RX1 = some m.cls := hown
  have hl : lv_has ls 2 [(0, .ref (a 0)), (1, .ref (h 0))] := hl
  have hinX1 : ∀ w ∈ wsX10, w ∈ wsX1_add := fun w h => List.mem_cons_of_mem _ (List.mem_append_left _ (List.mem_append_left _ (List.mem_append_left _ (List.mem_append_left _ (List.mem_append_right _ h)))))
  refine lv_aload_n hx hb dX1_add_0 rfl (lv_at hl 0 rfl) ?_
  refine g_get (ci := 1) (v := .int 4) (C := RX1) (T := TX1) (N := 2) hx hb hts hinX1 hown hK hP 0 rfl rfl 0 (by decide) (hts (.fieldLink RX1 9 "ChargeStages$History" "states" "I") (List.mem_of_getElem? (i := 1) rfl)) rfl dX1_add_1 ?_
  refine lv_iconst (v := 4) hx hb dX1_add_4 (by decide) ?_
  refine lv_icmp_ne (tgt := 12) hx hb dX1_add_5 (by decide) (fun c => absurd c (by decide)) (fun _ => ?_)
  refine lv_aload_n hx hb dX1_add_8 rfl (lv_at hl 0 rfl) ?_
  refine g_callV (c_X1_dropOldest l G a u0 u1 u2 u3 o0 o1 o2 o3) hx hb hml hown hts hK hP hD hS hA gX1_add_X1_dropOldest rfl (n := 0) (by decide +kernel) rfl ⟨Nat.le_of_ble_eq_true rfl, Nat.le_of_ble_eq_true rfl⟩ [0, 1, 6, 7, 8] rfl (by decide) 0 rfl (ci := 1) rfl hl.1 rfl (Nat.le_of_ble_eq_true rfl) ⟨Nat.zero_le _, Nat.zero_le _⟩ dX1_add_9 (fun H locs hP hD hS => ?_)
  have hP : va_P G.1 vwCl (List.flatten [HW G a 3 (k4 (u1 0) (u2 0) (u3 0) (u0 0)), OW G u0 o0, AW G (u0 1) 9 st0, BW G (fun k => u0 (k + 2)) b0, PW G (fun k => u0 (k + 10)) pf0, LW G (fun k => u0 (k + 15)) g0, OW G u1 o1, OW G u2 o2, OW G u3 o3, OW G h o, AW G (h 1) 9 st, BW G (fun k => h (k + 2)) b, PW G (fun k => h (k + 10)) pf, LW G (fun k => h (k + 15)) g]) H := hP
  have hD : va_D A (List.flatten [HW G a 3 (k4 (u1 0) (u2 0) (u3 0) (u0 0)), OW G u0 o0, AW G (u0 1) 9 st0, BW G (fun k => u0 (k + 2)) b0, PW G (fun k => u0 (k + 10)) pf0, LW G (fun k => u0 (k + 15)) g0, OW G u1 o1, OW G u2 o2, OW G u3 o3, OW G h o, AW G (h 1) 9 st, BW G (fun k => h (k + 2)) b, PW G (fun k => h (k + 10)) pf, LW G (fun k => h (k + 15)) g]) := hD
  refine lv_aload_n hx hb dX1_add_12 rfl (lv_at hl 0 rfl) ?_
  refine g_get (ci := 1) (v := .ref (a 1)) (C := RX1) (T := TX1) (N := 2) hx hb hts hinX1 hown hK hP 0 rfl rfl 1 (by decide) (hts (.fieldLink RX1 17 "ChargeStages$History" "kept" "[LChargeStages$State;") (List.mem_of_getElem? (i := 2) rfl)) rfl dX1_add_13 ?_
  refine lv_aload_n hx hb dX1_add_16 rfl (lv_at hl 0 rfl) ?_
  refine g_get (ci := 1) (v := .int 3) (C := RX1) (T := TX1) (N := 2) hx hb hts hinX1 hown hK hP 0 rfl rfl 0 (by decide) (hts (.fieldLink RX1 9 "ChargeStages$History" "states" "I") (List.mem_of_getElem? (i := 1) rfl)) rfl dX1_add_17 ?_
  refine g_aldq (n := 4) (v := (u0 0)) (k := 3) hx hb hK hP 1 rfl (by decide) (by unfold vp_in; decide) rfl dX1_add_20 ?_
  refine lv_aload_n hx hb dX1_add_21 rfl (lv_at hl 1 rfl) ?_
  obtain ⟨k2, hok⟩ := hok
  refine g_callV (c_X4_copyFrom l G u0 h o0 st0 b0 pf0 g0 o st b pf g k2) hx hb hml hown hts hK hP hD hS hA gX1_add_X4_copyFrom rfl (n := 1) (by decide +kernel) rfl ⟨Nat.le_of_ble_eq_true rfl, Nat.le_of_ble_eq_true rfl⟩ [1, 2, 3, 4, 5, 9, 10, 11, 12, 13] rfl (by decide) 2 rfl (ci := 4) rfl hl.1 rfl (Nat.le_of_ble_eq_true rfl) ⟨Nat.zero_le _, Nat.zero_le _⟩ dX1_add_22 (fun H locs hP hD hS => ?_)
  have hP : va_P G.1 vwCl (List.flatten [HW G a 3 (k4 (u1 0) (u2 0) (u3 0) (u0 0)), OW G u0 o, AW G (u0 1) 9 st, BW G (fun k => u0 (k + 2)) b, PW G (fun k => u0 (k + 10)) pf, LW G (fun k => u0 (k + 15)) g, OW G u1 o1, OW G u2 o2, OW G u3 o3, OW G h o, AW G (h 1) 9 st, BW G (fun k => h (k + 2)) b, PW G (fun k => h (k + 10)) pf, LW G (fun k => h (k + 15)) g]) H := hP
  have hD : va_D A (List.flatten [HW G a 3 (k4 (u1 0) (u2 0) (u3 0) (u0 0)), OW G u0 o, AW G (u0 1) 9 st, BW G (fun k => u0 (k + 2)) b, PW G (fun k => u0 (k + 10)) pf, LW G (fun k => u0 (k + 15)) g, OW G u1 o1, OW G u2 o2, OW G u3 o3, OW G h o, AW G (h 1) 9 st, BW G (fun k => h (k + 2)) b, PW G (fun k => h (k + 10)) pf, LW G (fun k => h (k + 15)) g]) := hD
  refine lv_aload_n hx hb dX1_add_25 rfl (lv_at hl 0 rfl) ?_
  refine lv_dup hx hb dX1_add_26 rfl ?_
  refine g_get (ci := 1) (v := .int 3) (C := RX1) (T := TX1) (N := 2) hx hb hts hinX1 hown hK hP 0 rfl rfl 0 (by decide) (hts (.fieldLink RX1 9 "ChargeStages$History" "states" "I") (List.mem_of_getElem? (i := 1) rfl)) rfl dX1_add_27 ?_
  refine lv_iconst (v := 1) hx hb dX1_add_30 (by decide) ?_
  refine lv_iadd hx hb dX1_add_31 ?_
  refine g_topE (y := 4) (by decide) ?_
  refine g_put (ci := 1) (v := .int 4) (ty := .int) (C := RX1) (T := TX1) (N := 2) (B2 := [HW G a 4 (k4 (u1 0) (u2 0) (u3 0) (u0 0)), OW G u0 o, AW G (u0 1) 9 st, BW G (fun k => u0 (k + 2)) b, PW G (fun k => u0 (k + 10)) pf, LW G (fun k => u0 (k + 15)) g, OW G u1 o1, OW G u2 o2, OW G u3 o3, OW G h o, AW G (h 1) 9 st, BW G (fun k => h (k + 2)) b, PW G (fun k => h (k + 10)) pf, LW G (fun k => h (k + 15)) g]) hx hb hts hinX1 tyX1 tyX1_ok nmX1 hown hK hP hD hS 0 rfl rfl 0 (by decide) (hts (.fieldLink RX1 9 "ChargeStages$History" "states" "I") (List.mem_of_getElem? (i := 1) rfl)) rfl (by decide +kernel) rfl rfl (Nat.le_of_ble_eq_true rfl) rfl dX1_add_32 (fun H locs hP hD hS => ?_)
  exact g_retv hx hb hr hlocks hS dX1_add_35 rfl hP
def ok_X1_takeInto1 (o0 : (Nat → Int32)) : Prop := (ok_X4_copyFrom o0) ∧ True
set_option maxHeartbeats 4000000 in
set_option maxRecDepth 100000 in
theorem c_X1_takeInto1 (l : Launch) (G : gG) (a : Nat → Nat) (u0 : Nat → Nat) (u1 : Nat → Nat) (u2 : Nat → Nat) (u3 : Nat → Nat) (h : Nat → Nat) (o0 : (Nat → Int32)) (st0 : (Nat → Int32)) (b0 : (Nat → Nat → Int32)) (pf0 : (Nat → Nat → Int32)) (g0 : (Nat → Nat → Int32)) (o : (Nat → Int32)) (st : (Nat → Int32)) (b : (Nat → Nat → Int32)) (pf : (Nat → Nat → Int32)) (g : (Nat → Nat → Int32)) (hok : ok_X1_takeInto1 o0) : CT l G yX1_takeInto wsX1_takeInto 3 60 [.ref (a 0), .ref (h 0)] [HW G a 1 (k4 (u0 0) (u1 0) (u2 0) (u3 0)), OW G u0 o0, AW G (u0 1) 9 st0, BW G (fun k => u0 (k + 2)) b0, PW G (fun k => u0 (k + 10)) pf0, LW G (fun k => u0 (k + 15)) g0, OW G h o, AW G (h 1) 9 st, BW G (fun k => h (k + 2)) b, PW G (fun k => h (k + 10)) pf, LW G (fun k => h (k + 15)) g] none [HW G a 0 (k4 (u0 0) (u1 0) (u2 0) (u3 0)), OW G u0 o0, AW G (u0 1) 9 st0, BW G (fun k => u0 (k + 2)) b0, PW G (fun k => u0 (k + 10)) pf0, LW G (fun k => u0 (k + 15)) g0, OW G h o0, AW G (h 1) 9 st0, BW G (fun k => h (k + 2)) b0, PW G (fun k => h (k + 10)) pf0, LW G (fun k => h (k + 15)) g0] := by
  unfold ok_X1_takeInto1 at hok
  refine CT.of (cc := cX1_takeInto) (maxL := 2) (ret := none) (plainFor_of_name (by decide +kernel)) rfl rfl (Nat.le_of_ble_eq_true rfl) ?_
  intro p e s m below meth c A ls hx hb hml hr hts hown hlocks hK hP hD hA hS hl
  have hown : s.vm.findClass RX1 = some m.cls := hown
  have hl : lv_has ls 2 [(0, .ref (a 0)), (1, .ref (h 0))] := hl
  have hinX1 : ∀ w ∈ wsX10, w ∈ wsX1_takeInto := fun w h => List.mem_cons_of_mem _ (List.mem_append_left _ (List.mem_append_left _ (List.mem_append_left _ (List.mem_append_left _ (List.mem_append_right _ h)))))
  refine lv_aload_n hx hb dX1_takeInto_0 rfl (lv_at hl 0 rfl) ?_
  refine g_get (ci := 1) (v := .int 1) (C := RX1) (T := TX1) (N := 2) hx hb hts hinX1 hown hK hP 0 rfl rfl 0 (by decide) (hts (.fieldLink RX1 9 "ChargeStages$History" "states" "I") (List.mem_of_getElem? (i := 1) rfl)) rfl dX1_takeInto_1 ?_
  refine lv_if_le (tgt := 30) hx hb dX1_takeInto_4 (by decide) (fun c => absurd c (by decide)) (fun _ => ?_)
  refine lv_aload_n hx hb dX1_takeInto_7 rfl (lv_at hl 0 rfl) ?_
  refine lv_dup hx hb dX1_takeInto_8 rfl ?_
  refine g_get (ci := 1) (v := .int 1) (C := RX1) (T := TX1) (N := 2) hx hb hts hinX1 hown hK hP 0 rfl rfl 0 (by decide) (hts (.fieldLink RX1 9 "ChargeStages$History" "states" "I") (List.mem_of_getElem? (i := 1) rfl)) rfl dX1_takeInto_9 ?_
  refine lv_iconst (v := 1) hx hb dX1_takeInto_12 (by decide) ?_
  refine lv_isub hx hb dX1_takeInto_13 ?_
  refine g_topE (y := 0) (by decide) ?_
  refine g_put (ci := 1) (v := .int 0) (ty := .int) (C := RX1) (T := TX1) (N := 2) (B2 := [HW G a 0 (k4 (u0 0) (u1 0) (u2 0) (u3 0)), OW G u0 o0, AW G (u0 1) 9 st0, BW G (fun k => u0 (k + 2)) b0, PW G (fun k => u0 (k + 10)) pf0, LW G (fun k => u0 (k + 15)) g0, OW G h o, AW G (h 1) 9 st, BW G (fun k => h (k + 2)) b, PW G (fun k => h (k + 10)) pf, LW G (fun k => h (k + 15)) g]) hx hb hts hinX1 tyX1 tyX1_ok nmX1 hown hK hP hD hS 0 rfl rfl 0 (by decide) (hts (.fieldLink RX1 9 "ChargeStages$History" "states" "I") (List.mem_of_getElem? (i := 1) rfl)) rfl (by decide +kernel) rfl rfl (Nat.le_of_ble_eq_true rfl) rfl dX1_takeInto_14 (fun H locs hP hD hS => ?_)
  refine lv_aload_n hx hb dX1_takeInto_17 rfl (lv_at hl 1 rfl) ?_
  refine lv_aload_n hx hb dX1_takeInto_18 rfl (lv_at hl 0 rfl) ?_
  refine g_get (ci := 1) (v := .ref (a 1)) (C := RX1) (T := TX1) (N := 2) hx hb hts hinX1 hown hK hP 0 rfl rfl 1 (by decide) (hts (.fieldLink RX1 17 "ChargeStages$History" "kept" "[LChargeStages$State;") (List.mem_of_getElem? (i := 2) rfl)) rfl dX1_takeInto_19 ?_
  refine lv_aload_n hx hb dX1_takeInto_22 rfl (lv_at hl 0 rfl) ?_
  refine g_get (ci := 1) (v := .int 0) (C := RX1) (T := TX1) (N := 2) hx hb hts hinX1 hown hK hP 0 rfl rfl 0 (by decide) (hts (.fieldLink RX1 9 "ChargeStages$History" "states" "I") (List.mem_of_getElem? (i := 1) rfl)) rfl dX1_takeInto_23 ?_
  refine g_aldq (n := 4) (v := (u0 0)) (k := 0) hx hb hK hP 1 rfl (by decide) (by unfold vp_in; decide) rfl dX1_takeInto_26 ?_
  obtain ⟨k1, hok⟩ := hok
  refine g_callV (c_X4_copyFrom l G h u0 o st b pf g o0 st0 b0 pf0 g0 k1) hx hb hml hown hts hK hP hD hS hA gX1_takeInto_X4_copyFrom rfl (n := 1) (by decide +kernel) rfl ⟨Nat.le_of_ble_eq_true rfl, Nat.le_of_ble_eq_true rfl⟩ [6, 7, 8, 9, 10, 1, 2, 3, 4, 5] rfl (by decide) 21 rfl (ci := 4) rfl hl.1 rfl (Nat.le_of_ble_eq_true rfl) ⟨Nat.zero_le _, Nat.zero_le _⟩ dX1_takeInto_27 (fun H locs hP hD hS => ?_)
  have hP : va_P G.1 vwCl (List.flatten [HW G a 0 (k4 (u0 0) (u1 0) (u2 0) (u3 0)), OW G u0 o0, AW G (u0 1) 9 st0, BW G (fun k => u0 (k + 2)) b0, PW G (fun k => u0 (k + 10)) pf0, LW G (fun k => u0 (k + 15)) g0, OW G h o0, AW G (h 1) 9 st0, BW G (fun k => h (k + 2)) b0, PW G (fun k => h (k + 10)) pf0, LW G (fun k => h (k + 15)) g0]) H := hP
  have hD : va_D A (List.flatten [HW G a 0 (k4 (u0 0) (u1 0) (u2 0) (u3 0)), OW G u0 o0, AW G (u0 1) 9 st0, BW G (fun k => u0 (k + 2)) b0, PW G (fun k => u0 (k + 10)) pf0, LW G (fun k => u0 (k + 15)) g0, OW G h o0, AW G (h 1) 9 st0, BW G (fun k => h (k + 2)) b0, PW G (fun k => h (k + 10)) pf0, LW G (fun k => h (k + 15)) g0]) := hD
  exact g_retv hx hb hr hlocks hS dX1_takeInto_30 rfl hP
def ok_X1_takeInto2 (o1 : (Nat → Int32)) : Prop := (ok_X4_copyFrom o1) ∧ True
set_option maxHeartbeats 4000000 in
set_option maxRecDepth 100000 in
theorem c_X1_takeInto2 (l : Launch) (G : gG) (a : Nat → Nat) (u0 : Nat → Nat) (u1 : Nat → Nat) (u2 : Nat → Nat) (u3 : Nat → Nat) (h : Nat → Nat) (o1 : (Nat → Int32)) (st1 : (Nat → Int32)) (b1 : (Nat → Nat → Int32)) (pf1 : (Nat → Nat → Int32)) (g1 : (Nat → Nat → Int32)) (o : (Nat → Int32)) (st : (Nat → Int32)) (b : (Nat → Nat → Int32)) (pf : (Nat → Nat → Int32)) (g : (Nat → Nat → Int32)) (hok : ok_X1_takeInto2 o1) : CT l G yX1_takeInto wsX1_takeInto 3 60 [.ref (a 0), .ref (h 0)] [HW G a 2 (k4 (u0 0) (u1 0) (u2 0) (u3 0)), OW G u1 o1, AW G (u1 1) 9 st1, BW G (fun k => u1 (k + 2)) b1, PW G (fun k => u1 (k + 10)) pf1, LW G (fun k => u1 (k + 15)) g1, OW G h o, AW G (h 1) 9 st, BW G (fun k => h (k + 2)) b, PW G (fun k => h (k + 10)) pf, LW G (fun k => h (k + 15)) g] none [HW G a 1 (k4 (u0 0) (u1 0) (u2 0) (u3 0)), OW G u1 o1, AW G (u1 1) 9 st1, BW G (fun k => u1 (k + 2)) b1, PW G (fun k => u1 (k + 10)) pf1, LW G (fun k => u1 (k + 15)) g1, OW G h o1, AW G (h 1) 9 st1, BW G (fun k => h (k + 2)) b1, PW G (fun k => h (k + 10)) pf1, LW G (fun k => h (k + 15)) g1] := by
  unfold ok_X1_takeInto2 at hok
  refine CT.of (cc := cX1_takeInto) (maxL := 2) (ret := none) (plainFor_of_name (by decide +kernel)) rfl rfl (Nat.le_of_ble_eq_true rfl) ?_
  intro p e s m below meth c A ls hx hb hml hr hts hown hlocks hK hP hD hA hS hl
  have hown : s.vm.findClass RX1 = some m.cls := hown
  have hl : lv_has ls 2 [(0, .ref (a 0)), (1, .ref (h 0))] := hl
  have hinX1 : ∀ w ∈ wsX10, w ∈ wsX1_takeInto := fun w h => List.mem_cons_of_mem _ (List.mem_append_left _ (List.mem_append_left _ (List.mem_append_left _ (List.mem_append_left _ (List.mem_append_right _ h)))))
  refine lv_aload_n hx hb dX1_takeInto_0 rfl (lv_at hl 0 rfl) ?_
  refine g_get (ci := 1) (v := .int 2) (C := RX1) (T := TX1) (N := 2) hx hb hts hinX1 hown hK hP 0 rfl rfl 0 (by decide) (hts (.fieldLink RX1 9 "ChargeStages$History" "states" "I") (List.mem_of_getElem? (i := 1) rfl)) rfl dX1_takeInto_1 ?_
  refine lv_if_le (tgt := 30) hx hb dX1_takeInto_4 (by decide) (fun c => absurd c (by decide)) (fun _ => ?_)
  refine lv_aload_n hx hb dX1_takeInto_7 rfl (lv_at hl 0 rfl) ?_
  refine lv_dup hx hb dX1_takeInto_8 rfl ?_
  refine g_get (ci := 1) (v := .int 2) (C := RX1) (T := TX1) (N := 2) hx hb hts hinX1 hown hK hP 0 rfl rfl 0 (by decide) (hts (.fieldLink RX1 9 "ChargeStages$History" "states" "I") (List.mem_of_getElem? (i := 1) rfl)) rfl dX1_takeInto_9 ?_
  refine lv_iconst (v := 1) hx hb dX1_takeInto_12 (by decide) ?_
  refine lv_isub hx hb dX1_takeInto_13 ?_
  refine g_topE (y := 1) (by decide) ?_
  refine g_put (ci := 1) (v := .int 1) (ty := .int) (C := RX1) (T := TX1) (N := 2) (B2 := [HW G a 1 (k4 (u0 0) (u1 0) (u2 0) (u3 0)), OW G u1 o1, AW G (u1 1) 9 st1, BW G (fun k => u1 (k + 2)) b1, PW G (fun k => u1 (k + 10)) pf1, LW G (fun k => u1 (k + 15)) g1, OW G h o, AW G (h 1) 9 st, BW G (fun k => h (k + 2)) b, PW G (fun k => h (k + 10)) pf, LW G (fun k => h (k + 15)) g]) hx hb hts hinX1 tyX1 tyX1_ok nmX1 hown hK hP hD hS 0 rfl rfl 0 (by decide) (hts (.fieldLink RX1 9 "ChargeStages$History" "states" "I") (List.mem_of_getElem? (i := 1) rfl)) rfl (by decide +kernel) rfl rfl (Nat.le_of_ble_eq_true rfl) rfl dX1_takeInto_14 (fun H locs hP hD hS => ?_)
  refine lv_aload_n hx hb dX1_takeInto_17 rfl (lv_at hl 1 rfl) ?_
  refine lv_aload_n hx hb dX1_takeInto_18 rfl (lv_at hl 0 rfl) ?_
  refine g_get (ci := 1) (v := .ref (a 1)) (C := RX1) (T := TX1) (N := 2) hx hb hts hinX1 hown hK hP 0 rfl rfl 1 (by decide) (hts (.fieldLink RX1 17 "ChargeStages$History" "kept" "[LChargeStages$State;") (List.mem_of_getElem? (i := 2) rfl)) rfl dX1_takeInto_19 ?_
  refine lv_aload_n hx hb dX1_takeInto_22 rfl (lv_at hl 0 rfl) ?_
  refine g_get (ci := 1) (v := .int 1) (C := RX1) (T := TX1) (N := 2) hx hb hts hinX1 hown hK hP 0 rfl rfl 0 (by decide) (hts (.fieldLink RX1 9 "ChargeStages$History" "states" "I") (List.mem_of_getElem? (i := 1) rfl)) rfl dX1_takeInto_23 ?_
  refine g_aldq (n := 4) (v := (u1 0)) (k := 1) hx hb hK hP 1 rfl (by decide) (by unfold vp_in; decide) rfl dX1_takeInto_26 ?_
  obtain ⟨k1, hok⟩ := hok
  refine g_callV (c_X4_copyFrom l G h u1 o st b pf g o1 st1 b1 pf1 g1 k1) hx hb hml hown hts hK hP hD hS hA gX1_takeInto_X4_copyFrom rfl (n := 1) (by decide +kernel) rfl ⟨Nat.le_of_ble_eq_true rfl, Nat.le_of_ble_eq_true rfl⟩ [6, 7, 8, 9, 10, 1, 2, 3, 4, 5] rfl (by decide) 21 rfl (ci := 4) rfl hl.1 rfl (Nat.le_of_ble_eq_true rfl) ⟨Nat.zero_le _, Nat.zero_le _⟩ dX1_takeInto_27 (fun H locs hP hD hS => ?_)
  have hP : va_P G.1 vwCl (List.flatten [HW G a 1 (k4 (u0 0) (u1 0) (u2 0) (u3 0)), OW G u1 o1, AW G (u1 1) 9 st1, BW G (fun k => u1 (k + 2)) b1, PW G (fun k => u1 (k + 10)) pf1, LW G (fun k => u1 (k + 15)) g1, OW G h o1, AW G (h 1) 9 st1, BW G (fun k => h (k + 2)) b1, PW G (fun k => h (k + 10)) pf1, LW G (fun k => h (k + 15)) g1]) H := hP
  have hD : va_D A (List.flatten [HW G a 1 (k4 (u0 0) (u1 0) (u2 0) (u3 0)), OW G u1 o1, AW G (u1 1) 9 st1, BW G (fun k => u1 (k + 2)) b1, PW G (fun k => u1 (k + 10)) pf1, LW G (fun k => u1 (k + 15)) g1, OW G h o1, AW G (h 1) 9 st1, BW G (fun k => h (k + 2)) b1, PW G (fun k => h (k + 10)) pf1, LW G (fun k => h (k + 15)) g1]) := hD
  exact g_retv hx hb hr hlocks hS dX1_takeInto_30 rfl hP
def ok_X1_takeInto3 (o2 : (Nat → Int32)) : Prop := (ok_X4_copyFrom o2) ∧ True
set_option maxHeartbeats 4000000 in
set_option maxRecDepth 100000 in
theorem c_X1_takeInto3 (l : Launch) (G : gG) (a : Nat → Nat) (u0 : Nat → Nat) (u1 : Nat → Nat) (u2 : Nat → Nat) (u3 : Nat → Nat) (h : Nat → Nat) (o2 : (Nat → Int32)) (st2 : (Nat → Int32)) (b2 : (Nat → Nat → Int32)) (pf2 : (Nat → Nat → Int32)) (g2 : (Nat → Nat → Int32)) (o : (Nat → Int32)) (st : (Nat → Int32)) (b : (Nat → Nat → Int32)) (pf : (Nat → Nat → Int32)) (g : (Nat → Nat → Int32)) (hok : ok_X1_takeInto3 o2) : CT l G yX1_takeInto wsX1_takeInto 3 60 [.ref (a 0), .ref (h 0)] [HW G a 3 (k4 (u0 0) (u1 0) (u2 0) (u3 0)), OW G u2 o2, AW G (u2 1) 9 st2, BW G (fun k => u2 (k + 2)) b2, PW G (fun k => u2 (k + 10)) pf2, LW G (fun k => u2 (k + 15)) g2, OW G h o, AW G (h 1) 9 st, BW G (fun k => h (k + 2)) b, PW G (fun k => h (k + 10)) pf, LW G (fun k => h (k + 15)) g] none [HW G a 2 (k4 (u0 0) (u1 0) (u2 0) (u3 0)), OW G u2 o2, AW G (u2 1) 9 st2, BW G (fun k => u2 (k + 2)) b2, PW G (fun k => u2 (k + 10)) pf2, LW G (fun k => u2 (k + 15)) g2, OW G h o2, AW G (h 1) 9 st2, BW G (fun k => h (k + 2)) b2, PW G (fun k => h (k + 10)) pf2, LW G (fun k => h (k + 15)) g2] := by
  unfold ok_X1_takeInto3 at hok
  refine CT.of (cc := cX1_takeInto) (maxL := 2) (ret := none) (plainFor_of_name (by decide +kernel)) rfl rfl (Nat.le_of_ble_eq_true rfl) ?_
  intro p e s m below meth c A ls hx hb hml hr hts hown hlocks hK hP hD hA hS hl
  have hown : s.vm.findClass RX1 = some m.cls := hown
  have hl : lv_has ls 2 [(0, .ref (a 0)), (1, .ref (h 0))] := hl
  have hinX1 : ∀ w ∈ wsX10, w ∈ wsX1_takeInto := fun w h => List.mem_cons_of_mem _ (List.mem_append_left _ (List.mem_append_left _ (List.mem_append_left _ (List.mem_append_left _ (List.mem_append_right _ h)))))
  refine lv_aload_n hx hb dX1_takeInto_0 rfl (lv_at hl 0 rfl) ?_
  refine g_get (ci := 1) (v := .int 3) (C := RX1) (T := TX1) (N := 2) hx hb hts hinX1 hown hK hP 0 rfl rfl 0 (by decide) (hts (.fieldLink RX1 9 "ChargeStages$History" "states" "I") (List.mem_of_getElem? (i := 1) rfl)) rfl dX1_takeInto_1 ?_
  refine lv_if_le (tgt := 30) hx hb dX1_takeInto_4 (by decide) (fun c => absurd c (by decide)) (fun _ => ?_)
  refine lv_aload_n hx hb dX1_takeInto_7 rfl (lv_at hl 0 rfl) ?_
  refine lv_dup hx hb dX1_takeInto_8 rfl ?_
  refine g_get (ci := 1) (v := .int 3) (C := RX1) (T := TX1) (N := 2) hx hb hts hinX1 hown hK hP 0 rfl rfl 0 (by decide) (hts (.fieldLink RX1 9 "ChargeStages$History" "states" "I") (List.mem_of_getElem? (i := 1) rfl)) rfl dX1_takeInto_9 ?_
  refine lv_iconst (v := 1) hx hb dX1_takeInto_12 (by decide) ?_
  refine lv_isub hx hb dX1_takeInto_13 ?_
  refine g_topE (y := 2) (by decide) ?_
  refine g_put (ci := 1) (v := .int 2) (ty := .int) (C := RX1) (T := TX1) (N := 2) (B2 := [HW G a 2 (k4 (u0 0) (u1 0) (u2 0) (u3 0)), OW G u2 o2, AW G (u2 1) 9 st2, BW G (fun k => u2 (k + 2)) b2, PW G (fun k => u2 (k + 10)) pf2, LW G (fun k => u2 (k + 15)) g2, OW G h o, AW G (h 1) 9 st, BW G (fun k => h (k + 2)) b, PW G (fun k => h (k + 10)) pf, LW G (fun k => h (k + 15)) g]) hx hb hts hinX1 tyX1 tyX1_ok nmX1 hown hK hP hD hS 0 rfl rfl 0 (by decide) (hts (.fieldLink RX1 9 "ChargeStages$History" "states" "I") (List.mem_of_getElem? (i := 1) rfl)) rfl (by decide +kernel) rfl rfl (Nat.le_of_ble_eq_true rfl) rfl dX1_takeInto_14 (fun H locs hP hD hS => ?_)
  refine lv_aload_n hx hb dX1_takeInto_17 rfl (lv_at hl 1 rfl) ?_
  refine lv_aload_n hx hb dX1_takeInto_18 rfl (lv_at hl 0 rfl) ?_
  refine g_get (ci := 1) (v := .ref (a 1)) (C := RX1) (T := TX1) (N := 2) hx hb hts hinX1 hown hK hP 0 rfl rfl 1 (by decide) (hts (.fieldLink RX1 17 "ChargeStages$History" "kept" "[LChargeStages$State;") (List.mem_of_getElem? (i := 2) rfl)) rfl dX1_takeInto_19 ?_
  refine lv_aload_n hx hb dX1_takeInto_22 rfl (lv_at hl 0 rfl) ?_
  refine g_get (ci := 1) (v := .int 2) (C := RX1) (T := TX1) (N := 2) hx hb hts hinX1 hown hK hP 0 rfl rfl 0 (by decide) (hts (.fieldLink RX1 9 "ChargeStages$History" "states" "I") (List.mem_of_getElem? (i := 1) rfl)) rfl dX1_takeInto_23 ?_
  refine g_aldq (n := 4) (v := (u2 0)) (k := 2) hx hb hK hP 1 rfl (by decide) (by unfold vp_in; decide) rfl dX1_takeInto_26 ?_
  obtain ⟨k1, hok⟩ := hok
  refine g_callV (c_X4_copyFrom l G h u2 o st b pf g o2 st2 b2 pf2 g2 k1) hx hb hml hown hts hK hP hD hS hA gX1_takeInto_X4_copyFrom rfl (n := 1) (by decide +kernel) rfl ⟨Nat.le_of_ble_eq_true rfl, Nat.le_of_ble_eq_true rfl⟩ [6, 7, 8, 9, 10, 1, 2, 3, 4, 5] rfl (by decide) 21 rfl (ci := 4) rfl hl.1 rfl (Nat.le_of_ble_eq_true rfl) ⟨Nat.zero_le _, Nat.zero_le _⟩ dX1_takeInto_27 (fun H locs hP hD hS => ?_)
  have hP : va_P G.1 vwCl (List.flatten [HW G a 2 (k4 (u0 0) (u1 0) (u2 0) (u3 0)), OW G u2 o2, AW G (u2 1) 9 st2, BW G (fun k => u2 (k + 2)) b2, PW G (fun k => u2 (k + 10)) pf2, LW G (fun k => u2 (k + 15)) g2, OW G h o2, AW G (h 1) 9 st2, BW G (fun k => h (k + 2)) b2, PW G (fun k => h (k + 10)) pf2, LW G (fun k => h (k + 15)) g2]) H := hP
  have hD : va_D A (List.flatten [HW G a 2 (k4 (u0 0) (u1 0) (u2 0) (u3 0)), OW G u2 o2, AW G (u2 1) 9 st2, BW G (fun k => u2 (k + 2)) b2, PW G (fun k => u2 (k + 10)) pf2, LW G (fun k => u2 (k + 15)) g2, OW G h o2, AW G (h 1) 9 st2, BW G (fun k => h (k + 2)) b2, PW G (fun k => h (k + 10)) pf2, LW G (fun k => h (k + 15)) g2]) := hD
  exact g_retv hx hb hr hlocks hS dX1_takeInto_30 rfl hP
def ok_X1_takeInto4 (o3 : (Nat → Int32)) : Prop := (ok_X4_copyFrom o3) ∧ True
set_option maxHeartbeats 4000000 in
set_option maxRecDepth 100000 in
theorem c_X1_takeInto4 (l : Launch) (G : gG) (a : Nat → Nat) (u0 : Nat → Nat) (u1 : Nat → Nat) (u2 : Nat → Nat) (u3 : Nat → Nat) (h : Nat → Nat) (o3 : (Nat → Int32)) (st3 : (Nat → Int32)) (b3 : (Nat → Nat → Int32)) (pf3 : (Nat → Nat → Int32)) (g3 : (Nat → Nat → Int32)) (o : (Nat → Int32)) (st : (Nat → Int32)) (b : (Nat → Nat → Int32)) (pf : (Nat → Nat → Int32)) (g : (Nat → Nat → Int32)) (hok : ok_X1_takeInto4 o3) : CT l G yX1_takeInto wsX1_takeInto 3 60 [.ref (a 0), .ref (h 0)] [HW G a 4 (k4 (u0 0) (u1 0) (u2 0) (u3 0)), OW G u3 o3, AW G (u3 1) 9 st3, BW G (fun k => u3 (k + 2)) b3, PW G (fun k => u3 (k + 10)) pf3, LW G (fun k => u3 (k + 15)) g3, OW G h o, AW G (h 1) 9 st, BW G (fun k => h (k + 2)) b, PW G (fun k => h (k + 10)) pf, LW G (fun k => h (k + 15)) g] none [HW G a 3 (k4 (u0 0) (u1 0) (u2 0) (u3 0)), OW G u3 o3, AW G (u3 1) 9 st3, BW G (fun k => u3 (k + 2)) b3, PW G (fun k => u3 (k + 10)) pf3, LW G (fun k => u3 (k + 15)) g3, OW G h o3, AW G (h 1) 9 st3, BW G (fun k => h (k + 2)) b3, PW G (fun k => h (k + 10)) pf3, LW G (fun k => h (k + 15)) g3] := by
  unfold ok_X1_takeInto4 at hok
  refine CT.of (cc := cX1_takeInto) (maxL := 2) (ret := none) (plainFor_of_name (by decide +kernel)) rfl rfl (Nat.le_of_ble_eq_true rfl) ?_
  intro p e s m below meth c A ls hx hb hml hr hts hown hlocks hK hP hD hA hS hl
  have hown : s.vm.findClass RX1 = some m.cls := hown
  have hl : lv_has ls 2 [(0, .ref (a 0)), (1, .ref (h 0))] := hl
  have hinX1 : ∀ w ∈ wsX10, w ∈ wsX1_takeInto := fun w h => List.mem_cons_of_mem _ (List.mem_append_left _ (List.mem_append_left _ (List.mem_append_left _ (List.mem_append_left _ (List.mem_append_right _ h)))))
  refine lv_aload_n hx hb dX1_takeInto_0 rfl (lv_at hl 0 rfl) ?_
  refine g_get (ci := 1) (v := .int 4) (C := RX1) (T := TX1) (N := 2) hx hb hts hinX1 hown hK hP 0 rfl rfl 0 (by decide) (hts (.fieldLink RX1 9 "ChargeStages$History" "states" "I") (List.mem_of_getElem? (i := 1) rfl)) rfl dX1_takeInto_1 ?_
  refine lv_if_le (tgt := 30) hx hb dX1_takeInto_4 (by decide) (fun c => absurd c (by decide)) (fun _ => ?_)
  refine lv_aload_n hx hb dX1_takeInto_7 rfl (lv_at hl 0 rfl) ?_
  refine lv_dup hx hb dX1_takeInto_8 rfl ?_
  refine g_get (ci := 1) (v := .int 4) (C := RX1) (T := TX1) (N := 2) hx hb hts hinX1 hown hK hP 0 rfl rfl 0 (by decide) (hts (.fieldLink RX1 9 "ChargeStages$History" "states" "I") (List.mem_of_getElem? (i := 1) rfl)) rfl dX1_takeInto_9 ?_
  refine lv_iconst (v := 1) hx hb dX1_takeInto_12 (by decide) ?_
  refine lv_isub hx hb dX1_takeInto_13 ?_
  refine g_topE (y := 3) (by decide) ?_
  refine g_put (ci := 1) (v := .int 3) (ty := .int) (C := RX1) (T := TX1) (N := 2) (B2 := [HW G a 3 (k4 (u0 0) (u1 0) (u2 0) (u3 0)), OW G u3 o3, AW G (u3 1) 9 st3, BW G (fun k => u3 (k + 2)) b3, PW G (fun k => u3 (k + 10)) pf3, LW G (fun k => u3 (k + 15)) g3, OW G h o, AW G (h 1) 9 st, BW G (fun k => h (k + 2)) b, PW G (fun k => h (k + 10)) pf, LW G (fun k => h (k + 15)) g]) hx hb hts hinX1 tyX1 tyX1_ok nmX1 hown hK hP hD hS 0 rfl rfl 0 (by decide) (hts (.fieldLink RX1 9 "ChargeStages$History" "states" "I") (List.mem_of_getElem? (i := 1) rfl)) rfl (by decide +kernel) rfl rfl (Nat.le_of_ble_eq_true rfl) rfl dX1_takeInto_14 (fun H locs hP hD hS => ?_)
  refine lv_aload_n hx hb dX1_takeInto_17 rfl (lv_at hl 1 rfl) ?_
  refine lv_aload_n hx hb dX1_takeInto_18 rfl (lv_at hl 0 rfl) ?_
  refine g_get (ci := 1) (v := .ref (a 1)) (C := RX1) (T := TX1) (N := 2) hx hb hts hinX1 hown hK hP 0 rfl rfl 1 (by decide) (hts (.fieldLink RX1 17 "ChargeStages$History" "kept" "[LChargeStages$State;") (List.mem_of_getElem? (i := 2) rfl)) rfl dX1_takeInto_19 ?_
  refine lv_aload_n hx hb dX1_takeInto_22 rfl (lv_at hl 0 rfl) ?_
  refine g_get (ci := 1) (v := .int 3) (C := RX1) (T := TX1) (N := 2) hx hb hts hinX1 hown hK hP 0 rfl rfl 0 (by decide) (hts (.fieldLink RX1 9 "ChargeStages$History" "states" "I") (List.mem_of_getElem? (i := 1) rfl)) rfl dX1_takeInto_23 ?_
  refine g_aldq (n := 4) (v := (u3 0)) (k := 3) hx hb hK hP 1 rfl (by decide) (by unfold vp_in; decide) rfl dX1_takeInto_26 ?_
  obtain ⟨k1, hok⟩ := hok
  refine g_callV (c_X4_copyFrom l G h u3 o st b pf g o3 st3 b3 pf3 g3 k1) hx hb hml hown hts hK hP hD hS hA gX1_takeInto_X4_copyFrom rfl (n := 1) (by decide +kernel) rfl ⟨Nat.le_of_ble_eq_true rfl, Nat.le_of_ble_eq_true rfl⟩ [6, 7, 8, 9, 10, 1, 2, 3, 4, 5] rfl (by decide) 21 rfl (ci := 4) rfl hl.1 rfl (Nat.le_of_ble_eq_true rfl) ⟨Nat.zero_le _, Nat.zero_le _⟩ dX1_takeInto_27 (fun H locs hP hD hS => ?_)
  have hP : va_P G.1 vwCl (List.flatten [HW G a 3 (k4 (u0 0) (u1 0) (u2 0) (u3 0)), OW G u3 o3, AW G (u3 1) 9 st3, BW G (fun k => u3 (k + 2)) b3, PW G (fun k => u3 (k + 10)) pf3, LW G (fun k => u3 (k + 15)) g3, OW G h o3, AW G (h 1) 9 st3, BW G (fun k => h (k + 2)) b3, PW G (fun k => h (k + 10)) pf3, LW G (fun k => h (k + 15)) g3]) H := hP
  have hD : va_D A (List.flatten [HW G a 3 (k4 (u0 0) (u1 0) (u2 0) (u3 0)), OW G u3 o3, AW G (u3 1) 9 st3, BW G (fun k => u3 (k + 2)) b3, PW G (fun k => u3 (k + 10)) pf3, LW G (fun k => u3 (k + 15)) g3, OW G h o3, AW G (h 1) 9 st3, BW G (fun k => h (k + 2)) b3, PW G (fun k => h (k + 10)) pf3, LW G (fun k => h (k + 15)) g3]) := hD
  exact g_retv hx hb hr hlocks hS dX1_takeInto_30 rfl hP
