def f_X6_isSetting (p1 : Int32) : Int32 := (if p1 < 0 then 0 else (if 9 ≤ p1 then 0 else 1))
set_option maxHeartbeats 4000000 in
set_option maxRecDepth 100000 in
theorem c_X6_isSetting (l : Launch) (G : gG)  (p1 : Int32) (R : Int32) (hR : R = f_X6_isSetting p1) : CT l G yX6_isSetting wsX6_isSetting 0 0 [.int p1] [] (some (.int R)) [] := by
  unfold f_X6_isSetting at hR
  refine CT.of (cc := cX6_isSetting) (maxL := 1) (ret := (some .boolean)) (plainFor_of_name (by decide +kernel)) rfl rfl (Nat.le_of_ble_eq_true rfl) ?_
  intro p e s m below meth c A ls hx hb hml hr hts hown hlocks hK hP hD hA hS hl
  have hown : s.vm.findClass RX6 = some m.cls := hown
  have hl : lv_has ls 1 [(0, .int p1)] := hl
  refine lv_iload_n hx hb dX6_isSetting_0 rfl (lv_at hl 0 rfl) ?_
  refine lv_if_lt (tgt := 14) hx hb dX6_isSetting_1 (by decide) (fun c1 => ?_) (fun c1 => ?_)
  · rw [if_pos c1] at hR
    refine lv_iconst (v := 0) hx hb dX6_isSetting_14 (by decide) ?_
    subst hR
    exact g_retz hx hb hr hlocks hS rfl dX6_isSetting_15 rfl hP
  · rw [if_neg c1] at hR
    refine lv_iload_n hx hb dX6_isSetting_4 rfl (lv_at hl 0 rfl) ?_
    refine lv_bipush (v := 9) hx hb dX6_isSetting_5 (by decide) ?_
    refine lv_icmp_ge (tgt := 14) hx hb dX6_isSetting_7 (by decide) (fun c2 => ?_) (fun c2 => ?_)
    · rw [if_pos c2] at hR
      refine lv_iconst (v := 0) hx hb dX6_isSetting_14 (by decide) ?_
      subst hR
      exact g_retz hx hb hr hlocks hS rfl dX6_isSetting_15 rfl hP
    · rw [if_neg c2] at hR
      refine lv_iconst (v := 1) hx hb dX6_isSetting_10 (by decide) ?_
      refine lv_goto (tgt := 15) hx hb dX6_isSetting_11 (by decide) ?_
      subst hR
      exact g_retz hx hb hr hlocks hS rfl dX6_isSetting_15 rfl hP
def f_X6_battery (o : (Nat → Int32)) (st : (Nat → Int32)) (b : (Nat → Nat → Int32)) (pf : (Nat → Nat → Int32)) (g : (Nat → Nat → Int32)) (hh : HVal) (p1 : Int32) : Int32 × (Nat → Int32) × (Nat → Nat → Int32) × HVal := (if p1 < 1 then ((-2), o, b, hh) else (if p1 ≤ 6 then (gL ((b 0) 0) (fun (v3 : Int32) => (gL (f_hadd o st b pf g hh) (fun (R4 : HVal) => (gL (f_X0_putEmpty b p1) (fun (R6 : (Nat → Nat → Int32)) => (v3, (upd o 0 0), R6, R4))))))) else ((-2), o, b, hh)))
def ok_X6_battery (o : (Nat → Int32)) (st : (Nat → Int32)) (b : (Nat → Nat → Int32)) (pf : (Nat → Nat → Int32)) (g : (Nat → Nat → Int32)) (hh : HVal) (p1 : Int32) : Prop := ((p1 < 1 → True) ∧ (¬ p1 < 1 → ((p1 ≤ 6 → (gL ((b 0) 0) (fun (v3 : Int32) => (ok_hadd o hh) ∧ (gL (f_hadd o st b pf g hh) (fun (R4 : HVal) => (ok_X0_putEmpty b p1) ∧ True))))) ∧ (¬ p1 ≤ 6 → True))))
set_option maxHeartbeats 4000000 in
set_option maxRecDepth 100000 in
theorem c_X6_battery (l : Launch) (G : gG) (x : Nat → Nat) (cx : (Nat → Int32)) (o : (Nat → Int32)) (st : (Nat → Int32)) (b : (Nat → Nat → Int32)) (pf : (Nat → Nat → Int32)) (g : (Nat → Nat → Int32)) (hh : HVal) (p1 : Int32) (R : Int32 × (Nat → Int32) × (Nat → Nat → Int32) × HVal) (hR : R = f_X6_battery o st b pf g hh p1) (hok : ok_X6_battery o st b pf g hh p1) : CT l G yX6_battery wsX6_battery 4 81 [.ref (x 0), .int p1] [CW G x cx, OW G (fun k => x (k + 1)) o, AW G (x 2) 9 st, BW G (fun k => x (k + 3)) b, PW G (fun k => x (k + 11)) pf, LW G (fun k => x (k + 16)) g, HGW G (fun k => x (k + 58)) hh] (some (.int R.1)) [CW G x cx, OW G (fun k => x (k + 1)) R.2.1, AW G (x 2) 9 st, BW G (fun k => x (k + 3)) R.2.2.1, PW G (fun k => x (k + 11)) pf, LW G (fun k => x (k + 16)) g, HGW G (fun k => x (k + 58)) R.2.2.2] := by
  unfold f_X6_battery at hR
  unfold ok_X6_battery at hok
  refine CT.of (cc := cX6_battery) (maxL := 3) (ret := (some .int)) (plainFor_of_name (by decide +kernel)) rfl rfl (Nat.le_of_ble_eq_true rfl) ?_
  intro p e s m below meth c A ls hx hb hml hr hts hown hlocks hK hP hD hA hS hl
  have hown : s.vm.findClass RX6 = some m.cls := hown
  have hl : lv_has ls 3 [(0, .ref (x 0)), (1, .int p1)] := hl
  have hinX0 : ∀ w ∈ wsX00, w ∈ wsX6_battery := fun w h => List.mem_cons_of_mem _ (List.mem_append_left _ (List.mem_append_left _ (List.mem_append_left _ (List.mem_append_right _ h))))
  have hinX4 : ∀ w ∈ wsX40, w ∈ wsX6_battery := fun w h => List.mem_cons_of_mem _ (List.mem_append_left _ (List.mem_append_left _ (List.mem_append_left _ (List.mem_append_left _ (List.mem_append_right _ h)))))
  have hinX6 : ∀ w ∈ wsX60, w ∈ wsX6_battery := fun w h => List.mem_cons_of_mem _ (List.mem_append_left _ (List.mem_append_left _ (List.mem_append_left _ (List.mem_append_left _ (List.mem_append_left _ (List.mem_append_right _ h))))))
  refine lv_iload_n hx hb dX6_battery_0 rfl (lv_at hl 1 rfl) ?_
  refine lv_iconst (v := 1) hx hb dX6_battery_1 (by decide) ?_
  refine lv_icmp_lt (tgt := 11) hx hb dX6_battery_2 (by decide) (fun c1 => ?_) (fun c1 => ?_)
  · rw [if_pos c1] at hR
    have hok := hok.1 c1
    refine lv_bipush (v := (-2)) hx hb dX6_battery_11 (by decide) ?_
    subst hR
    exact g_ret hx hb hr hlocks hS dX6_battery_13 rfl hP
  · rw [if_neg c1] at hR
    have hok := hok.2 c1
    refine lv_iload_n hx hb dX6_battery_5 rfl (lv_at hl 1 rfl) ?_
    refine lv_bipush (v := 6) hx hb dX6_battery_6 (by decide) ?_
    refine lv_icmp_le (tgt := 14) hx hb dX6_battery_8 (by decide) (fun c2 => ?_) (fun c2 => ?_)
    · rw [if_pos c2] at hR
      have hok := hok.1 c2
      refine lv_aload_n hx hb dX6_battery_14 rfl (lv_at hl 0 rfl) ?_
      refine g_get (ci := 6) (v := .ref (x 1)) (C := RX6) (T := TX6) (N := 7) hx hb hts hinX6 hown hK hP 0 rfl rfl 0 (by decide) (hts (.fieldLink RX6 10 "ChargeStages" "now" "LChargeStages$State;") (List.mem_of_getElem? (i := 1) rfl)) rfl dX6_battery_15 ?_
      refine g_get (ci := 4) (v := .ref (x 3)) (C := RX4) (T := TX4) (N := 12) hx hb hts hinX4 hown hK hP 1 rfl rfl 1 (by decide) (hts (.fieldLink RX6 50 "ChargeStages$State" "row" "LChargeStages$Battery;") (List.mem_of_getElem? (i := 2) rfl)) rfl dX6_battery_18 ?_
      refine g_get (ci := 0) (v := .int ((b 0) 0)) (C := RX0) (T := TX0) (N := 8) hx hb hts hinX0 hown hK hP 3 rfl rfl 0 (by decide) (hts (.fieldLink RX6 54 "ChargeStages$Battery" "cells" "I") (List.mem_of_getElem? (i := 3) rfl)) rfl dX6_battery_21 ?_
      obtain ⟨v3, ev3, hR, hok⟩ := g_let2 hR hok
      refine g_topE ev3.symm ?_
      refine lv_istore_n (lv' := [(2, .int v3), (0, .ref (x 0)), (1, .int p1)]) hx hb dX6_battery_24 rfl hl (by decide) rfl (fun ls hl => ?_)
      refine lv_aload_n hx hb dX6_battery_25 rfl (lv_at hl 1 rfl) ?_
      refine g_get (ci := 6) (v := .ref (x 58)) (C := RX6) (T := TX6) (N := 7) hx hb hts hinX6 hown hK hP 0 rfl rfl 4 (by decide) (hts (.fieldLink RX6 29 "ChargeStages" "history" "LChargeStages$History;") (List.mem_of_getElem? (i := 4) rfl)) rfl dX6_battery_26 ?_
      refine lv_aload_n hx hb dX6_battery_29 rfl (lv_at hl 1 rfl) ?_
      refine g_get (ci := 6) (v := .ref (x 1)) (C := RX6) (T := TX6) (N := 7) hx hb hts hinX6 hown hK hP 0 rfl rfl 0 (by decide) (hts (.fieldLink RX6 10 "ChargeStages" "now" "LChargeStages$State;") (List.mem_of_getElem? (i := 1) rfl)) rfl dX6_battery_30 ?_
      obtain ⟨k5, hok⟩ := hok
      obtain ⟨R4, eR4, hR, hok⟩ := g_let2 hR hok
      refine g_callV (c_hadd l G (fun k => x (k + 58)) (fun k => x (k + 1)) o st b pf g hh R4 eR4 k5) hx hb hml hown hts hK hP hD hS hA gX6_battery_X1_add rfl (n := 1) (by decide +kernel) rfl ⟨Nat.le_of_ble_eq_true rfl, Nat.le_of_ble_eq_true rfl⟩ [1, 2, 3, 4, 5, 6] rfl (by decide) 20 rfl (ci := 1) rfl hl.1 rfl (Nat.le_of_ble_eq_true rfl) ⟨Nat.zero_le _, Nat.zero_le _⟩ dX6_battery_33 (fun H locs hP hD hS => ?_)
      have hP : va_P G.1 vwCl (List.flatten [CW G x cx, OW G (fun k => x (k + 1)) o, AW G (x 2) 9 st, BW G (fun k => x (k + 3)) b, PW G (fun k => x (k + 11)) pf, LW G (fun k => x (k + 16)) g, HGW G (fun k => x (k + 58)) R4]) H := hP
      have hD : va_D A (List.flatten [CW G x cx, OW G (fun k => x (k + 1)) o, AW G (x 2) 9 st, BW G (fun k => x (k + 3)) b, PW G (fun k => x (k + 11)) pf, LW G (fun k => x (k + 16)) g, HGW G (fun k => x (k + 58)) R4]) := hD
      refine lv_aload_n hx hb dX6_battery_36 rfl (lv_at hl 1 rfl) ?_
      refine g_get (ci := 6) (v := .ref (x 1)) (C := RX6) (T := TX6) (N := 7) hx hb hts hinX6 hown hK hP 0 rfl rfl 0 (by decide) (hts (.fieldLink RX6 10 "ChargeStages" "now" "LChargeStages$State;") (List.mem_of_getElem? (i := 1) rfl)) rfl dX6_battery_37 ?_
      refine g_get (ci := 4) (v := .ref (x 3)) (C := RX4) (T := TX4) (N := 12) hx hb hts hinX4 hown hK hP 1 rfl rfl 1 (by decide) (hts (.fieldLink RX6 50 "ChargeStages$State" "row" "LChargeStages$Battery;") (List.mem_of_getElem? (i := 2) rfl)) rfl dX6_battery_40 ?_
      refine lv_iload_n hx hb dX6_battery_43 rfl (lv_at hl 2 rfl) ?_
      obtain ⟨k7, hok⟩ := hok
      obtain ⟨R6, eR6, hR⟩ := g_let hR
      refine g_callV (c_X0_putEmpty l G (fun k => x (k + 3)) b p1 R6 eR6 k7) hx hb hml hown hts hK hP hD hS hA gX6_battery_X0_putEmpty rfl (n := 1) (by decide +kernel) rfl ⟨Nat.le_of_ble_eq_true rfl, Nat.le_of_ble_eq_true rfl⟩ [3] rfl (by decide) 3 rfl (ci := 0) rfl hl.1 rfl (Nat.le_of_ble_eq_true rfl) ⟨Nat.zero_le _, Nat.zero_le _⟩ dX6_battery_44 (fun H locs hP hD hS => ?_)
      have hP : va_P G.1 vwCl (List.flatten [CW G x cx, OW G (fun k => x (k + 1)) o, AW G (x 2) 9 st, BW G (fun k => x (k + 3)) R6, PW G (fun k => x (k + 11)) pf, LW G (fun k => x (k + 16)) g, HGW G (fun k => x (k + 58)) R4]) H := hP
      have hD : va_D A (List.flatten [CW G x cx, OW G (fun k => x (k + 1)) o, AW G (x 2) 9 st, BW G (fun k => x (k + 3)) R6, PW G (fun k => x (k + 11)) pf, LW G (fun k => x (k + 16)) g, HGW G (fun k => x (k + 58)) R4]) := hD
      refine lv_aload_n hx hb dX6_battery_47 rfl (lv_at hl 1 rfl) ?_
      refine g_get (ci := 6) (v := .ref (x 1)) (C := RX6) (T := TX6) (N := 7) hx hb hts hinX6 hown hK hP 0 rfl rfl 0 (by decide) (hts (.fieldLink RX6 10 "ChargeStages" "now" "LChargeStages$State;") (List.mem_of_getElem? (i := 1) rfl)) rfl dX6_battery_48 ?_
      refine lv_iconst (v := 0) hx hb dX6_battery_51 (by decide) ?_
      refine g_put (ci := 4) (v := .int 0) (ty := .int) (C := RX4) (T := TX4) (N := 12) (B2 := [CW G x cx, OW G (fun k => x (k + 1)) (upd o 0 0), AW G (x 2) 9 st, BW G (fun k => x (k + 3)) R6, PW G (fun k => x (k + 11)) pf, LW G (fun k => x (k + 16)) g, HGW G (fun k => x (k + 58)) R4]) hx hb hts hinX4 tyX4 tyX4_ok nmX4 hown hK hP hD hS 1 rfl rfl 4 (by decide) (hts (.fieldLink RX6 68 "ChargeStages$State" "mode" "I") (List.mem_of_getElem? (i := 5) rfl)) rfl (by decide +kernel) rfl rfl (Nat.le_of_ble_eq_true rfl) rfl dX6_battery_52 (fun H locs hP hD hS => ?_)
      refine lv_iload_n hx hb dX6_battery_55 rfl (lv_at hl 0 rfl) ?_
      subst hR
      exact g_ret hx hb hr hlocks hS dX6_battery_56 rfl hP
    · rw [if_neg c2] at hR
      have hok := hok.2 c2
      refine lv_bipush (v := (-2)) hx hb dX6_battery_11 (by decide) ?_
      subst hR
      exact g_ret hx hb hr hlocks hS dX6_battery_13 rfl hP
def f_X6_setCharge (o : (Nat → Int32)) (st : (Nat → Int32)) (b : (Nat → Nat → Int32)) (pf : (Nat → Nat → Int32)) (g : (Nat → Nat → Int32)) (hh : HVal) (p1 : Int32) (p2 : Int32) : Int32 × (Nat → Nat → Int32) × HVal := (gL (f_X0_has b p1) (fun (R1 : Int32) => (if R1 = 0 then ((-1), b, hh) else (if p2 < 0 then ((-2), b, hh) else (if p2 ≤ (st 0) then (gL ((b 1) ((p1).toNatClampNeg)) (fun (v7 : Int32) => (if v7 = p2 then (if ((b 2) ((p1).toNatClampNeg)) = 0 then ((-5), b, hh) else (gL (f_hadd o st b pf g hh) (fun (R17 : HVal) => (gL (upd (b 1) ((p1).toNatClampNeg) p2) (fun (z19 : (Nat → Int32)) => (gL (upd (b 2) ((p1).toNatClampNeg) 0) (fun (z21 : (Nat → Int32)) => (v7, (sF (sF b 1 z19) 2 z21), R17)))))))) else (gL (f_hadd o st b pf g hh) (fun (R9 : HVal) => (gL (upd (b 1) ((p1).toNatClampNeg) p2) (fun (z11 : (Nat → Int32)) => (gL (upd (b 2) ((p1).toNatClampNeg) 0) (fun (z13 : (Nat → Int32)) => (v7, (sF (sF b 1 z11) 2 z13), R9)))))))))) else ((-2), b, hh))))))
def ok_X6_setCharge (o : (Nat → Int32)) (st : (Nat → Int32)) (b : (Nat → Nat → Int32)) (pf : (Nat → Nat → Int32)) (g : (Nat → Nat → Int32)) (hh : HVal) (p1 : Int32) (p2 : Int32) : Prop := (gL (f_X0_has b p1) (fun (R1 : Int32) => ((R1 = 0 → True) ∧ (¬ R1 = 0 → ((p2 < 0 → True) ∧ (¬ p2 < 0 → ((p2 ≤ (st 0) → (vp_in p1 6) ∧ (gL ((b 1) ((p1).toNatClampNeg)) (fun (v7 : Int32) => ((v7 = p2 → (vp_in p1 6) ∧ ((((b 2) ((p1).toNatClampNeg)) = 0 → True) ∧ (¬ ((b 2) ((p1).toNatClampNeg)) = 0 → (ok_hadd o hh) ∧ (gL (f_hadd o st b pf g hh) (fun (R17 : HVal) => (vp_in p1 6) ∧ (gL (upd (b 1) ((p1).toNatClampNeg) p2) (fun (z19 : (Nat → Int32)) => (vp_in p1 6) ∧ True))))))) ∧ (¬ v7 = p2 → (ok_hadd o hh) ∧ (gL (f_hadd o st b pf g hh) (fun (R9 : HVal) => (vp_in p1 6) ∧ (gL (upd (b 1) ((p1).toNatClampNeg) p2) (fun (z11 : (Nat → Int32)) => (vp_in p1 6) ∧ True))))))))) ∧ (¬ p2 ≤ (st 0) → True))))))))
set_option maxHeartbeats 4000000 in
set_option maxRecDepth 100000 in
theorem c_X6_setCharge (l : Launch) (G : gG) (x : Nat → Nat) (cx : (Nat → Int32)) (o : (Nat → Int32)) (st : (Nat → Int32)) (b : (Nat → Nat → Int32)) (pf : (Nat → Nat → Int32)) (g : (Nat → Nat → Int32)) (hh : HVal) (p1 : Int32) (p2 : Int32) (R : Int32 × (Nat → Nat → Int32) × HVal) (hR : R = f_X6_setCharge o st b pf g hh p1 p2) (hok : ok_X6_setCharge o st b pf g hh p1 p2) : CT l G yX6_setCharge wsX6_setCharge 4 81 [.ref (x 0), .int p1, .int p2] [CW G x cx, OW G (fun k => x (k + 1)) o, AW G (x 2) 9 st, BW G (fun k => x (k + 3)) b, PW G (fun k => x (k + 11)) pf, LW G (fun k => x (k + 16)) g, HGW G (fun k => x (k + 58)) hh] (some (.int R.1)) [CW G x cx, OW G (fun k => x (k + 1)) o, AW G (x 2) 9 st, BW G (fun k => x (k + 3)) R.2.1, PW G (fun k => x (k + 11)) pf, LW G (fun k => x (k + 16)) g, HGW G (fun k => x (k + 58)) R.2.2] := by
  unfold f_X6_setCharge at hR
  unfold ok_X6_setCharge at hok
  refine CT.of (cc := cX6_setCharge) (maxL := 4) (ret := (some .int)) (plainFor_of_name (by decide +kernel)) rfl rfl (Nat.le_of_ble_eq_true rfl) ?_
  intro p e s m below meth c A ls hx hb hml hr hts hown hlocks hK hP hD hA hS hl
  have hown : s.vm.findClass RX6 = some m.cls := hown
  have hl : lv_has ls 4 [(0, .ref (x 0)), (1, .int p1), (2, .int p2)] := hl
  have hinX0 : ∀ w ∈ wsX00, w ∈ wsX6_setCharge := fun w h => List.mem_cons_of_mem _ (List.mem_append_left _ (List.mem_append_left _ (List.mem_append_left _ (List.mem_append_right _ h))))
  have hinX4 : ∀ w ∈ wsX40, w ∈ wsX6_setCharge := fun w h => List.mem_cons_of_mem _ (List.mem_append_left _ (List.mem_append_left _ (List.mem_append_left _ (List.mem_append_left _ (List.mem_append_right _ h)))))
  have hinX6 : ∀ w ∈ wsX60, w ∈ wsX6_setCharge := fun w h => List.mem_cons_of_mem _ (List.mem_append_left _ (List.mem_append_left _ (List.mem_append_left _ (List.mem_append_left _ (List.mem_append_left _ (List.mem_append_right _ h))))))
  refine lv_aload_n hx hb dX6_setCharge_0 rfl (lv_at hl 0 rfl) ?_
  refine g_get (ci := 6) (v := .ref (x 1)) (C := RX6) (T := TX6) (N := 7) hx hb hts hinX6 hown hK hP 0 rfl rfl 0 (by decide) (hts (.fieldLink RX6 10 "ChargeStages" "now" "LChargeStages$State;") (List.mem_of_getElem? (i := 1) rfl)) rfl dX6_setCharge_1 ?_
  refine g_get (ci := 4) (v := .ref (x 3)) (C := RX4) (T := TX4) (N := 12) hx hb hts hinX4 hown hK hP 1 rfl rfl 1 (by decide) (hts (.fieldLink RX6 50 "ChargeStages$State" "row" "LChargeStages$Battery;") (List.mem_of_getElem? (i := 2) rfl)) rfl dX6_setCharge_4 ?_
  refine lv_iload_n hx hb dX6_setCharge_7 rfl (lv_at hl 1 rfl) ?_
  obtain ⟨R1, eR1, hR, hok⟩ := g_let2 hR hok
  refine g_callV (c_X0_has l G (fun k => x (k + 3)) b p1 R1 eR1) hx hb hml hown hts hK hP hD hS hA gX6_setCharge_X0_has rfl (n := 1) (by decide +kernel) rfl ⟨Nat.le_of_ble_eq_true rfl, Nat.le_of_ble_eq_true rfl⟩ [3] rfl (by decide) 3 rfl (ci := 0) rfl hl.1 rfl (Nat.le_of_ble_eq_true rfl) ⟨Nat.zero_le _, Nat.zero_le _⟩ dX6_setCharge_8 (fun H locs hP hD hS => ?_)
  have hP : va_P G.1 vwCl (List.flatten [CW G x cx, OW G (fun k => x (k + 1)) o, AW G (x 2) 9 st, BW G (fun k => x (k + 3)) b, PW G (fun k => x (k + 11)) pf, LW G (fun k => x (k + 16)) g, HGW G (fun k => x (k + 58)) hh]) H := hP
  have hD : va_D A (List.flatten [CW G x cx, OW G (fun k => x (k + 1)) o, AW G (x 2) 9 st, BW G (fun k => x (k + 3)) b, PW G (fun k => x (k + 11)) pf, LW G (fun k => x (k + 16)) g, HGW G (fun k => x (k + 58)) hh]) := hD
  refine lv_if_ne (tgt := 16) hx hb dX6_setCharge_11 (by decide) (fun c3 => ?_) (fun c3 => ?_)
  · rw [if_neg c3] at hR
    have hok := hok.2 c3
    refine lv_iload_n hx hb dX6_setCharge_16 rfl (lv_at hl 2 rfl) ?_
    refine lv_if_lt (tgt := 33) hx hb dX6_setCharge_17 (by decide) (fun c4 => ?_) (fun c4 => ?_)
    · rw [if_pos c4] at hR
      have hok := hok.1 c4
      refine lv_bipush (v := (-2)) hx hb dX6_setCharge_33 (by decide) ?_
      subst hR
      exact g_ret hx hb hr hlocks hS dX6_setCharge_35 rfl hP
    · rw [if_neg c4] at hR
      have hok := hok.2 c4
      refine lv_iload_n hx hb dX6_setCharge_20 rfl (lv_at hl 2 rfl) ?_
      refine lv_aload_n hx hb dX6_setCharge_21 rfl (lv_at hl 0 rfl) ?_
      refine g_get (ci := 6) (v := .ref (x 1)) (C := RX6) (T := TX6) (N := 7) hx hb hts hinX6 hown hK hP 0 rfl rfl 0 (by decide) (hts (.fieldLink RX6 10 "ChargeStages" "now" "LChargeStages$State;") (List.mem_of_getElem? (i := 1) rfl)) rfl dX6_setCharge_22 ?_
      refine g_get (ci := 4) (v := .ref (x 2)) (C := RX4) (T := TX4) (N := 12) hx hb hts hinX4 hown hK hP 1 rfl rfl 0 (by decide) (hts (.fieldLink RX6 75 "ChargeStages$State" "settings" "[I") (List.mem_of_getElem? (i := 3) rfl)) rfl dX6_setCharge_25 ?_
      refine lv_iconst (v := 0) hx hb dX6_setCharge_28 (by decide) ?_
      refine g_ld (n := 9) (f := st) (v := st 0) (k := 0) hx hb hK hP 2 rfl (by decide) (by unfold vp_in; decide) rfl dX6_setCharge_29 ?_
      refine lv_icmp_le (tgt := 36) hx hb dX6_setCharge_30 (by decide) (fun c5 => ?_) (fun c5 => ?_)
      · rw [if_pos c5] at hR
        have hok := hok.1 c5
        refine lv_aload_n hx hb dX6_setCharge_36 rfl (lv_at hl 0 rfl) ?_
        refine g_get (ci := 6) (v := .ref (x 1)) (C := RX6) (T := TX6) (N := 7) hx hb hts hinX6 hown hK hP 0 rfl rfl 0 (by decide) (hts (.fieldLink RX6 10 "ChargeStages" "now" "LChargeStages$State;") (List.mem_of_getElem? (i := 1) rfl)) rfl dX6_setCharge_37 ?_
        refine g_get (ci := 4) (v := .ref (x 3)) (C := RX4) (T := TX4) (N := 12) hx hb hts hinX4 hown hK hP 1 rfl rfl 1 (by decide) (hts (.fieldLink RX6 50 "ChargeStages$State" "row" "LChargeStages$Battery;") (List.mem_of_getElem? (i := 2) rfl)) rfl dX6_setCharge_40 ?_
        refine g_get (ci := 0) (v := .ref (x 4)) (C := RX0) (T := TX0) (N := 8) hx hb hts hinX0 hown hK hP 3 rfl rfl 1 (by decide) (hts (.fieldLink RX6 79 "ChargeStages$Battery" "charge" "[I") (List.mem_of_getElem? (i := 4) rfl)) rfl dX6_setCharge_43 ?_
        refine lv_iload_n hx hb dX6_setCharge_46 rfl (lv_at hl 1 rfl) ?_
        obtain ⟨k6, hok⟩ := hok
        refine g_ld (n := 6) (f := (b 1)) (v := (b 1) ((p1).toNatClampNeg)) (k := ((p1).toNatClampNeg)) hx hb hK hP 4 rfl rfl k6 rfl dX6_setCharge_47 ?_
        obtain ⟨v7, ev7, hR, hok⟩ := g_let2 hR hok
        refine g_topE ev7.symm ?_
        refine lv_istore_n (lv' := [(3, .int v7), (0, .ref (x 0)), (1, .int p1), (2, .int p2)]) hx hb dX6_setCharge_48 rfl hl (by decide) rfl (fun ls hl => ?_)
        refine lv_iload_n hx hb dX6_setCharge_49 rfl (lv_at hl 0 rfl) ?_
        refine lv_iload_n hx hb dX6_setCharge_50 rfl (lv_at hl 3 rfl) ?_
        refine lv_icmp_ne (tgt := 72) hx hb dX6_setCharge_51 (by decide) (fun c8 => ?_) (fun c8 => ?_)
        · rw [if_neg c8] at hR
          have hok := hok.2 c8
          refine lv_aload_n hx hb dX6_setCharge_72 rfl (lv_at hl 1 rfl) ?_
          refine g_get (ci := 6) (v := .ref (x 58)) (C := RX6) (T := TX6) (N := 7) hx hb hts hinX6 hown hK hP 0 rfl rfl 4 (by decide) (hts (.fieldLink RX6 29 "ChargeStages" "history" "LChargeStages$History;") (List.mem_of_getElem? (i := 6) rfl)) rfl dX6_setCharge_73 ?_
          refine lv_aload_n hx hb dX6_setCharge_76 rfl (lv_at hl 1 rfl) ?_
          refine g_get (ci := 6) (v := .ref (x 1)) (C := RX6) (T := TX6) (N := 7) hx hb hts hinX6 hown hK hP 0 rfl rfl 0 (by decide) (hts (.fieldLink RX6 10 "ChargeStages" "now" "LChargeStages$State;") (List.mem_of_getElem? (i := 1) rfl)) rfl dX6_setCharge_77 ?_
          obtain ⟨k10, hok⟩ := hok
          obtain ⟨R9, eR9, hR, hok⟩ := g_let2 hR hok
          refine g_callV (c_hadd l G (fun k => x (k + 58)) (fun k => x (k + 1)) o st b pf g hh R9 eR9 k10) hx hb hml hown hts hK hP hD hS hA gX6_setCharge_X1_add rfl (n := 1) (by decide +kernel) rfl ⟨Nat.le_of_ble_eq_true rfl, Nat.le_of_ble_eq_true rfl⟩ [1, 2, 3, 4, 5, 6] rfl (by decide) 20 rfl (ci := 1) rfl hl.1 rfl (Nat.le_of_ble_eq_true rfl) ⟨Nat.zero_le _, Nat.zero_le _⟩ dX6_setCharge_80 (fun H locs hP hD hS => ?_)
          have hP : va_P G.1 vwCl (List.flatten [CW G x cx, OW G (fun k => x (k + 1)) o, AW G (x 2) 9 st, BW G (fun k => x (k + 3)) b, PW G (fun k => x (k + 11)) pf, LW G (fun k => x (k + 16)) g, HGW G (fun k => x (k + 58)) R9]) H := hP
          have hD : va_D A (List.flatten [CW G x cx, OW G (fun k => x (k + 1)) o, AW G (x 2) 9 st, BW G (fun k => x (k + 3)) b, PW G (fun k => x (k + 11)) pf, LW G (fun k => x (k + 16)) g, HGW G (fun k => x (k + 58)) R9]) := hD
          refine lv_aload_n hx hb dX6_setCharge_83 rfl (lv_at hl 1 rfl) ?_
          refine g_get (ci := 6) (v := .ref (x 1)) (C := RX6) (T := TX6) (N := 7) hx hb hts hinX6 hown hK hP 0 rfl rfl 0 (by decide) (hts (.fieldLink RX6 10 "ChargeStages" "now" "LChargeStages$State;") (List.mem_of_getElem? (i := 1) rfl)) rfl dX6_setCharge_84 ?_
          refine g_get (ci := 4) (v := .ref (x 3)) (C := RX4) (T := TX4) (N := 12) hx hb hts hinX4 hown hK hP 1 rfl rfl 1 (by decide) (hts (.fieldLink RX6 50 "ChargeStages$State" "row" "LChargeStages$Battery;") (List.mem_of_getElem? (i := 2) rfl)) rfl dX6_setCharge_87 ?_
          refine g_get (ci := 0) (v := .ref (x 4)) (C := RX0) (T := TX0) (N := 8) hx hb hts hinX0 hown hK hP 3 rfl rfl 1 (by decide) (hts (.fieldLink RX6 79 "ChargeStages$Battery" "charge" "[I") (List.mem_of_getElem? (i := 4) rfl)) rfl dX6_setCharge_90 ?_
          refine lv_iload_n hx hb dX6_setCharge_93 rfl (lv_at hl 2 rfl) ?_
          refine lv_iload_n hx hb dX6_setCharge_94 rfl (lv_at hl 3 rfl) ?_
          obtain ⟨k12, hok⟩ := hok
          obtain ⟨z11, ez11, hR, hok⟩ := g_let2 hR hok
          refine g_st (n := 6) (f := (b 1)) (k := ((p1).toNatClampNeg)) (B2 := [CW G x cx, OW G (fun k => x (k + 1)) o, AW G (x 2) 9 st, BW G (fun k => x (k + 3)) (sF b 1 z11), PW G (fun k => x (k + 11)) pf, LW G (fun k => x (k + 16)) g, HGW G (fun k => x (k + 58)) R9]) hx hb hK hP hD hS 4 rfl rfl k12 (by subst ez11; rfl) dX6_setCharge_95 (fun H locs hP hD hS => ?_)
          refine lv_aload_n hx hb dX6_setCharge_96 rfl (lv_at hl 1 rfl) ?_
          refine g_get (ci := 6) (v := .ref (x 1)) (C := RX6) (T := TX6) (N := 7) hx hb hts hinX6 hown hK hP 0 rfl rfl 0 (by decide) (hts (.fieldLink RX6 10 "ChargeStages" "now" "LChargeStages$State;") (List.mem_of_getElem? (i := 1) rfl)) rfl dX6_setCharge_97 ?_
          refine g_get (ci := 4) (v := .ref (x 3)) (C := RX4) (T := TX4) (N := 12) hx hb hts hinX4 hown hK hP 1 rfl rfl 1 (by decide) (hts (.fieldLink RX6 50 "ChargeStages$State" "row" "LChargeStages$Battery;") (List.mem_of_getElem? (i := 2) rfl)) rfl dX6_setCharge_100 ?_
          refine g_get (ci := 0) (v := .ref (x 5)) (C := RX0) (T := TX0) (N := 8) hx hb hts hinX0 hown hK hP 3 rfl rfl 2 (by decide) (hts (.fieldLink RX6 82 "ChargeStages$Battery" "rest" "[I") (List.mem_of_getElem? (i := 5) rfl)) rfl dX6_setCharge_103 ?_
          refine lv_iload_n hx hb dX6_setCharge_106 rfl (lv_at hl 2 rfl) ?_
          refine lv_iconst (v := 0) hx hb dX6_setCharge_107 (by decide) ?_
          obtain ⟨k14, hok⟩ := hok
          obtain ⟨z13, ez13, hR⟩ := g_let hR
          refine g_st (n := 6) (f := (b 2)) (k := ((p1).toNatClampNeg)) (B2 := [CW G x cx, OW G (fun k => x (k + 1)) o, AW G (x 2) 9 st, BW G (fun k => x (k + 3)) (sF (sF b 1 z11) 2 z13), PW G (fun k => x (k + 11)) pf, LW G (fun k => x (k + 16)) g, HGW G (fun k => x (k + 58)) R9]) hx hb hK hP hD hS 5 rfl rfl k14 (by subst ez13; rfl) dX6_setCharge_108 (fun H locs hP hD hS => ?_)
          refine lv_iload_n hx hb dX6_setCharge_109 rfl (lv_at hl 0 rfl) ?_
          subst hR
          exact g_ret hx hb hr hlocks hS dX6_setCharge_110 rfl hP
        · rw [if_pos c8] at hR
          have hok := hok.1 c8
          refine lv_aload_n hx hb dX6_setCharge_54 rfl (lv_at hl 1 rfl) ?_
          refine g_get (ci := 6) (v := .ref (x 1)) (C := RX6) (T := TX6) (N := 7) hx hb hts hinX6 hown hK hP 0 rfl rfl 0 (by decide) (hts (.fieldLink RX6 10 "ChargeStages" "now" "LChargeStages$State;") (List.mem_of_getElem? (i := 1) rfl)) rfl dX6_setCharge_55 ?_
          refine g_get (ci := 4) (v := .ref (x 3)) (C := RX4) (T := TX4) (N := 12) hx hb hts hinX4 hown hK hP 1 rfl rfl 1 (by decide) (hts (.fieldLink RX6 50 "ChargeStages$State" "row" "LChargeStages$Battery;") (List.mem_of_getElem? (i := 2) rfl)) rfl dX6_setCharge_58 ?_
          refine g_get (ci := 0) (v := .ref (x 5)) (C := RX0) (T := TX0) (N := 8) hx hb hts hinX0 hown hK hP 3 rfl rfl 2 (by decide) (hts (.fieldLink RX6 82 "ChargeStages$Battery" "rest" "[I") (List.mem_of_getElem? (i := 5) rfl)) rfl dX6_setCharge_61 ?_
          refine lv_iload_n hx hb dX6_setCharge_64 rfl (lv_at hl 2 rfl) ?_
          obtain ⟨k15, hok⟩ := hok
          refine g_ld (n := 6) (f := (b 2)) (v := (b 2) ((p1).toNatClampNeg)) (k := ((p1).toNatClampNeg)) hx hb hK hP 5 rfl rfl k15 rfl dX6_setCharge_65 ?_
          refine lv_if_ne (tgt := 72) hx hb dX6_setCharge_66 (by decide) (fun c16 => ?_) (fun c16 => ?_)
          · rw [if_neg c16] at hR
            have hok := hok.2 c16
            refine lv_aload_n hx hb dX6_setCharge_72 rfl (lv_at hl 1 rfl) ?_
            refine g_get (ci := 6) (v := .ref (x 58)) (C := RX6) (T := TX6) (N := 7) hx hb hts hinX6 hown hK hP 0 rfl rfl 4 (by decide) (hts (.fieldLink RX6 29 "ChargeStages" "history" "LChargeStages$History;") (List.mem_of_getElem? (i := 6) rfl)) rfl dX6_setCharge_73 ?_
            refine lv_aload_n hx hb dX6_setCharge_76 rfl (lv_at hl 1 rfl) ?_
            refine g_get (ci := 6) (v := .ref (x 1)) (C := RX6) (T := TX6) (N := 7) hx hb hts hinX6 hown hK hP 0 rfl rfl 0 (by decide) (hts (.fieldLink RX6 10 "ChargeStages" "now" "LChargeStages$State;") (List.mem_of_getElem? (i := 1) rfl)) rfl dX6_setCharge_77 ?_
            obtain ⟨k18, hok⟩ := hok
            obtain ⟨R17, eR17, hR, hok⟩ := g_let2 hR hok
            refine g_callV (c_hadd l G (fun k => x (k + 58)) (fun k => x (k + 1)) o st b pf g hh R17 eR17 k18) hx hb hml hown hts hK hP hD hS hA gX6_setCharge_X1_add rfl (n := 1) (by decide +kernel) rfl ⟨Nat.le_of_ble_eq_true rfl, Nat.le_of_ble_eq_true rfl⟩ [1, 2, 3, 4, 5, 6] rfl (by decide) 20 rfl (ci := 1) rfl hl.1 rfl (Nat.le_of_ble_eq_true rfl) ⟨Nat.zero_le _, Nat.zero_le _⟩ dX6_setCharge_80 (fun H locs hP hD hS => ?_)
            have hP : va_P G.1 vwCl (List.flatten [CW G x cx, OW G (fun k => x (k + 1)) o, AW G (x 2) 9 st, BW G (fun k => x (k + 3)) b, PW G (fun k => x (k + 11)) pf, LW G (fun k => x (k + 16)) g, HGW G (fun k => x (k + 58)) R17]) H := hP
            have hD : va_D A (List.flatten [CW G x cx, OW G (fun k => x (k + 1)) o, AW G (x 2) 9 st, BW G (fun k => x (k + 3)) b, PW G (fun k => x (k + 11)) pf, LW G (fun k => x (k + 16)) g, HGW G (fun k => x (k + 58)) R17]) := hD
            refine lv_aload_n hx hb dX6_setCharge_83 rfl (lv_at hl 1 rfl) ?_
            refine g_get (ci := 6) (v := .ref (x 1)) (C := RX6) (T := TX6) (N := 7) hx hb hts hinX6 hown hK hP 0 rfl rfl 0 (by decide) (hts (.fieldLink RX6 10 "ChargeStages" "now" "LChargeStages$State;") (List.mem_of_getElem? (i := 1) rfl)) rfl dX6_setCharge_84 ?_
            refine g_get (ci := 4) (v := .ref (x 3)) (C := RX4) (T := TX4) (N := 12) hx hb hts hinX4 hown hK hP 1 rfl rfl 1 (by decide) (hts (.fieldLink RX6 50 "ChargeStages$State" "row" "LChargeStages$Battery;") (List.mem_of_getElem? (i := 2) rfl)) rfl dX6_setCharge_87 ?_
            refine g_get (ci := 0) (v := .ref (x 4)) (C := RX0) (T := TX0) (N := 8) hx hb hts hinX0 hown hK hP 3 rfl rfl 1 (by decide) (hts (.fieldLink RX6 79 "ChargeStages$Battery" "charge" "[I") (List.mem_of_getElem? (i := 4) rfl)) rfl dX6_setCharge_90 ?_
            refine lv_iload_n hx hb dX6_setCharge_93 rfl (lv_at hl 2 rfl) ?_
            refine lv_iload_n hx hb dX6_setCharge_94 rfl (lv_at hl 3 rfl) ?_
            obtain ⟨k20, hok⟩ := hok
            obtain ⟨z19, ez19, hR, hok⟩ := g_let2 hR hok
            refine g_st (n := 6) (f := (b 1)) (k := ((p1).toNatClampNeg)) (B2 := [CW G x cx, OW G (fun k => x (k + 1)) o, AW G (x 2) 9 st, BW G (fun k => x (k + 3)) (sF b 1 z19), PW G (fun k => x (k + 11)) pf, LW G (fun k => x (k + 16)) g, HGW G (fun k => x (k + 58)) R17]) hx hb hK hP hD hS 4 rfl rfl k20 (by subst ez19; rfl) dX6_setCharge_95 (fun H locs hP hD hS => ?_)
            refine lv_aload_n hx hb dX6_setCharge_96 rfl (lv_at hl 1 rfl) ?_
            refine g_get (ci := 6) (v := .ref (x 1)) (C := RX6) (T := TX6) (N := 7) hx hb hts hinX6 hown hK hP 0 rfl rfl 0 (by decide) (hts (.fieldLink RX6 10 "ChargeStages" "now" "LChargeStages$State;") (List.mem_of_getElem? (i := 1) rfl)) rfl dX6_setCharge_97 ?_
            refine g_get (ci := 4) (v := .ref (x 3)) (C := RX4) (T := TX4) (N := 12) hx hb hts hinX4 hown hK hP 1 rfl rfl 1 (by decide) (hts (.fieldLink RX6 50 "ChargeStages$State" "row" "LChargeStages$Battery;") (List.mem_of_getElem? (i := 2) rfl)) rfl dX6_setCharge_100 ?_
            refine g_get (ci := 0) (v := .ref (x 5)) (C := RX0) (T := TX0) (N := 8) hx hb hts hinX0 hown hK hP 3 rfl rfl 2 (by decide) (hts (.fieldLink RX6 82 "ChargeStages$Battery" "rest" "[I") (List.mem_of_getElem? (i := 5) rfl)) rfl dX6_setCharge_103 ?_
            refine lv_iload_n hx hb dX6_setCharge_106 rfl (lv_at hl 2 rfl) ?_
            refine lv_iconst (v := 0) hx hb dX6_setCharge_107 (by decide) ?_
            obtain ⟨k22, hok⟩ := hok
            obtain ⟨z21, ez21, hR⟩ := g_let hR
            refine g_st (n := 6) (f := (b 2)) (k := ((p1).toNatClampNeg)) (B2 := [CW G x cx, OW G (fun k => x (k + 1)) o, AW G (x 2) 9 st, BW G (fun k => x (k + 3)) (sF (sF b 1 z19) 2 z21), PW G (fun k => x (k + 11)) pf, LW G (fun k => x (k + 16)) g, HGW G (fun k => x (k + 58)) R17]) hx hb hK hP hD hS 5 rfl rfl k22 (by subst ez21; rfl) dX6_setCharge_108 (fun H locs hP hD hS => ?_)
            refine lv_iload_n hx hb dX6_setCharge_109 rfl (lv_at hl 0 rfl) ?_
            subst hR
            exact g_ret hx hb hr hlocks hS dX6_setCharge_110 rfl hP
          · rw [if_pos c16] at hR
            have hok := hok.1 c16
            refine lv_bipush (v := (-5)) hx hb dX6_setCharge_69 (by decide) ?_
            subst hR
            exact g_ret hx hb hr hlocks hS dX6_setCharge_71 rfl hP
      · rw [if_neg c5] at hR
        have hok := hok.2 c5
        refine lv_bipush (v := (-2)) hx hb dX6_setCharge_33 (by decide) ?_
        subst hR
        exact g_ret hx hb hr hlocks hS dX6_setCharge_35 rfl hP
  · rw [if_pos c3] at hR
    have hok := hok.1 c3
    refine lv_iconst (v := (-1)) hx hb dX6_setCharge_14 (by decide) ?_
    subst hR
    exact g_ret hx hb hr hlocks hS dX6_setCharge_15 rfl hP
def f_X6_use (o : (Nat → Int32)) (st : (Nat → Int32)) (b : (Nat → Nat → Int32)) (pf : (Nat → Nat → Int32)) (g : (Nat → Nat → Int32)) (hh : HVal) (p1 : Int32) : Int32 × (Nat → Nat → Int32) × HVal := (if p1 < 1 then ((-2), b, hh) else (if p1 ≤ 5000 then (if (o 0) = 1 then ((-4), b, hh) else (gL (f_X0_leastCharge b) (fun (R4 : Int32) => (if p1 ≤ R4 then (gL (f_hadd o st b pf g hh) (fun (R7 : HVal) => (gL (f_X0_draw b p1) (fun (R9 : (Nat → Nat → Int32)) => (gL (f_X0_leastCharge R9) (fun (R11 : Int32) => (R11, R9, R7))))))) else ((-4), b, hh))))) else ((-2), b, hh)))
def ok_X6_use (o : (Nat → Int32)) (st : (Nat → Int32)) (b : (Nat → Nat → Int32)) (pf : (Nat → Nat → Int32)) (g : (Nat → Nat → Int32)) (hh : HVal) (p1 : Int32) : Prop := ((p1 < 1 → True) ∧ (¬ p1 < 1 → ((p1 ≤ 5000 → (((o 0) = 1 → True) ∧ (¬ (o 0) = 1 → (ok_X0_leastCharge b) ∧ (gL (f_X0_leastCharge b) (fun (R4 : Int32) => ((p1 ≤ R4 → (ok_hadd o hh) ∧ (gL (f_hadd o st b pf g hh) (fun (R7 : HVal) => (ok_X0_draw b p1) ∧ (gL (f_X0_draw b p1) (fun (R9 : (Nat → Nat → Int32)) => (ok_X0_leastCharge R9) ∧ True))))) ∧ (¬ p1 ≤ R4 → True))))))) ∧ (¬ p1 ≤ 5000 → True))))
set_option maxHeartbeats 4000000 in
set_option maxRecDepth 100000 in
theorem c_X6_use (l : Launch) (G : gG) (x : Nat → Nat) (cx : (Nat → Int32)) (o : (Nat → Int32)) (st : (Nat → Int32)) (b : (Nat → Nat → Int32)) (pf : (Nat → Nat → Int32)) (g : (Nat → Nat → Int32)) (hh : HVal) (p1 : Int32) (R : Int32 × (Nat → Nat → Int32) × HVal) (hR : R = f_X6_use o st b pf g hh p1) (hok : ok_X6_use o st b pf g hh p1) : CT l G yX6_use wsX6_use 4 81 [.ref (x 0), .int p1] [CW G x cx, OW G (fun k => x (k + 1)) o, AW G (x 2) 9 st, BW G (fun k => x (k + 3)) b, PW G (fun k => x (k + 11)) pf, LW G (fun k => x (k + 16)) g, HGW G (fun k => x (k + 58)) hh] (some (.int R.1)) [CW G x cx, OW G (fun k => x (k + 1)) o, AW G (x 2) 9 st, BW G (fun k => x (k + 3)) R.2.1, PW G (fun k => x (k + 11)) pf, LW G (fun k => x (k + 16)) g, HGW G (fun k => x (k + 58)) R.2.2] := by
  unfold f_X6_use at hR
  unfold ok_X6_use at hok
  refine CT.of (cc := cX6_use) (maxL := 2) (ret := (some .int)) (plainFor_of_name (by decide +kernel)) rfl rfl (Nat.le_of_ble_eq_true rfl) ?_
  intro p e s m below meth c A ls hx hb hml hr hts hown hlocks hK hP hD hA hS hl
  have hown : s.vm.findClass RX6 = some m.cls := hown
  have hl : lv_has ls 2 [(0, .ref (x 0)), (1, .int p1)] := hl
  have hinX4 : ∀ w ∈ wsX40, w ∈ wsX6_use := fun w h => List.mem_cons_of_mem _ (List.mem_append_left _ (List.mem_append_left _ (List.mem_append_left _ (List.mem_append_left _ (List.mem_append_right _ h)))))
  have hinX6 : ∀ w ∈ wsX60, w ∈ wsX6_use := fun w h => List.mem_cons_of_mem _ (List.mem_append_left _ (List.mem_append_left _ (List.mem_append_left _ (List.mem_append_left _ (List.mem_append_left _ (List.mem_append_right _ h))))))
  refine lv_iload_n hx hb dX6_use_0 rfl (lv_at hl 1 rfl) ?_
  refine lv_iconst (v := 1) hx hb dX6_use_1 (by decide) ?_
  refine lv_icmp_lt (tgt := 12) hx hb dX6_use_2 (by decide) (fun c1 => ?_) (fun c1 => ?_)
  · rw [if_pos c1] at hR
    have hok := hok.1 c1
    refine lv_bipush (v := (-2)) hx hb dX6_use_12 (by decide) ?_
    subst hR
    exact g_ret hx hb hr hlocks hS dX6_use_14 rfl hP
  · rw [if_neg c1] at hR
    have hok := hok.2 c1
    refine lv_iload_n hx hb dX6_use_5 rfl (lv_at hl 1 rfl) ?_
    refine lv_sipush (v := 5000) hx hb dX6_use_6 (by decide) ?_
    refine lv_icmp_le (tgt := 15) hx hb dX6_use_9 (by decide) (fun c2 => ?_) (fun c2 => ?_)
    · rw [if_pos c2] at hR
      have hok := hok.1 c2
      refine lv_aload_n hx hb dX6_use_15 rfl (lv_at hl 0 rfl) ?_
      refine g_get (ci := 6) (v := .ref (x 1)) (C := RX6) (T := TX6) (N := 7) hx hb hts hinX6 hown hK hP 0 rfl rfl 0 (by decide) (hts (.fieldLink RX6 10 "ChargeStages" "now" "LChargeStages$State;") (List.mem_of_getElem? (i := 1) rfl)) rfl dX6_use_16 ?_
      refine g_get (ci := 4) (v := .int (o 0)) (C := RX4) (T := TX4) (N := 12) hx hb hts hinX4 hown hK hP 1 rfl rfl 4 (by decide) (hts (.fieldLink RX6 68 "ChargeStages$State" "mode" "I") (List.mem_of_getElem? (i := 2) rfl)) rfl dX6_use_19 ?_
      refine lv_iconst (v := 1) hx hb dX6_use_22 (by decide) ?_
      refine lv_icmp_eq (tgt := 40) hx hb dX6_use_23 (by decide) (fun c3 => ?_) (fun c3 => ?_)
      · rw [if_pos c3] at hR
        have hok := hok.1 c3
        refine lv_bipush (v := (-4)) hx hb dX6_use_40 (by decide) ?_
        subst hR
        exact g_ret hx hb hr hlocks hS dX6_use_42 rfl hP
      · rw [if_neg c3] at hR
        have hok := hok.2 c3
        refine lv_aload_n hx hb dX6_use_26 rfl (lv_at hl 0 rfl) ?_
        refine g_get (ci := 6) (v := .ref (x 1)) (C := RX6) (T := TX6) (N := 7) hx hb hts hinX6 hown hK hP 0 rfl rfl 0 (by decide) (hts (.fieldLink RX6 10 "ChargeStages" "now" "LChargeStages$State;") (List.mem_of_getElem? (i := 1) rfl)) rfl dX6_use_27 ?_
        refine g_get (ci := 4) (v := .ref (x 3)) (C := RX4) (T := TX4) (N := 12) hx hb hts hinX4 hown hK hP 1 rfl rfl 1 (by decide) (hts (.fieldLink RX6 50 "ChargeStages$State" "row" "LChargeStages$Battery;") (List.mem_of_getElem? (i := 3) rfl)) rfl dX6_use_30 ?_
        obtain ⟨k5, hok⟩ := hok
        obtain ⟨R4, eR4, hR, hok⟩ := g_let2 hR hok
        refine g_callV (c_X0_leastCharge l G (fun k => x (k + 3)) b R4 eR4 k5) hx hb hml hown hts hK hP hD hS hA gX6_use_X0_leastCharge rfl (n := 0) (by decide +kernel) rfl ⟨Nat.le_of_ble_eq_true rfl, Nat.le_of_ble_eq_true rfl⟩ [3] rfl (by decide) 3 rfl (ci := 0) rfl hl.1 rfl (Nat.le_of_ble_eq_true rfl) ⟨Nat.zero_le _, Nat.zero_le _⟩ dX6_use_33 (fun H locs hP hD hS => ?_)
        have hP : va_P G.1 vwCl (List.flatten [CW G x cx, OW G (fun k => x (k + 1)) o, AW G (x 2) 9 st, BW G (fun k => x (k + 3)) b, PW G (fun k => x (k + 11)) pf, LW G (fun k => x (k + 16)) g, HGW G (fun k => x (k + 58)) hh]) H := hP
        have hD : va_D A (List.flatten [CW G x cx, OW G (fun k => x (k + 1)) o, AW G (x 2) 9 st, BW G (fun k => x (k + 3)) b, PW G (fun k => x (k + 11)) pf, LW G (fun k => x (k + 16)) g, HGW G (fun k => x (k + 58)) hh]) := hD
        refine lv_iload_n hx hb dX6_use_36 rfl (lv_at hl 1 rfl) ?_
        refine lv_icmp_ge (tgt := 43) hx hb dX6_use_37 (by decide) (fun c6 => ?_) (fun c6 => ?_)
        · rw [if_pos c6] at hR
          have hok := hok.1 c6
          refine lv_aload_n hx hb dX6_use_43 rfl (lv_at hl 0 rfl) ?_
          refine g_get (ci := 6) (v := .ref (x 58)) (C := RX6) (T := TX6) (N := 7) hx hb hts hinX6 hown hK hP 0 rfl rfl 4 (by decide) (hts (.fieldLink RX6 29 "ChargeStages" "history" "LChargeStages$History;") (List.mem_of_getElem? (i := 4) rfl)) rfl dX6_use_44 ?_
          refine lv_aload_n hx hb dX6_use_47 rfl (lv_at hl 0 rfl) ?_
          refine g_get (ci := 6) (v := .ref (x 1)) (C := RX6) (T := TX6) (N := 7) hx hb hts hinX6 hown hK hP 0 rfl rfl 0 (by decide) (hts (.fieldLink RX6 10 "ChargeStages" "now" "LChargeStages$State;") (List.mem_of_getElem? (i := 1) rfl)) rfl dX6_use_48 ?_
          obtain ⟨k8, hok⟩ := hok
          obtain ⟨R7, eR7, hR, hok⟩ := g_let2 hR hok
          refine g_callV (c_hadd l G (fun k => x (k + 58)) (fun k => x (k + 1)) o st b pf g hh R7 eR7 k8) hx hb hml hown hts hK hP hD hS hA gX6_use_X1_add rfl (n := 1) (by decide +kernel) rfl ⟨Nat.le_of_ble_eq_true rfl, Nat.le_of_ble_eq_true rfl⟩ [1, 2, 3, 4, 5, 6] rfl (by decide) 20 rfl (ci := 1) rfl hl.1 rfl (Nat.le_of_ble_eq_true rfl) ⟨Nat.zero_le _, Nat.zero_le _⟩ dX6_use_51 (fun H locs hP hD hS => ?_)
          have hP : va_P G.1 vwCl (List.flatten [CW G x cx, OW G (fun k => x (k + 1)) o, AW G (x 2) 9 st, BW G (fun k => x (k + 3)) b, PW G (fun k => x (k + 11)) pf, LW G (fun k => x (k + 16)) g, HGW G (fun k => x (k + 58)) R7]) H := hP
          have hD : va_D A (List.flatten [CW G x cx, OW G (fun k => x (k + 1)) o, AW G (x 2) 9 st, BW G (fun k => x (k + 3)) b, PW G (fun k => x (k + 11)) pf, LW G (fun k => x (k + 16)) g, HGW G (fun k => x (k + 58)) R7]) := hD
          refine lv_aload_n hx hb dX6_use_54 rfl (lv_at hl 0 rfl) ?_
          refine g_get (ci := 6) (v := .ref (x 1)) (C := RX6) (T := TX6) (N := 7) hx hb hts hinX6 hown hK hP 0 rfl rfl 0 (by decide) (hts (.fieldLink RX6 10 "ChargeStages" "now" "LChargeStages$State;") (List.mem_of_getElem? (i := 1) rfl)) rfl dX6_use_55 ?_
          refine g_get (ci := 4) (v := .ref (x 3)) (C := RX4) (T := TX4) (N := 12) hx hb hts hinX4 hown hK hP 1 rfl rfl 1 (by decide) (hts (.fieldLink RX6 50 "ChargeStages$State" "row" "LChargeStages$Battery;") (List.mem_of_getElem? (i := 3) rfl)) rfl dX6_use_58 ?_
          refine lv_iload_n hx hb dX6_use_61 rfl (lv_at hl 1 rfl) ?_
          obtain ⟨k10, hok⟩ := hok
          obtain ⟨R9, eR9, hR, hok⟩ := g_let2 hR hok
          refine g_callV (c_X0_draw l G (fun k => x (k + 3)) b p1 R9 eR9 k10) hx hb hml hown hts hK hP hD hS hA gX6_use_X0_draw rfl (n := 1) (by decide +kernel) rfl ⟨Nat.le_of_ble_eq_true rfl, Nat.le_of_ble_eq_true rfl⟩ [3] rfl (by decide) 3 rfl (ci := 0) rfl hl.1 rfl (Nat.le_of_ble_eq_true rfl) ⟨Nat.zero_le _, Nat.zero_le _⟩ dX6_use_62 (fun H locs hP hD hS => ?_)
          have hP : va_P G.1 vwCl (List.flatten [CW G x cx, OW G (fun k => x (k + 1)) o, AW G (x 2) 9 st, BW G (fun k => x (k + 3)) R9, PW G (fun k => x (k + 11)) pf, LW G (fun k => x (k + 16)) g, HGW G (fun k => x (k + 58)) R7]) H := hP
          have hD : va_D A (List.flatten [CW G x cx, OW G (fun k => x (k + 1)) o, AW G (x 2) 9 st, BW G (fun k => x (k + 3)) R9, PW G (fun k => x (k + 11)) pf, LW G (fun k => x (k + 16)) g, HGW G (fun k => x (k + 58)) R7]) := hD
          refine lv_aload_n hx hb dX6_use_65 rfl (lv_at hl 0 rfl) ?_
          refine g_get (ci := 6) (v := .ref (x 1)) (C := RX6) (T := TX6) (N := 7) hx hb hts hinX6 hown hK hP 0 rfl rfl 0 (by decide) (hts (.fieldLink RX6 10 "ChargeStages" "now" "LChargeStages$State;") (List.mem_of_getElem? (i := 1) rfl)) rfl dX6_use_66 ?_
          refine g_get (ci := 4) (v := .ref (x 3)) (C := RX4) (T := TX4) (N := 12) hx hb hts hinX4 hown hK hP 1 rfl rfl 1 (by decide) (hts (.fieldLink RX6 50 "ChargeStages$State" "row" "LChargeStages$Battery;") (List.mem_of_getElem? (i := 3) rfl)) rfl dX6_use_69 ?_
          obtain ⟨k12, hok⟩ := hok
          obtain ⟨R11, eR11, hR⟩ := g_let hR
          refine g_callV (c_X0_leastCharge l G (fun k => x (k + 3)) R9 R11 eR11 k12) hx hb hml hown hts hK hP hD hS hA gX6_use_X0_leastCharge rfl (n := 0) (by decide +kernel) rfl ⟨Nat.le_of_ble_eq_true rfl, Nat.le_of_ble_eq_true rfl⟩ [3] rfl (by decide) 3 rfl (ci := 0) rfl hl.1 rfl (Nat.le_of_ble_eq_true rfl) ⟨Nat.zero_le _, Nat.zero_le _⟩ dX6_use_72 (fun H locs hP hD hS => ?_)
          have hP : va_P G.1 vwCl (List.flatten [CW G x cx, OW G (fun k => x (k + 1)) o, AW G (x 2) 9 st, BW G (fun k => x (k + 3)) R9, PW G (fun k => x (k + 11)) pf, LW G (fun k => x (k + 16)) g, HGW G (fun k => x (k + 58)) R7]) H := hP
          have hD : va_D A (List.flatten [CW G x cx, OW G (fun k => x (k + 1)) o, AW G (x 2) 9 st, BW G (fun k => x (k + 3)) R9, PW G (fun k => x (k + 11)) pf, LW G (fun k => x (k + 16)) g, HGW G (fun k => x (k + 58)) R7]) := hD
          subst hR
          exact g_ret hx hb hr hlocks hS dX6_use_75 rfl hP
        · rw [if_neg c6] at hR
          have hok := hok.2 c6
          refine lv_bipush (v := (-4)) hx hb dX6_use_40 (by decide) ?_
          subst hR
          exact g_ret hx hb hr hlocks hS dX6_use_42 rfl hP
    · rw [if_neg c2] at hR
      have hok := hok.2 c2
      refine lv_bipush (v := (-2)) hx hb dX6_use_12 (by decide) ?_
      subst hR
      exact g_ret hx hb hr hlocks hS dX6_use_14 rfl hP
def f_X6_set (o : (Nat → Int32)) (st : (Nat → Int32)) (b : (Nat → Nat → Int32)) (pf : (Nat → Nat → Int32)) (g : (Nat → Nat → Int32)) (hh : HVal) (p1 : Int32) (p2 : Int32) : Int32 × (Nat → Int32) × HVal := (gL (f_X6_isSetting p1) (fun (R1 : Int32) => (if R1 = 0 then ((-1), st, hh) else (if p2 < (cLeast (p1).toNatClampNeg) then ((-2), st, hh) else (if p2 ≤ (cMost (p1).toNatClampNeg) then (gL (f_X4_allows st b p1 p2) (fun (R8 : Int32) => (if R8 = 0 then ((-4), st, hh) else (gL (st ((p1).toNatClampNeg)) (fun (v12 : Int32) => (if v12 = p2 then ((-5), st, hh) else (gL (f_hadd o st b pf g hh) (fun (R14 : HVal) => (gL (upd st ((p1).toNatClampNeg) p2) (fun (z16 : (Nat → Int32)) => ((v12 + 1000), z16, R14))))))))))) else ((-2), st, hh))))))
def ok_X6_set (o : (Nat → Int32)) (st : (Nat → Int32)) (b : (Nat → Nat → Int32)) (pf : (Nat → Nat → Int32)) (g : (Nat → Nat → Int32)) (hh : HVal) (p1 : Int32) (p2 : Int32) : Prop := (gL (f_X6_isSetting p1) (fun (R1 : Int32) => ((R1 = 0 → True) ∧ (¬ R1 = 0 → (vp_in p1 9) ∧ ((p2 < (cLeast (p1).toNatClampNeg) → True) ∧ (¬ p2 < (cLeast (p1).toNatClampNeg) → (vp_in p1 9) ∧ ((p2 ≤ (cMost (p1).toNatClampNeg) → (ok_X4_allows b p1) ∧ (gL (f_X4_allows st b p1 p2) (fun (R8 : Int32) => ((R8 = 0 → True) ∧ (¬ R8 = 0 → (vp_in p1 9) ∧ (gL (st ((p1).toNatClampNeg)) (fun (v12 : Int32) => ((v12 = p2 → True) ∧ (¬ v12 = p2 → (ok_hadd o hh) ∧ (gL (f_hadd o st b pf g hh) (fun (R14 : HVal) => (vp_in p1 9) ∧ True))))))))))) ∧ (¬ p2 ≤ (cMost (p1).toNatClampNeg) → True))))))))
set_option maxHeartbeats 4000000 in
set_option maxRecDepth 100000 in
theorem c_X6_set (l : Launch) (G : gG) (z : Nat × Nat × Nat) (x : Nat → Nat) (cx : (Nat → Int32)) (o : (Nat → Int32)) (st : (Nat → Int32)) (b : (Nat → Nat → Int32)) (pf : (Nat → Nat → Int32)) (g : (Nat → Nat → Int32)) (hh : HVal) (p1 : Int32) (p2 : Int32) (R : Int32 × (Nat → Int32) × HVal) (hR : R = f_X6_set o st b pf g hh p1 p2) (hok : ok_X6_set o st b pf g hh p1 p2) : CTZ z l G yX6_set wsX6_set 4 81 [.ref (x 0), .int p1, .int p2] [CW G x cx, OW G (fun k => x (k + 1)) o, AW G (x 2) 9 st, BW G (fun k => x (k + 3)) b, PW G (fun k => x (k + 11)) pf, LW G (fun k => x (k + 16)) g, HGW G (fun k => x (k + 58)) hh] (some (.int R.1)) [CW G x cx, OW G (fun k => x (k + 1)) o, AW G (x 2) 9 R.2.1, BW G (fun k => x (k + 3)) b, PW G (fun k => x (k + 11)) pf, LW G (fun k => x (k + 16)) g, HGW G (fun k => x (k + 58)) R.2.2] := by
  unfold f_X6_set at hR
  unfold ok_X6_set at hok
  refine CTZ.of (cc := cX6_set) (maxL := 4) (ret := (some .int)) (plainFor_of_name (by decide +kernel)) rfl rfl (Nat.le_of_ble_eq_true rfl) ?_
  intro p e s m below meth c A ls hx hb hml hr hts hown hlocks hK hP hD hA hS hl hZ
  have hown : s.vm.findClass RX6 = some m.cls := hown
  have hl : lv_has ls 4 [(0, .ref (x 0)), (1, .int p1), (2, .int p2)] := hl
  have hinX4 : ∀ w ∈ wsX40, w ∈ wsX6_set := fun w h => List.mem_cons_of_mem _ (List.mem_append_left _ (List.mem_append_left _ (List.mem_append_left _ (List.mem_append_left _ (List.mem_append_right _ h)))))
  have hinX6 : ∀ w ∈ wsX60, w ∈ wsX6_set := fun w h => List.mem_cons_of_mem _ (List.mem_append_left _ (List.mem_append_left _ (List.mem_append_left _ (List.mem_append_left _ (List.mem_append_left _ (List.mem_append_right _ h))))))
  refine lv_iload_n hx hb dX6_set_0 rfl (lv_at hl 1 rfl) ?_
  obtain ⟨R1, eR1, hR, hok⟩ := g_let2 hR hok
  refine g_callS (c_X6_isSetting l G p1 R1 eR1) hx hb hml hown hts hK hP hD hS hA gX6_set_X6_isSetting rfl (n := 1) (by decide +kernel) rfl ⟨Nat.le_of_ble_eq_true rfl, Nat.le_of_ble_eq_true rfl⟩ [] rfl (by decide) hl.1 rfl (Nat.le_of_ble_eq_true rfl) ⟨Nat.zero_le _, Nat.zero_le _⟩ dX6_set_1 (fun H locs hP hD hS => ?_)
  have hP : va_P G.1 vwCl (List.flatten [CW G x cx, OW G (fun k => x (k + 1)) o, AW G (x 2) 9 st, BW G (fun k => x (k + 3)) b, PW G (fun k => x (k + 11)) pf, LW G (fun k => x (k + 16)) g, HGW G (fun k => x (k + 58)) hh]) H := hP
  have hD : va_D A (List.flatten [CW G x cx, OW G (fun k => x (k + 1)) o, AW G (x 2) 9 st, BW G (fun k => x (k + 3)) b, PW G (fun k => x (k + 11)) pf, LW G (fun k => x (k + 16)) g, HGW G (fun k => x (k + 58)) hh]) := hD
  refine lv_if_ne (tgt := 9) hx hb dX6_set_4 (by decide) (fun c3 => ?_) (fun c3 => ?_)
  · rw [if_neg c3] at hR
    have hok := hok.2 c3
    refine lv_iload_n hx hb dX6_set_9 rfl (lv_at hl 2 rfl) ?_
    refine va_gets hx hb hZ.1 hS hown (hts (.fieldLink RX6 95 "ChargeStages" "SETTING_LEAST" "[I") (List.mem_of_getElem? (i := 1) rfl)) (fun _ h => h) dX6_set_10 ?_
    refine lv_iload_n hx hb dX6_set_13 rfl (lv_at hl 1 rfl) ?_
    obtain ⟨k4, hok⟩ := hok
    refine va_ti (v := .int (cLeast (p1).toNatClampNeg)) hx hb hZ.2.2.2.1 hS k4 rfl dX6_set_14 ?_
    refine lv_icmp_lt (tgt := 27) hx hb dX6_set_15 (by decide) (fun c5 => ?_) (fun c5 => ?_)
    · rw [if_pos c5] at hR
      have hok := hok.1 c5
      refine lv_bipush (v := (-2)) hx hb dX6_set_27 (by decide) ?_
      subst hR
      exact g_ret hx hb hr hlocks hS dX6_set_29 rfl hP
    · rw [if_neg c5] at hR
      have hok := hok.2 c5
      refine lv_iload_n hx hb dX6_set_18 rfl (lv_at hl 2 rfl) ?_
      refine va_gets hx hb hZ.2.1 hS hown (hts (.fieldLink RX6 98 "ChargeStages" "SETTING_MOST" "[I") (List.mem_of_getElem? (i := 2) rfl)) (fun _ h => h) dX6_set_19 ?_
      refine lv_iload_n hx hb dX6_set_22 rfl (lv_at hl 1 rfl) ?_
      obtain ⟨k6, hok⟩ := hok
      refine va_ti (v := .int (cMost (p1).toNatClampNeg)) hx hb hZ.2.2.2.2.1 hS k6 rfl dX6_set_23 ?_
      refine lv_icmp_le (tgt := 30) hx hb dX6_set_24 (by decide) (fun c7 => ?_) (fun c7 => ?_)
      · rw [if_pos c7] at hR
        have hok := hok.1 c7
        refine lv_aload_n hx hb dX6_set_30 rfl (lv_at hl 0 rfl) ?_
        refine g_get (ci := 6) (v := .ref (x 1)) (C := RX6) (T := TX6) (N := 7) hx hb hts hinX6 hown hK hP 0 rfl rfl 0 (by decide) (hts (.fieldLink RX6 10 "ChargeStages" "now" "LChargeStages$State;") (List.mem_of_getElem? (i := 3) rfl)) rfl dX6_set_31 ?_
        refine lv_iload_n hx hb dX6_set_34 rfl (lv_at hl 1 rfl) ?_
        refine lv_iload_n hx hb dX6_set_35 rfl (lv_at hl 2 rfl) ?_
        obtain ⟨k9, hok⟩ := hok
        obtain ⟨R8, eR8, hR, hok⟩ := g_let2 hR hok
        refine g_callV (c_X4_allows l G (fun k => x (k + 1)) o st b p1 p2 R8 eR8 k9) hx hb hml hown hts hK hP hD hS hA gX6_set_X4_allows rfl (n := 2) (by decide +kernel) rfl ⟨Nat.le_of_ble_eq_true rfl, Nat.le_of_ble_eq_true rfl⟩ [1, 2, 3] rfl (by decide) 1 rfl (ci := 4) rfl hl.1 rfl (Nat.le_of_ble_eq_true rfl) ⟨Nat.zero_le _, Nat.zero_le _⟩ dX6_set_36 (fun H locs hP hD hS => ?_)
        have hP : va_P G.1 vwCl (List.flatten [CW G x cx, OW G (fun k => x (k + 1)) o, AW G (x 2) 9 st, BW G (fun k => x (k + 3)) b, PW G (fun k => x (k + 11)) pf, LW G (fun k => x (k + 16)) g, HGW G (fun k => x (k + 58)) hh]) H := hP
        have hD : va_D A (List.flatten [CW G x cx, OW G (fun k => x (k + 1)) o, AW G (x 2) 9 st, BW G (fun k => x (k + 3)) b, PW G (fun k => x (k + 11)) pf, LW G (fun k => x (k + 16)) g, HGW G (fun k => x (k + 58)) hh]) := hD
        refine lv_if_ne (tgt := 45) hx hb dX6_set_39 (by decide) (fun c10 => ?_) (fun c10 => ?_)
        · rw [if_neg c10] at hR
          have hok := hok.2 c10
          refine lv_aload_n hx hb dX6_set_45 rfl (lv_at hl 0 rfl) ?_
          refine g_get (ci := 6) (v := .ref (x 1)) (C := RX6) (T := TX6) (N := 7) hx hb hts hinX6 hown hK hP 0 rfl rfl 0 (by decide) (hts (.fieldLink RX6 10 "ChargeStages" "now" "LChargeStages$State;") (List.mem_of_getElem? (i := 3) rfl)) rfl dX6_set_46 ?_
          refine g_get (ci := 4) (v := .ref (x 2)) (C := RX4) (T := TX4) (N := 12) hx hb hts hinX4 hown hK hP 1 rfl rfl 0 (by decide) (hts (.fieldLink RX6 75 "ChargeStages$State" "settings" "[I") (List.mem_of_getElem? (i := 4) rfl)) rfl dX6_set_49 ?_
          refine lv_iload_n hx hb dX6_set_52 rfl (lv_at hl 1 rfl) ?_
          obtain ⟨k11, hok⟩ := hok
          refine g_ld (n := 9) (f := st) (v := st ((p1).toNatClampNeg)) (k := ((p1).toNatClampNeg)) hx hb hK hP 2 rfl rfl k11 rfl dX6_set_53 ?_
          obtain ⟨v12, ev12, hR, hok⟩ := g_let2 hR hok
          refine g_topE ev12.symm ?_
          refine lv_istore_n (lv' := [(3, .int v12), (0, .ref (x 0)), (1, .int p1), (2, .int p2)]) hx hb dX6_set_54 rfl hl (by decide) rfl (fun ls hl => ?_)
          refine lv_iload_n hx hb dX6_set_55 rfl (lv_at hl 0 rfl) ?_
          refine lv_iload_n hx hb dX6_set_56 rfl (lv_at hl 3 rfl) ?_
          refine lv_icmp_ne (tgt := 63) hx hb dX6_set_57 (by decide) (fun c13 => ?_) (fun c13 => ?_)
          · rw [if_neg c13] at hR
            have hok := hok.2 c13
            refine lv_aload_n hx hb dX6_set_63 rfl (lv_at hl 1 rfl) ?_
            refine g_get (ci := 6) (v := .ref (x 58)) (C := RX6) (T := TX6) (N := 7) hx hb hts hinX6 hown hK hP 0 rfl rfl 4 (by decide) (hts (.fieldLink RX6 29 "ChargeStages" "history" "LChargeStages$History;") (List.mem_of_getElem? (i := 5) rfl)) rfl dX6_set_64 ?_
            refine lv_aload_n hx hb dX6_set_67 rfl (lv_at hl 1 rfl) ?_
            refine g_get (ci := 6) (v := .ref (x 1)) (C := RX6) (T := TX6) (N := 7) hx hb hts hinX6 hown hK hP 0 rfl rfl 0 (by decide) (hts (.fieldLink RX6 10 "ChargeStages" "now" "LChargeStages$State;") (List.mem_of_getElem? (i := 3) rfl)) rfl dX6_set_68 ?_
            obtain ⟨k15, hok⟩ := hok
            obtain ⟨R14, eR14, hR, hok⟩ := g_let2 hR hok
            refine g_callV (c_hadd l G (fun k => x (k + 58)) (fun k => x (k + 1)) o st b pf g hh R14 eR14 k15) hx hb hml hown hts hK hP hD hS hA gX6_set_X1_add rfl (n := 1) (by decide +kernel) rfl ⟨Nat.le_of_ble_eq_true rfl, Nat.le_of_ble_eq_true rfl⟩ [1, 2, 3, 4, 5, 6] rfl (by decide) 20 rfl (ci := 1) rfl hl.1 rfl (Nat.le_of_ble_eq_true rfl) ⟨Nat.zero_le _, Nat.zero_le _⟩ dX6_set_71 (fun H locs hP hD hS => ?_)
            have hP : va_P G.1 vwCl (List.flatten [CW G x cx, OW G (fun k => x (k + 1)) o, AW G (x 2) 9 st, BW G (fun k => x (k + 3)) b, PW G (fun k => x (k + 11)) pf, LW G (fun k => x (k + 16)) g, HGW G (fun k => x (k + 58)) R14]) H := hP
            have hD : va_D A (List.flatten [CW G x cx, OW G (fun k => x (k + 1)) o, AW G (x 2) 9 st, BW G (fun k => x (k + 3)) b, PW G (fun k => x (k + 11)) pf, LW G (fun k => x (k + 16)) g, HGW G (fun k => x (k + 58)) R14]) := hD
            refine lv_aload_n hx hb dX6_set_74 rfl (lv_at hl 1 rfl) ?_
            refine g_get (ci := 6) (v := .ref (x 1)) (C := RX6) (T := TX6) (N := 7) hx hb hts hinX6 hown hK hP 0 rfl rfl 0 (by decide) (hts (.fieldLink RX6 10 "ChargeStages" "now" "LChargeStages$State;") (List.mem_of_getElem? (i := 3) rfl)) rfl dX6_set_75 ?_
            refine g_get (ci := 4) (v := .ref (x 2)) (C := RX4) (T := TX4) (N := 12) hx hb hts hinX4 hown hK hP 1 rfl rfl 0 (by decide) (hts (.fieldLink RX6 75 "ChargeStages$State" "settings" "[I") (List.mem_of_getElem? (i := 4) rfl)) rfl dX6_set_78 ?_
            refine lv_iload_n hx hb dX6_set_81 rfl (lv_at hl 2 rfl) ?_
            refine lv_iload_n hx hb dX6_set_82 rfl (lv_at hl 3 rfl) ?_
            obtain ⟨k17, hok⟩ := hok
            obtain ⟨z16, ez16, hR⟩ := g_let hR
            refine g_st (n := 9) (f := st) (k := ((p1).toNatClampNeg)) (B2 := [CW G x cx, OW G (fun k => x (k + 1)) o, AW G (x 2) 9 z16, BW G (fun k => x (k + 3)) b, PW G (fun k => x (k + 11)) pf, LW G (fun k => x (k + 16)) g, HGW G (fun k => x (k + 58)) R14]) hx hb hK hP hD hS 2 rfl rfl k17 (by subst ez16; rfl) dX6_set_83 (fun H locs hP hD hS => ?_)
            refine lv_iload_n hx hb dX6_set_84 rfl (lv_at hl 0 rfl) ?_
            refine lv_sipush (v := 1000) hx hb dX6_set_85 (by decide) ?_
            refine lv_iadd hx hb dX6_set_88 ?_
            subst hR
            exact g_ret hx hb hr hlocks hS dX6_set_89 rfl hP
          · rw [if_pos c13] at hR
            have hok := hok.1 c13
            refine lv_bipush (v := (-5)) hx hb dX6_set_60 (by decide) ?_
            subst hR
            exact g_ret hx hb hr hlocks hS dX6_set_62 rfl hP
        · rw [if_pos c10] at hR
          have hok := hok.1 c10
          refine lv_bipush (v := (-4)) hx hb dX6_set_42 (by decide) ?_
          subst hR
          exact g_ret hx hb hr hlocks hS dX6_set_44 rfl hP
      · rw [if_neg c7] at hR
        have hok := hok.2 c7
        refine lv_bipush (v := (-2)) hx hb dX6_set_27 (by decide) ?_
        subst hR
        exact g_ret hx hb hr hlocks hS dX6_set_29 rfl hP
  · rw [if_pos c3] at hR
    have hok := hok.1 c3
    refine lv_iconst (v := (-1)) hx hb dX6_set_7 (by decide) ?_
    subst hR
    exact g_ret hx hb hr hlocks hS dX6_set_8 rfl hP
def f_X6_readProfile (o : (Nat → Int32)) (st : (Nat → Int32)) (b : (Nat → Nat → Int32)) (pf : (Nat → Nat → Int32)) (g : (Nat → Nat → Int32)) (hh : HVal) (t : (Nat → Nat → Int32)) (dr : (Nat → Nat → Int32)) : Int32 × (Nat → Nat → Int32) × HVal × (Nat → Nat → Int32) × (Nat → Nat → Int32) := (gL (f_X5_readInto t dr) (fun (R1 : Int32 × (Nat → Nat → Int32) × (Nat → Nat → Int32)) => (if R1.1 = 0 then (((-100) - ((R1.2.1 0) 1)), pf, hh, R1.2.1, R1.2.2) else (gL (f_X3_isInRange R1.2.2) (fun (R4 : Int32) => (if R4 = 0 then ((-2), pf, hh, R1.2.1, R1.2.2) else (if (o 0) = 1 then ((-4), pf, hh, R1.2.1, R1.2.2) else (gL (f_hadd o st b pf g hh) (fun (R8 : HVal) => ((R1.2.2 0) 0, R1.2.2, R8, R1.2.1, R1.2.2))))))))))
def ok_X6_readProfile (o : (Nat → Int32)) (hh : HVal) (t : (Nat → Nat → Int32)) (dr : (Nat → Nat → Int32)) : Prop := (ok_X5_readInto t dr) ∧ (gL (f_X5_readInto t dr) (fun (R1 : Int32 × (Nat → Nat → Int32) × (Nat → Nat → Int32)) => ((R1.1 = 0 → True) ∧ (¬ R1.1 = 0 → (ok_X3_isInRange R1.2.2) ∧ (gL (f_X3_isInRange R1.2.2) (fun (R4 : Int32) => ((R4 = 0 → True) ∧ (¬ R4 = 0 → (((o 0) = 1 → True) ∧ (¬ (o 0) = 1 → (ok_hadd o hh) ∧ True))))))))))
set_option maxHeartbeats 4000000 in
set_option maxRecDepth 100000 in
theorem c_X6_readProfile (l : Launch) (G : gG) (x : Nat → Nat) (cx : (Nat → Int32)) (o : (Nat → Int32)) (st : (Nat → Int32)) (b : (Nat → Nat → Int32)) (pf : (Nat → Nat → Int32)) (g : (Nat → Nat → Int32)) (hh : HVal) (t : (Nat → Nat → Int32)) (dr : (Nat → Nat → Int32)) (R : Int32 × (Nat → Nat → Int32) × HVal × (Nat → Nat → Int32) × (Nat → Nat → Int32)) (hR : R = f_X6_readProfile o st b pf g hh t dr) (hok : ok_X6_readProfile o hh t dr) : CT l G yX6_readProfile wsX6_readProfile 6 134 [.ref (x 0)] [CW G x cx, OW G (fun k => x (k + 1)) o, AW G (x 2) 9 st, BW G (fun k => x (k + 3)) b, PW G (fun k => x (k + 11)) pf, LW G (fun k => x (k + 16)) g, HGW G (fun k => x (k + 58)) hh, TW G (fun k => x (k + 136)) t, PW G (fun k => x (k + 138)) dr] (some (.int R.1)) [CW G x cx, OW G (fun k => x (k + 1)) o, AW G (x 2) 9 st, BW G (fun k => x (k + 3)) b, PW G (fun k => x (k + 11)) R.2.1, LW G (fun k => x (k + 16)) g, HGW G (fun k => x (k + 58)) R.2.2.1, TW G (fun k => x (k + 136)) R.2.2.2.1, PW G (fun k => x (k + 138)) R.2.2.2.2] := by
  unfold f_X6_readProfile at hR
  unfold ok_X6_readProfile at hok
  refine CT.of (cc := cX6_readProfile) (maxL := 1) (ret := (some .int)) (plainFor_of_name (by decide +kernel)) rfl rfl (Nat.le_of_ble_eq_true rfl) ?_
  intro p e s m below meth c A ls hx hb hml hr hts hown hlocks hK hP hD hA hS hl
  have hown : s.vm.findClass RX6 = some m.cls := hown
  have hl : lv_has ls 1 [(0, .ref (x 0))] := hl
  have hinX3 : ∀ w ∈ wsX30, w ∈ wsX6_readProfile := fun w h => List.mem_cons_of_mem _ (List.mem_append_left _ (List.mem_append_left _ (List.mem_append_left _ (List.mem_append_right _ h))))
  have hinX4 : ∀ w ∈ wsX40, w ∈ wsX6_readProfile := fun w h => List.mem_cons_of_mem _ (List.mem_append_left _ (List.mem_append_left _ (List.mem_append_left _ (List.mem_append_left _ (List.mem_append_right _ h)))))
  have hinX5 : ∀ w ∈ wsX50, w ∈ wsX6_readProfile := fun w h => List.mem_cons_of_mem _ (List.mem_append_left _ (List.mem_append_left _ (List.mem_append_left _ (List.mem_append_left _ (List.mem_append_left _ (List.mem_append_right _ h))))))
  have hinX6 : ∀ w ∈ wsX60, w ∈ wsX6_readProfile := fun w h => List.mem_cons_of_mem _ (List.mem_append_left _ (List.mem_append_left _ (List.mem_append_left _ (List.mem_append_left _ (List.mem_append_left _ (List.mem_append_left _ (List.mem_append_right _ h)))))))
  refine lv_aload_n hx hb dX6_readProfile_0 rfl (lv_at hl 0 rfl) ?_
  refine g_get (ci := 6) (v := .ref (x 136)) (C := RX6) (T := TX6) (N := 7) hx hb hts hinX6 hown hK hP 0 rfl rfl 5 (by decide) (hts (.fieldLink RX6 36 "ChargeStages" "text" "LChargeStages$Text;") (List.mem_of_getElem? (i := 1) rfl)) rfl dX6_readProfile_1 ?_
  refine lv_aload_n hx hb dX6_readProfile_4 rfl (lv_at hl 0 rfl) ?_
  refine g_get (ci := 6) (v := .ref (x 138)) (C := RX6) (T := TX6) (N := 7) hx hb hts hinX6 hown hK hP 0 rfl rfl 6 (by decide) (hts (.fieldLink RX6 43 "ChargeStages" "draft" "LChargeStages$Profile;") (List.mem_of_getElem? (i := 2) rfl)) rfl dX6_readProfile_5 ?_
  obtain ⟨k2, hok⟩ := hok
  obtain ⟨R1, eR1, hR, hok⟩ := g_let2 hR hok
  refine g_callV (c_X5_readInto l G (fun k => x (k + 136)) (fun k => x (k + 138)) t dr R1 eR1 k2) hx hb hml hown hts hK hP hD hS hA gX6_readProfile_X5_readInto rfl (n := 1) (by decide +kernel) rfl ⟨Nat.le_of_ble_eq_true rfl, Nat.le_of_ble_eq_true rfl⟩ [7, 8] rfl (by decide) 98 rfl (ci := 5) rfl hl.1 rfl (Nat.le_of_ble_eq_true rfl) ⟨Nat.zero_le _, Nat.zero_le _⟩ dX6_readProfile_8 (fun H locs hP hD hS => ?_)
  have hP : va_P G.1 vwCl (List.flatten [CW G x cx, OW G (fun k => x (k + 1)) o, AW G (x 2) 9 st, BW G (fun k => x (k + 3)) b, PW G (fun k => x (k + 11)) pf, LW G (fun k => x (k + 16)) g, HGW G (fun k => x (k + 58)) hh, TW G (fun k => x (k + 136)) R1.2.1, PW G (fun k => x (k + 138)) R1.2.2]) H := hP
  have hD : va_D A (List.flatten [CW G x cx, OW G (fun k => x (k + 1)) o, AW G (x 2) 9 st, BW G (fun k => x (k + 3)) b, PW G (fun k => x (k + 11)) pf, LW G (fun k => x (k + 16)) g, HGW G (fun k => x (k + 58)) hh, TW G (fun k => x (k + 136)) R1.2.1, PW G (fun k => x (k + 138)) R1.2.2]) := hD
  refine lv_if_ne (tgt := 25) hx hb dX6_readProfile_11 (by decide) (fun c3 => ?_) (fun c3 => ?_)
  · rw [if_neg c3] at hR
    have hok := hok.2 c3
    refine lv_aload_n hx hb dX6_readProfile_25 rfl (lv_at hl 0 rfl) ?_
    refine g_get (ci := 6) (v := .ref (x 138)) (C := RX6) (T := TX6) (N := 7) hx hb hts hinX6 hown hK hP 0 rfl rfl 6 (by decide) (hts (.fieldLink RX6 43 "ChargeStages" "draft" "LChargeStages$Profile;") (List.mem_of_getElem? (i := 2) rfl)) rfl dX6_readProfile_26 ?_
    obtain ⟨k5, hok⟩ := hok
    obtain ⟨R4, eR4, hR, hok⟩ := g_let2 hR hok
    refine g_callV (c_X3_isInRange l G (fun k => x (k + 138)) R1.2.2 R4 eR4 k5) hx hb hml hown hts hK hP hD hS hA gX6_readProfile_X3_isInRange rfl (n := 0) (by decide +kernel) rfl ⟨Nat.le_of_ble_eq_true rfl, Nat.le_of_ble_eq_true rfl⟩ [8] rfl (by decide) 100 rfl (ci := 3) rfl hl.1 rfl (Nat.le_of_ble_eq_true rfl) ⟨Nat.zero_le _, Nat.zero_le _⟩ dX6_readProfile_29 (fun H locs hP hD hS => ?_)
    have hP : va_P G.1 vwCl (List.flatten [CW G x cx, OW G (fun k => x (k + 1)) o, AW G (x 2) 9 st, BW G (fun k => x (k + 3)) b, PW G (fun k => x (k + 11)) pf, LW G (fun k => x (k + 16)) g, HGW G (fun k => x (k + 58)) hh, TW G (fun k => x (k + 136)) R1.2.1, PW G (fun k => x (k + 138)) R1.2.2]) H := hP
    have hD : va_D A (List.flatten [CW G x cx, OW G (fun k => x (k + 1)) o, AW G (x 2) 9 st, BW G (fun k => x (k + 3)) b, PW G (fun k => x (k + 11)) pf, LW G (fun k => x (k + 16)) g, HGW G (fun k => x (k + 58)) hh, TW G (fun k => x (k + 136)) R1.2.1, PW G (fun k => x (k + 138)) R1.2.2]) := hD
    refine lv_if_ne (tgt := 38) hx hb dX6_readProfile_32 (by decide) (fun c6 => ?_) (fun c6 => ?_)
    · rw [if_neg c6] at hR
      have hok := hok.2 c6
      refine lv_aload_n hx hb dX6_readProfile_38 rfl (lv_at hl 0 rfl) ?_
      refine g_get (ci := 6) (v := .ref (x 1)) (C := RX6) (T := TX6) (N := 7) hx hb hts hinX6 hown hK hP 0 rfl rfl 0 (by decide) (hts (.fieldLink RX6 10 "ChargeStages" "now" "LChargeStages$State;") (List.mem_of_getElem? (i := 4) rfl)) rfl dX6_readProfile_39 ?_
      refine g_get (ci := 4) (v := .int (o 0)) (C := RX4) (T := TX4) (N := 12) hx hb hts hinX4 hown hK hP 1 rfl rfl 4 (by decide) (hts (.fieldLink RX6 68 "ChargeStages$State" "mode" "I") (List.mem_of_getElem? (i := 5) rfl)) rfl dX6_readProfile_42 ?_
      refine lv_iconst (v := 1) hx hb dX6_readProfile_45 (by decide) ?_
      refine lv_icmp_ne (tgt := 52) hx hb dX6_readProfile_46 (by decide) (fun c7 => ?_) (fun c7 => ?_)
      · rw [if_neg c7] at hR
        have hok := hok.2 c7
        refine lv_aload_n hx hb dX6_readProfile_52 rfl (lv_at hl 0 rfl) ?_
        refine g_get (ci := 6) (v := .ref (x 58)) (C := RX6) (T := TX6) (N := 7) hx hb hts hinX6 hown hK hP 0 rfl rfl 4 (by decide) (hts (.fieldLink RX6 29 "ChargeStages" "history" "LChargeStages$History;") (List.mem_of_getElem? (i := 6) rfl)) rfl dX6_readProfile_53 ?_
        refine lv_aload_n hx hb dX6_readProfile_56 rfl (lv_at hl 0 rfl) ?_
        refine g_get (ci := 6) (v := .ref (x 1)) (C := RX6) (T := TX6) (N := 7) hx hb hts hinX6 hown hK hP 0 rfl rfl 0 (by decide) (hts (.fieldLink RX6 10 "ChargeStages" "now" "LChargeStages$State;") (List.mem_of_getElem? (i := 4) rfl)) rfl dX6_readProfile_57 ?_
        obtain ⟨k9, hok⟩ := hok
        obtain ⟨R8, eR8, hR⟩ := g_let hR
        refine g_callV (c_hadd l G (fun k => x (k + 58)) (fun k => x (k + 1)) o st b pf g hh R8 eR8 k9) hx hb hml hown hts hK hP hD hS hA gX6_readProfile_X1_add rfl (n := 1) (by decide +kernel) rfl ⟨Nat.le_of_ble_eq_true rfl, Nat.le_of_ble_eq_true rfl⟩ [1, 2, 3, 4, 5, 6] rfl (by decide) 20 rfl (ci := 1) rfl hl.1 rfl (Nat.le_of_ble_eq_true rfl) ⟨Nat.zero_le _, Nat.zero_le _⟩ dX6_readProfile_60 (fun H locs hP hD hS => ?_)
        have hP : va_P G.1 vwCl (List.flatten [CW G x cx, OW G (fun k => x (k + 1)) o, AW G (x 2) 9 st, BW G (fun k => x (k + 3)) b, PW G (fun k => x (k + 11)) pf, LW G (fun k => x (k + 16)) g, HGW G (fun k => x (k + 58)) R8, TW G (fun k => x (k + 136)) R1.2.1, PW G (fun k => x (k + 138)) R1.2.2]) H := hP
        have hD : va_D A (List.flatten [CW G x cx, OW G (fun k => x (k + 1)) o, AW G (x 2) 9 st, BW G (fun k => x (k + 3)) b, PW G (fun k => x (k + 11)) pf, LW G (fun k => x (k + 16)) g, HGW G (fun k => x (k + 58)) R8, TW G (fun k => x (k + 136)) R1.2.1, PW G (fun k => x (k + 138)) R1.2.2]) := hD
        refine lv_aload_n hx hb dX6_readProfile_63 rfl (lv_at hl 0 rfl) ?_
        refine g_get (ci := 6) (v := .ref (x 1)) (C := RX6) (T := TX6) (N := 7) hx hb hts hinX6 hown hK hP 0 rfl rfl 0 (by decide) (hts (.fieldLink RX6 10 "ChargeStages" "now" "LChargeStages$State;") (List.mem_of_getElem? (i := 4) rfl)) rfl dX6_readProfile_64 ?_
        refine g_get (ci := 4) (v := .ref (x 11)) (C := RX4) (T := TX4) (N := 12) hx hb hts hinX4 hown hK hP 1 rfl rfl 2 (by decide) (hts (.fieldLink RX6 116 "ChargeStages$State" "profile" "LChargeStages$Profile;") (List.mem_of_getElem? (i := 7) rfl)) rfl dX6_readProfile_67 ?_
        refine lv_aload_n hx hb dX6_readProfile_70 rfl (lv_at hl 0 rfl) ?_
        refine g_get (ci := 6) (v := .ref (x 138)) (C := RX6) (T := TX6) (N := 7) hx hb hts hinX6 hown hK hP 0 rfl rfl 6 (by decide) (hts (.fieldLink RX6 43 "ChargeStages" "draft" "LChargeStages$Profile;") (List.mem_of_getElem? (i := 2) rfl)) rfl dX6_readProfile_71 ?_
        refine g_callV (c_X3_copyFrom l G (fun k => x (k + 11)) (fun k => x (k + 138)) pf R1.2.2) hx hb hml hown hts hK hP hD hS hA gX6_readProfile_X3_copyFrom rfl (n := 1) (by decide +kernel) rfl ⟨Nat.le_of_ble_eq_true rfl, Nat.le_of_ble_eq_true rfl⟩ [4, 8] rfl (by decide) 11 rfl (ci := 3) rfl hl.1 rfl (Nat.le_of_ble_eq_true rfl) ⟨Nat.zero_le _, Nat.zero_le _⟩ dX6_readProfile_74 (fun H locs hP hD hS => ?_)
        have hP : va_P G.1 vwCl (List.flatten [CW G x cx, OW G (fun k => x (k + 1)) o, AW G (x 2) 9 st, BW G (fun k => x (k + 3)) b, PW G (fun k => x (k + 11)) R1.2.2, LW G (fun k => x (k + 16)) g, HGW G (fun k => x (k + 58)) R8, TW G (fun k => x (k + 136)) R1.2.1, PW G (fun k => x (k + 138)) R1.2.2]) H := hP
        have hD : va_D A (List.flatten [CW G x cx, OW G (fun k => x (k + 1)) o, AW G (x 2) 9 st, BW G (fun k => x (k + 3)) b, PW G (fun k => x (k + 11)) R1.2.2, LW G (fun k => x (k + 16)) g, HGW G (fun k => x (k + 58)) R8, TW G (fun k => x (k + 136)) R1.2.1, PW G (fun k => x (k + 138)) R1.2.2]) := hD
        refine lv_aload_n hx hb dX6_readProfile_77 rfl (lv_at hl 0 rfl) ?_
        refine g_get (ci := 6) (v := .ref (x 1)) (C := RX6) (T := TX6) (N := 7) hx hb hts hinX6 hown hK hP 0 rfl rfl 0 (by decide) (hts (.fieldLink RX6 10 "ChargeStages" "now" "LChargeStages$State;") (List.mem_of_getElem? (i := 4) rfl)) rfl dX6_readProfile_78 ?_
        refine g_get (ci := 4) (v := .ref (x 11)) (C := RX4) (T := TX4) (N := 12) hx hb hts hinX4 hown hK hP 1 rfl rfl 2 (by decide) (hts (.fieldLink RX6 116 "ChargeStages$State" "profile" "LChargeStages$Profile;") (List.mem_of_getElem? (i := 7) rfl)) rfl dX6_readProfile_81 ?_
        refine g_get (ci := 3) (v := .int ((R1.2.2 0) 0)) (C := RX3) (T := TX3) (N := 5) hx hb hts hinX3 hown hK hP 11 rfl rfl 0 (by decide) (hts (.fieldLink RX6 123 "ChargeStages$Profile" "stages" "I") (List.mem_of_getElem? (i := 8) rfl)) rfl dX6_readProfile_84 ?_
        subst hR
        exact g_ret hx hb hr hlocks hS dX6_readProfile_87 rfl hP
      · rw [if_pos c7] at hR
        have hok := hok.1 c7
        refine lv_bipush (v := (-4)) hx hb dX6_readProfile_49 (by decide) ?_
        subst hR
        exact g_ret hx hb hr hlocks hS dX6_readProfile_51 rfl hP
    · rw [if_pos c6] at hR
      have hok := hok.1 c6
      refine lv_bipush (v := (-2)) hx hb dX6_readProfile_35 (by decide) ?_
      subst hR
      exact g_ret hx hb hr hlocks hS dX6_readProfile_37 rfl hP
  · rw [if_pos c3] at hR
    have hok := hok.1 c3
    refine lv_bipush (v := (-100)) hx hb dX6_readProfile_14 (by decide) ?_
    refine lv_aload_n hx hb dX6_readProfile_16 rfl (lv_at hl 0 rfl) ?_
    refine g_get (ci := 6) (v := .ref (x 136)) (C := RX6) (T := TX6) (N := 7) hx hb hts hinX6 hown hK hP 0 rfl rfl 5 (by decide) (hts (.fieldLink RX6 36 "ChargeStages" "text" "LChargeStages$Text;") (List.mem_of_getElem? (i := 1) rfl)) rfl dX6_readProfile_17 ?_
    refine g_get (ci := 5) (v := .int ((R1.2.1 0) 1)) (C := RX5) (T := TX5) (N := 3) hx hb hts hinX5 hown hK hP 98 rfl rfl 1 (by decide) (hts (.fieldLink RX6 109 "ChargeStages$Text" "place" "I") (List.mem_of_getElem? (i := 3) rfl)) rfl dX6_readProfile_20 ?_
    refine lv_isub hx hb dX6_readProfile_23 ?_
    subst hR
    exact g_ret hx hb hr hlocks hS dX6_readProfile_24 rfl hP
def f_X6_start (o : (Nat → Int32)) (st : (Nat → Int32)) (b : (Nat → Nat → Int32)) (pf : (Nat → Nat → Int32)) (g : (Nat → Nat → Int32)) (hh : HVal) : Int32 × (Nat → Int32) × (Nat → Nat → Int32) × HVal := (if (o 0) = 1 then ((-4), o, g, hh) else (if ((pf 0) 0) = 0 then ((-4), o, g, hh) else (gL (o 0) (fun (v3 : Int32) => (gL (f_hadd o st b pf g hh) (fun (R4 : HVal) => (gL (f_X4_beginCharging o g) (fun (R6 : (Nat → Int32) × (Nat → Nat → Int32)) => (v3, R6.1, R6.2, R4)))))))))
def ok_X6_start (o : (Nat → Int32)) (st : (Nat → Int32)) (b : (Nat → Nat → Int32)) (pf : (Nat → Nat → Int32)) (g : (Nat → Nat → Int32)) (hh : HVal) : Prop := (((o 0) = 1 → True) ∧ (¬ (o 0) = 1 → ((((pf 0) 0) = 0 → True) ∧ (¬ ((pf 0) 0) = 0 → (gL (o 0) (fun (v3 : Int32) => (ok_hadd o hh) ∧ (gL (f_hadd o st b pf g hh) (fun (R4 : HVal) => (ok_X4_beginCharging o g) ∧ True))))))))
set_option maxHeartbeats 4000000 in
set_option maxRecDepth 100000 in
theorem c_X6_start (l : Launch) (G : gG) (x : Nat → Nat) (cx : (Nat → Int32)) (o : (Nat → Int32)) (st : (Nat → Int32)) (b : (Nat → Nat → Int32)) (pf : (Nat → Nat → Int32)) (g : (Nat → Nat → Int32)) (hh : HVal) (R : Int32 × (Nat → Int32) × (Nat → Nat → Int32) × HVal) (hR : R = f_X6_start o st b pf g hh) (hok : ok_X6_start o st b pf g hh) : CT l G yX6_start wsX6_start 4 81 [.ref (x 0)] [CW G x cx, OW G (fun k => x (k + 1)) o, AW G (x 2) 9 st, BW G (fun k => x (k + 3)) b, PW G (fun k => x (k + 11)) pf, LW G (fun k => x (k + 16)) g, HGW G (fun k => x (k + 58)) hh] (some (.int R.1)) [CW G x cx, OW G (fun k => x (k + 1)) R.2.1, AW G (x 2) 9 st, BW G (fun k => x (k + 3)) b, PW G (fun k => x (k + 11)) pf, LW G (fun k => x (k + 16)) R.2.2.1, HGW G (fun k => x (k + 58)) R.2.2.2] := by
  unfold f_X6_start at hR
  unfold ok_X6_start at hok
  refine CT.of (cc := cX6_start) (maxL := 2) (ret := (some .int)) (plainFor_of_name (by decide +kernel)) rfl rfl (Nat.le_of_ble_eq_true rfl) ?_
  intro p e s m below meth c A ls hx hb hml hr hts hown hlocks hK hP hD hA hS hl
  have hown : s.vm.findClass RX6 = some m.cls := hown
  have hl : lv_has ls 2 [(0, .ref (x 0))] := hl
  have hinX3 : ∀ w ∈ wsX30, w ∈ wsX6_start := fun w h => List.mem_cons_of_mem _ (List.mem_append_left _ (List.mem_append_left _ (List.mem_append_left _ (List.mem_append_right _ h))))
  have hinX4 : ∀ w ∈ wsX40, w ∈ wsX6_start := fun w h => List.mem_cons_of_mem _ (List.mem_append_left _ (List.mem_append_left _ (List.mem_append_left _ (List.mem_append_left _ (List.mem_append_right _ h)))))
  have hinX6 : ∀ w ∈ wsX60, w ∈ wsX6_start := fun w h => List.mem_cons_of_mem _ (List.mem_append_left _ (List.mem_append_left _ (List.mem_append_left _ (List.mem_append_left _ (List.mem_append_left _ (List.mem_append_right _ h))))))
  refine lv_aload_n hx hb dX6_start_0 rfl (lv_at hl 0 rfl) ?_
  refine g_get (ci := 6) (v := .ref (x 1)) (C := RX6) (T := TX6) (N := 7) hx hb hts hinX6 hown hK hP 0 rfl rfl 0 (by decide) (hts (.fieldLink RX6 10 "ChargeStages" "now" "LChargeStages$State;") (List.mem_of_getElem? (i := 1) rfl)) rfl dX6_start_1 ?_
  refine g_get (ci := 4) (v := .int (o 0)) (C := RX4) (T := TX4) (N := 12) hx hb hts hinX4 hown hK hP 1 rfl rfl 4 (by decide) (hts (.fieldLink RX6 68 "ChargeStages$State" "mode" "I") (List.mem_of_getElem? (i := 2) rfl)) rfl dX6_start_4 ?_
  refine lv_iconst (v := 1) hx hb dX6_start_7 (by decide) ?_
  refine lv_icmp_eq (tgt := 24) hx hb dX6_start_8 (by decide) (fun c1 => ?_) (fun c1 => ?_)
  · rw [if_pos c1] at hR
    have hok := hok.1 c1
    refine lv_bipush (v := (-4)) hx hb dX6_start_24 (by decide) ?_
    subst hR
    exact g_ret hx hb hr hlocks hS dX6_start_26 rfl hP
  · rw [if_neg c1] at hR
    have hok := hok.2 c1
    refine lv_aload_n hx hb dX6_start_11 rfl (lv_at hl 0 rfl) ?_
    refine g_get (ci := 6) (v := .ref (x 1)) (C := RX6) (T := TX6) (N := 7) hx hb hts hinX6 hown hK hP 0 rfl rfl 0 (by decide) (hts (.fieldLink RX6 10 "ChargeStages" "now" "LChargeStages$State;") (List.mem_of_getElem? (i := 1) rfl)) rfl dX6_start_12 ?_
    refine g_get (ci := 4) (v := .ref (x 11)) (C := RX4) (T := TX4) (N := 12) hx hb hts hinX4 hown hK hP 1 rfl rfl 2 (by decide) (hts (.fieldLink RX6 116 "ChargeStages$State" "profile" "LChargeStages$Profile;") (List.mem_of_getElem? (i := 3) rfl)) rfl dX6_start_15 ?_
    refine g_get (ci := 3) (v := .int ((pf 0) 0)) (C := RX3) (T := TX3) (N := 5) hx hb hts hinX3 hown hK hP 11 rfl rfl 0 (by decide) (hts (.fieldLink RX6 123 "ChargeStages$Profile" "stages" "I") (List.mem_of_getElem? (i := 4) rfl)) rfl dX6_start_18 ?_
    refine lv_if_ne (tgt := 27) hx hb dX6_start_21 (by decide) (fun c2 => ?_) (fun c2 => ?_)
    · rw [if_neg c2] at hR
      have hok := hok.2 c2
      refine lv_aload_n hx hb dX6_start_27 rfl (lv_at hl 0 rfl) ?_
      refine g_get (ci := 6) (v := .ref (x 1)) (C := RX6) (T := TX6) (N := 7) hx hb hts hinX6 hown hK hP 0 rfl rfl 0 (by decide) (hts (.fieldLink RX6 10 "ChargeStages" "now" "LChargeStages$State;") (List.mem_of_getElem? (i := 1) rfl)) rfl dX6_start_28 ?_
      refine g_get (ci := 4) (v := .int (o 0)) (C := RX4) (T := TX4) (N := 12) hx hb hts hinX4 hown hK hP 1 rfl rfl 4 (by decide) (hts (.fieldLink RX6 68 "ChargeStages$State" "mode" "I") (List.mem_of_getElem? (i := 2) rfl)) rfl dX6_start_31 ?_
      obtain ⟨v3, ev3, hR, hok⟩ := g_let2 hR hok
      refine g_topE ev3.symm ?_
      refine lv_istore_n (lv' := [(1, .int v3), (0, .ref (x 0))]) hx hb dX6_start_34 rfl hl (by decide) rfl (fun ls hl => ?_)
      refine lv_aload_n hx hb dX6_start_35 rfl (lv_at hl 1 rfl) ?_
      refine g_get (ci := 6) (v := .ref (x 58)) (C := RX6) (T := TX6) (N := 7) hx hb hts hinX6 hown hK hP 0 rfl rfl 4 (by decide) (hts (.fieldLink RX6 29 "ChargeStages" "history" "LChargeStages$History;") (List.mem_of_getElem? (i := 5) rfl)) rfl dX6_start_36 ?_
      refine lv_aload_n hx hb dX6_start_39 rfl (lv_at hl 1 rfl) ?_
      refine g_get (ci := 6) (v := .ref (x 1)) (C := RX6) (T := TX6) (N := 7) hx hb hts hinX6 hown hK hP 0 rfl rfl 0 (by decide) (hts (.fieldLink RX6 10 "ChargeStages" "now" "LChargeStages$State;") (List.mem_of_getElem? (i := 1) rfl)) rfl dX6_start_40 ?_
      obtain ⟨k5, hok⟩ := hok
      obtain ⟨R4, eR4, hR, hok⟩ := g_let2 hR hok
      refine g_callV (c_hadd l G (fun k => x (k + 58)) (fun k => x (k + 1)) o st b pf g hh R4 eR4 k5) hx hb hml hown hts hK hP hD hS hA gX6_start_X1_add rfl (n := 1) (by decide +kernel) rfl ⟨Nat.le_of_ble_eq_true rfl, Nat.le_of_ble_eq_true rfl⟩ [1, 2, 3, 4, 5, 6] rfl (by decide) 20 rfl (ci := 1) rfl hl.1 rfl (Nat.le_of_ble_eq_true rfl) ⟨Nat.zero_le _, Nat.zero_le _⟩ dX6_start_43 (fun H locs hP hD hS => ?_)
      have hP : va_P G.1 vwCl (List.flatten [CW G x cx, OW G (fun k => x (k + 1)) o, AW G (x 2) 9 st, BW G (fun k => x (k + 3)) b, PW G (fun k => x (k + 11)) pf, LW G (fun k => x (k + 16)) g, HGW G (fun k => x (k + 58)) R4]) H := hP
      have hD : va_D A (List.flatten [CW G x cx, OW G (fun k => x (k + 1)) o, AW G (x 2) 9 st, BW G (fun k => x (k + 3)) b, PW G (fun k => x (k + 11)) pf, LW G (fun k => x (k + 16)) g, HGW G (fun k => x (k + 58)) R4]) := hD
      refine lv_aload_n hx hb dX6_start_46 rfl (lv_at hl 1 rfl) ?_
      refine g_get (ci := 6) (v := .ref (x 1)) (C := RX6) (T := TX6) (N := 7) hx hb hts hinX6 hown hK hP 0 rfl rfl 0 (by decide) (hts (.fieldLink RX6 10 "ChargeStages" "now" "LChargeStages$State;") (List.mem_of_getElem? (i := 1) rfl)) rfl dX6_start_47 ?_
      obtain ⟨k7, hok⟩ := hok
      obtain ⟨R6, eR6, hR⟩ := g_let hR
      refine g_callV (c_X4_beginCharging l G (fun k => x (k + 1)) o g R6 eR6 k7) hx hb hml hown hts hK hP hD hS hA gX6_start_X4_beginCharging rfl (n := 0) (by decide +kernel) rfl ⟨Nat.le_of_ble_eq_true rfl, Nat.le_of_ble_eq_true rfl⟩ [1, 5] rfl (by decide) 1 rfl (ci := 4) rfl hl.1 rfl (Nat.le_of_ble_eq_true rfl) ⟨Nat.zero_le _, Nat.zero_le _⟩ dX6_start_50 (fun H locs hP hD hS => ?_)
      have hP : va_P G.1 vwCl (List.flatten [CW G x cx, OW G (fun k => x (k + 1)) R6.1, AW G (x 2) 9 st, BW G (fun k => x (k + 3)) b, PW G (fun k => x (k + 11)) pf, LW G (fun k => x (k + 16)) R6.2, HGW G (fun k => x (k + 58)) R4]) H := hP
      have hD : va_D A (List.flatten [CW G x cx, OW G (fun k => x (k + 1)) R6.1, AW G (x 2) 9 st, BW G (fun k => x (k + 3)) b, PW G (fun k => x (k + 11)) pf, LW G (fun k => x (k + 16)) R6.2, HGW G (fun k => x (k + 58)) R4]) := hD
      refine lv_iload_n hx hb dX6_start_53 rfl (lv_at hl 0 rfl) ?_
      subst hR
      exact g_ret hx hb hr hlocks hS dX6_start_54 rfl hP
    · rw [if_pos c2] at hR
      have hok := hok.1 c2
      refine lv_bipush (v := (-4)) hx hb dX6_start_24 (by decide) ?_
      subst hR
      exact g_ret hx hb hr hlocks hS dX6_start_26 rfl hP
def f_X6_stop (o : (Nat → Int32)) (st : (Nat → Int32)) (b : (Nat → Nat → Int32)) (pf : (Nat → Nat → Int32)) (g : (Nat → Nat → Int32)) (hh : HVal) : Int32 × (Nat → Int32) × HVal := (gL (o 0) (fun (v1 : Int32) => (if v1 = 0 then ((-5), o, hh) else (gL (f_hadd o st b pf g hh) (fun (R3 : HVal) => (v1, (upd o 0 0), R3))))))
def ok_X6_stop (o : (Nat → Int32)) (hh : HVal) : Prop := (gL (o 0) (fun (v1 : Int32) => ((v1 = 0 → True) ∧ (¬ v1 = 0 → (ok_hadd o hh) ∧ True))))
set_option maxHeartbeats 4000000 in
set_option maxRecDepth 100000 in
theorem c_X6_stop (l : Launch) (G : gG) (x : Nat → Nat) (cx : (Nat → Int32)) (o : (Nat → Int32)) (st : (Nat → Int32)) (b : (Nat → Nat → Int32)) (pf : (Nat → Nat → Int32)) (g : (Nat → Nat → Int32)) (hh : HVal) (R : Int32 × (Nat → Int32) × HVal) (hR : R = f_X6_stop o st b pf g hh) (hok : ok_X6_stop o hh) : CT l G yX6_stop wsX6_stop 4 81 [.ref (x 0)] [CW G x cx, OW G (fun k => x (k + 1)) o, AW G (x 2) 9 st, BW G (fun k => x (k + 3)) b, PW G (fun k => x (k + 11)) pf, LW G (fun k => x (k + 16)) g, HGW G (fun k => x (k + 58)) hh] (some (.int R.1)) [CW G x cx, OW G (fun k => x (k + 1)) R.2.1, AW G (x 2) 9 st, BW G (fun k => x (k + 3)) b, PW G (fun k => x (k + 11)) pf, LW G (fun k => x (k + 16)) g, HGW G (fun k => x (k + 58)) R.2.2] := by
  unfold f_X6_stop at hR
  unfold ok_X6_stop at hok
  refine CT.of (cc := cX6_stop) (maxL := 2) (ret := (some .int)) (plainFor_of_name (by decide +kernel)) rfl rfl (Nat.le_of_ble_eq_true rfl) ?_
  intro p e s m below meth c A ls hx hb hml hr hts hown hlocks hK hP hD hA hS hl
  have hown : s.vm.findClass RX6 = some m.cls := hown
  have hl : lv_has ls 2 [(0, .ref (x 0))] := hl
  have hinX4 : ∀ w ∈ wsX40, w ∈ wsX6_stop := fun w h => List.mem_cons_of_mem _ (List.mem_append_left _ (List.mem_append_left _ (List.mem_append_left _ (List.mem_append_left _ (List.mem_append_right _ h)))))
  have hinX6 : ∀ w ∈ wsX60, w ∈ wsX6_stop := fun w h => List.mem_cons_of_mem _ (List.mem_append_left _ (List.mem_append_left _ (List.mem_append_left _ (List.mem_append_left _ (List.mem_append_left _ (List.mem_append_right _ h))))))
  refine lv_aload_n hx hb dX6_stop_0 rfl (lv_at hl 0 rfl) ?_
  refine g_get (ci := 6) (v := .ref (x 1)) (C := RX6) (T := TX6) (N := 7) hx hb hts hinX6 hown hK hP 0 rfl rfl 0 (by decide) (hts (.fieldLink RX6 10 "ChargeStages" "now" "LChargeStages$State;") (List.mem_of_getElem? (i := 1) rfl)) rfl dX6_stop_1 ?_
  refine g_get (ci := 4) (v := .int (o 0)) (C := RX4) (T := TX4) (N := 12) hx hb hts hinX4 hown hK hP 1 rfl rfl 4 (by decide) (hts (.fieldLink RX6 68 "ChargeStages$State" "mode" "I") (List.mem_of_getElem? (i := 2) rfl)) rfl dX6_stop_4 ?_
  obtain ⟨v1, ev1, hR, hok⟩ := g_let2 hR hok
  refine g_topE ev1.symm ?_
  refine lv_istore_n (lv' := [(1, .int v1), (0, .ref (x 0))]) hx hb dX6_stop_7 rfl hl (by decide) rfl (fun ls hl => ?_)
  refine lv_iload_n hx hb dX6_stop_8 rfl (lv_at hl 0 rfl) ?_
  refine lv_if_ne (tgt := 15) hx hb dX6_stop_9 (by decide) (fun c2 => ?_) (fun c2 => ?_)
  · rw [if_neg c2] at hR
    have hok := hok.2 c2
    refine lv_aload_n hx hb dX6_stop_15 rfl (lv_at hl 1 rfl) ?_
    refine g_get (ci := 6) (v := .ref (x 58)) (C := RX6) (T := TX6) (N := 7) hx hb hts hinX6 hown hK hP 0 rfl rfl 4 (by decide) (hts (.fieldLink RX6 29 "ChargeStages" "history" "LChargeStages$History;") (List.mem_of_getElem? (i := 3) rfl)) rfl dX6_stop_16 ?_
    refine lv_aload_n hx hb dX6_stop_19 rfl (lv_at hl 1 rfl) ?_
    refine g_get (ci := 6) (v := .ref (x 1)) (C := RX6) (T := TX6) (N := 7) hx hb hts hinX6 hown hK hP 0 rfl rfl 0 (by decide) (hts (.fieldLink RX6 10 "ChargeStages" "now" "LChargeStages$State;") (List.mem_of_getElem? (i := 1) rfl)) rfl dX6_stop_20 ?_
    obtain ⟨k4, hok⟩ := hok
    obtain ⟨R3, eR3, hR⟩ := g_let hR
    refine g_callV (c_hadd l G (fun k => x (k + 58)) (fun k => x (k + 1)) o st b pf g hh R3 eR3 k4) hx hb hml hown hts hK hP hD hS hA gX6_stop_X1_add rfl (n := 1) (by decide +kernel) rfl ⟨Nat.le_of_ble_eq_true rfl, Nat.le_of_ble_eq_true rfl⟩ [1, 2, 3, 4, 5, 6] rfl (by decide) 20 rfl (ci := 1) rfl hl.1 rfl (Nat.le_of_ble_eq_true rfl) ⟨Nat.zero_le _, Nat.zero_le _⟩ dX6_stop_23 (fun H locs hP hD hS => ?_)
    have hP : va_P G.1 vwCl (List.flatten [CW G x cx, OW G (fun k => x (k + 1)) o, AW G (x 2) 9 st, BW G (fun k => x (k + 3)) b, PW G (fun k => x (k + 11)) pf, LW G (fun k => x (k + 16)) g, HGW G (fun k => x (k + 58)) R3]) H := hP
    have hD : va_D A (List.flatten [CW G x cx, OW G (fun k => x (k + 1)) o, AW G (x 2) 9 st, BW G (fun k => x (k + 3)) b, PW G (fun k => x (k + 11)) pf, LW G (fun k => x (k + 16)) g, HGW G (fun k => x (k + 58)) R3]) := hD
    refine lv_aload_n hx hb dX6_stop_26 rfl (lv_at hl 1 rfl) ?_
    refine g_get (ci := 6) (v := .ref (x 1)) (C := RX6) (T := TX6) (N := 7) hx hb hts hinX6 hown hK hP 0 rfl rfl 0 (by decide) (hts (.fieldLink RX6 10 "ChargeStages" "now" "LChargeStages$State;") (List.mem_of_getElem? (i := 1) rfl)) rfl dX6_stop_27 ?_
    refine lv_iconst (v := 0) hx hb dX6_stop_30 (by decide) ?_
    refine g_put (ci := 4) (v := .int 0) (ty := .int) (C := RX4) (T := TX4) (N := 12) (B2 := [CW G x cx, OW G (fun k => x (k + 1)) (upd o 0 0), AW G (x 2) 9 st, BW G (fun k => x (k + 3)) b, PW G (fun k => x (k + 11)) pf, LW G (fun k => x (k + 16)) g, HGW G (fun k => x (k + 58)) R3]) hx hb hts hinX4 tyX4 tyX4_ok nmX4 hown hK hP hD hS 1 rfl rfl 4 (by decide) (hts (.fieldLink RX6 68 "ChargeStages$State" "mode" "I") (List.mem_of_getElem? (i := 2) rfl)) rfl (by decide +kernel) rfl rfl (Nat.le_of_ble_eq_true rfl) rfl dX6_stop_31 (fun H locs hP hD hS => ?_)
    refine lv_iload_n hx hb dX6_stop_34 rfl (lv_at hl 0 rfl) ?_
    subst hR
    exact g_ret hx hb hr hlocks hS dX6_stop_35 rfl hP
  · rw [if_pos c2] at hR
    have hok := hok.1 c2
    refine lv_bipush (v := (-5)) hx hb dX6_stop_12 (by decide) ?_
    subst hR
    exact g_ret hx hb hr hlocks hS dX6_stop_14 rfl hP
def f_X6_pass (o : (Nat → Int32)) (st : (Nat → Int32)) (b : (Nat → Nat → Int32)) (pf : (Nat → Nat → Int32)) (g : (Nat → Nat → Int32)) (hh : HVal) (p1 : Int32) : Int32 × (Nat → Int32) × (Nat → Nat → Int32) × (Nat → Nat → Int32) × HVal := (if p1 < 1 then ((-2), o, b, g, hh) else (if p1 ≤ 200 then (if ((o 3) + p1) ≤ 99999 then (gL (f_hadd o st b pf g hh) (fun (R4 : HVal) => (gL (f_X4_passTicks o st b pf g p1) (fun (R6 : (Nat → Int32) × (Nat → Nat → Int32) × (Nat → Nat → Int32)) => (R6.1 0, R6.1, R6.2.1, R6.2.2, R4))))) else ((-3), o, b, g, hh)) else ((-2), o, b, g, hh)))
def ok_X6_pass (o : (Nat → Int32)) (st : (Nat → Int32)) (b : (Nat → Nat → Int32)) (pf : (Nat → Nat → Int32)) (g : (Nat → Nat → Int32)) (hh : HVal) (p1 : Int32) : Prop := ((p1 < 1 → True) ∧ (¬ p1 < 1 → ((p1 ≤ 200 → ((((o 3) + p1) ≤ 99999 → (ok_hadd o hh) ∧ (gL (f_hadd o st b pf g hh) (fun (R4 : HVal) => (ok_X4_passTicks o st b pf g p1) ∧ True))) ∧ (¬ ((o 3) + p1) ≤ 99999 → True))) ∧ (¬ p1 ≤ 200 → True))))
set_option maxHeartbeats 4000000 in
set_option maxRecDepth 100000 in
theorem c_X6_pass (l : Launch) (G : gG) (x : Nat → Nat) (cx : (Nat → Int32)) (o : (Nat → Int32)) (st : (Nat → Int32)) (b : (Nat → Nat → Int32)) (pf : (Nat → Nat → Int32)) (g : (Nat → Nat → Int32)) (hh : HVal) (p1 : Int32) (R : Int32 × (Nat → Int32) × (Nat → Nat → Int32) × (Nat → Nat → Int32) × HVal) (hR : R = f_X6_pass o st b pf g hh p1) (hok : ok_X6_pass o st b pf g hh p1) : CT l G yX6_pass wsX6_pass 7 142 [.ref (x 0), .int p1] [CW G x cx, OW G (fun k => x (k + 1)) o, AW G (x 2) 9 st, BW G (fun k => x (k + 3)) b, PW G (fun k => x (k + 11)) pf, LW G (fun k => x (k + 16)) g, HGW G (fun k => x (k + 58)) hh] (some (.int R.1)) [CW G x cx, OW G (fun k => x (k + 1)) R.2.1, AW G (x 2) 9 st, BW G (fun k => x (k + 3)) R.2.2.1, PW G (fun k => x (k + 11)) pf, LW G (fun k => x (k + 16)) R.2.2.2.1, HGW G (fun k => x (k + 58)) R.2.2.2.2] := by
  unfold f_X6_pass at hR
  unfold ok_X6_pass at hok
  refine CT.of (cc := cX6_pass) (maxL := 2) (ret := (some .int)) (plainFor_of_name (by decide +kernel)) rfl rfl (Nat.le_of_ble_eq_true rfl) ?_
  intro p e s m below meth c A ls hx hb hml hr hts hown hlocks hK hP hD hA hS hl
  have hown : s.vm.findClass RX6 = some m.cls := hown
  have hl : lv_has ls 2 [(0, .ref (x 0)), (1, .int p1)] := hl
  have hinX4 : ∀ w ∈ wsX40, w ∈ wsX6_pass := fun w h => List.mem_cons_of_mem _ (List.mem_append_left _ (List.mem_append_left _ (List.mem_append_left _ (List.mem_append_left _ (List.mem_append_right _ h)))))
  have hinX6 : ∀ w ∈ wsX60, w ∈ wsX6_pass := fun w h => List.mem_cons_of_mem _ (List.mem_append_left _ (List.mem_append_left _ (List.mem_append_left _ (List.mem_append_left _ (List.mem_append_left _ (List.mem_append_right _ h))))))
  refine lv_iload_n hx hb dX6_pass_0 rfl (lv_at hl 1 rfl) ?_
  refine lv_iconst (v := 1) hx hb dX6_pass_1 (by decide) ?_
  refine lv_icmp_lt (tgt := 12) hx hb dX6_pass_2 (by decide) (fun c1 => ?_) (fun c1 => ?_)
  · rw [if_pos c1] at hR
    have hok := hok.1 c1
    refine lv_bipush (v := (-2)) hx hb dX6_pass_12 (by decide) ?_
    subst hR
    exact g_ret hx hb hr hlocks hS dX6_pass_14 rfl hP
  · rw [if_neg c1] at hR
    have hok := hok.2 c1
    refine lv_iload_n hx hb dX6_pass_5 rfl (lv_at hl 1 rfl) ?_
    refine lv_sipush (v := 200) hx hb dX6_pass_6 (by decide) ?_
    refine lv_icmp_le (tgt := 15) hx hb dX6_pass_9 (by decide) (fun c2 => ?_) (fun c2 => ?_)
    · rw [if_pos c2] at hR
      have hok := hok.1 c2
      refine lv_aload_n hx hb dX6_pass_15 rfl (lv_at hl 0 rfl) ?_
      refine g_get (ci := 6) (v := .ref (x 1)) (C := RX6) (T := TX6) (N := 7) hx hb hts hinX6 hown hK hP 0 rfl rfl 0 (by decide) (hts (.fieldLink RX6 10 "ChargeStages" "now" "LChargeStages$State;") (List.mem_of_getElem? (i := 1) rfl)) rfl dX6_pass_16 ?_
      refine g_get (ci := 4) (v := .int (o 3)) (C := RX4) (T := TX4) (N := 12) hx hb hts hinX4 hown hK hP 1 rfl rfl 7 (by decide) (hts (.fieldLink RX6 129 "ChargeStages$State" "tick" "I") (List.mem_of_getElem? (i := 2) rfl)) rfl dX6_pass_19 ?_
      refine lv_iload_n hx hb dX6_pass_22 rfl (lv_at hl 1 rfl) ?_
      refine lv_iadd hx hb dX6_pass_23 ?_
      refine lv_ldc (v := 99999) hx hb hown (hts (.constant RX6 132 99999) (by decide +kernel)) dX6_pass_24 ?_
      refine lv_icmp_le (tgt := 32) hx hb dX6_pass_26 (by decide) (fun c3 => ?_) (fun c3 => ?_)
      · rw [if_pos c3] at hR
        have hok := hok.1 c3
        refine lv_aload_n hx hb dX6_pass_32 rfl (lv_at hl 0 rfl) ?_
        refine g_get (ci := 6) (v := .ref (x 58)) (C := RX6) (T := TX6) (N := 7) hx hb hts hinX6 hown hK hP 0 rfl rfl 4 (by decide) (hts (.fieldLink RX6 29 "ChargeStages" "history" "LChargeStages$History;") (List.mem_of_getElem? (i := 4) rfl)) rfl dX6_pass_33 ?_
        refine lv_aload_n hx hb dX6_pass_36 rfl (lv_at hl 0 rfl) ?_
        refine g_get (ci := 6) (v := .ref (x 1)) (C := RX6) (T := TX6) (N := 7) hx hb hts hinX6 hown hK hP 0 rfl rfl 0 (by decide) (hts (.fieldLink RX6 10 "ChargeStages" "now" "LChargeStages$State;") (List.mem_of_getElem? (i := 1) rfl)) rfl dX6_pass_37 ?_
        obtain ⟨k5, hok⟩ := hok
        obtain ⟨R4, eR4, hR, hok⟩ := g_let2 hR hok
        refine g_callV (c_hadd l G (fun k => x (k + 58)) (fun k => x (k + 1)) o st b pf g hh R4 eR4 k5) hx hb hml hown hts hK hP hD hS hA gX6_pass_X1_add rfl (n := 1) (by decide +kernel) rfl ⟨Nat.le_of_ble_eq_true rfl, Nat.le_of_ble_eq_true rfl⟩ [1, 2, 3, 4, 5, 6] rfl (by decide) 20 rfl (ci := 1) rfl hl.1 rfl (Nat.le_of_ble_eq_true rfl) ⟨Nat.zero_le _, Nat.zero_le _⟩ dX6_pass_40 (fun H locs hP hD hS => ?_)
        have hP : va_P G.1 vwCl (List.flatten [CW G x cx, OW G (fun k => x (k + 1)) o, AW G (x 2) 9 st, BW G (fun k => x (k + 3)) b, PW G (fun k => x (k + 11)) pf, LW G (fun k => x (k + 16)) g, HGW G (fun k => x (k + 58)) R4]) H := hP
        have hD : va_D A (List.flatten [CW G x cx, OW G (fun k => x (k + 1)) o, AW G (x 2) 9 st, BW G (fun k => x (k + 3)) b, PW G (fun k => x (k + 11)) pf, LW G (fun k => x (k + 16)) g, HGW G (fun k => x (k + 58)) R4]) := hD
        refine lv_aload_n hx hb dX6_pass_43 rfl (lv_at hl 0 rfl) ?_
        refine g_get (ci := 6) (v := .ref (x 1)) (C := RX6) (T := TX6) (N := 7) hx hb hts hinX6 hown hK hP 0 rfl rfl 0 (by decide) (hts (.fieldLink RX6 10 "ChargeStages" "now" "LChargeStages$State;") (List.mem_of_getElem? (i := 1) rfl)) rfl dX6_pass_44 ?_
        refine lv_iload_n hx hb dX6_pass_47 rfl (lv_at hl 1 rfl) ?_
        obtain ⟨k7, hok⟩ := hok
        obtain ⟨R6, eR6, hR⟩ := g_let hR
        refine g_callV (c_X4_passTicks l G (fun k => x (k + 1)) o st b pf g p1 R6 eR6 k7) hx hb hml hown hts hK hP hD hS hA gX6_pass_X4_passTicks rfl (n := 1) (by decide +kernel) rfl ⟨Nat.le_of_ble_eq_true rfl, Nat.le_of_ble_eq_true rfl⟩ [1, 2, 3, 4, 5] rfl (by decide) 1 rfl (ci := 4) rfl hl.1 rfl (Nat.le_of_ble_eq_true rfl) ⟨Nat.zero_le _, Nat.zero_le _⟩ dX6_pass_48 (fun H locs hP hD hS => ?_)
        have hP : va_P G.1 vwCl (List.flatten [CW G x cx, OW G (fun k => x (k + 1)) R6.1, AW G (x 2) 9 st, BW G (fun k => x (k + 3)) R6.2.1, PW G (fun k => x (k + 11)) pf, LW G (fun k => x (k + 16)) R6.2.2, HGW G (fun k => x (k + 58)) R4]) H := hP
        have hD : va_D A (List.flatten [CW G x cx, OW G (fun k => x (k + 1)) R6.1, AW G (x 2) 9 st, BW G (fun k => x (k + 3)) R6.2.1, PW G (fun k => x (k + 11)) pf, LW G (fun k => x (k + 16)) R6.2.2, HGW G (fun k => x (k + 58)) R4]) := hD
        refine lv_aload_n hx hb dX6_pass_51 rfl (lv_at hl 0 rfl) ?_
        refine g_get (ci := 6) (v := .ref (x 1)) (C := RX6) (T := TX6) (N := 7) hx hb hts hinX6 hown hK hP 0 rfl rfl 0 (by decide) (hts (.fieldLink RX6 10 "ChargeStages" "now" "LChargeStages$State;") (List.mem_of_getElem? (i := 1) rfl)) rfl dX6_pass_52 ?_
        refine g_get (ci := 4) (v := .int (R6.1 0)) (C := RX4) (T := TX4) (N := 12) hx hb hts hinX4 hown hK hP 1 rfl rfl 4 (by decide) (hts (.fieldLink RX6 68 "ChargeStages$State" "mode" "I") (List.mem_of_getElem? (i := 5) rfl)) rfl dX6_pass_55 ?_
        subst hR
        exact g_ret hx hb hr hlocks hS dX6_pass_58 rfl hP
      · rw [if_neg c3] at hR
        have hok := hok.2 c3
        refine lv_bipush (v := (-3)) hx hb dX6_pass_29 (by decide) ?_
        subst hR
        exact g_ret hx hb hr hlocks hS dX6_pass_31 rfl hP
    · rw [if_neg c2] at hR
      have hok := hok.2 c2
      refine lv_bipush (v := (-2)) hx hb dX6_pass_12 (by decide) ?_
      subst hR
      exact g_ret hx hb hr hlocks hS dX6_pass_14 rfl hP
def f_X6_type (t : (Nat → Nat → Int32)) (p1 : Int32) : Int32 × (Nat → Nat → Int32) := (if ((t 0) 0) < 60 then (gL (f_X5_add t p1) (fun (R2 : (Nat → Nat → Int32)) => ((R2 0) 0, R2))) else ((-3), t))
def ok_X6_type (t : (Nat → Nat → Int32)) : Prop := ((((t 0) 0) < 60 → (ok_X5_add t) ∧ True) ∧ (¬ ((t 0) 0) < 60 → True))
set_option maxHeartbeats 4000000 in
set_option maxRecDepth 100000 in
theorem c_X6_type (l : Launch) (G : gG) (x : Nat → Nat) (cx : (Nat → Int32)) (t : (Nat → Nat → Int32)) (p1 : Int32) (R : Int32 × (Nat → Nat → Int32)) (hR : R = f_X6_type t p1) (hok : ok_X6_type t) : CT l G yX6_type wsX6_type 1 21 [.ref (x 0), .int p1] [CW G x cx, TW G (fun k => x (k + 136)) t] (some (.int R.1)) [CW G x cx, TW G (fun k => x (k + 136)) R.2] := by
  unfold f_X6_type at hR
  unfold ok_X6_type at hok
  refine CT.of (cc := cX6_type) (maxL := 2) (ret := (some .int)) (plainFor_of_name (by decide +kernel)) rfl rfl (Nat.le_of_ble_eq_true rfl) ?_
  intro p e s m below meth c A ls hx hb hml hr hts hown hlocks hK hP hD hA hS hl
  have hown : s.vm.findClass RX6 = some m.cls := hown
  have hl : lv_has ls 2 [(0, .ref (x 0)), (1, .int p1)] := hl
  have hinX5 : ∀ w ∈ wsX50, w ∈ wsX6_type := fun w h => List.mem_cons_of_mem _ (List.mem_append_right _ h)
  have hinX6 : ∀ w ∈ wsX60, w ∈ wsX6_type := fun w h => List.mem_cons_of_mem _ (List.mem_append_left _ (List.mem_append_right _ h))
  refine lv_aload_n hx hb dX6_type_0 rfl (lv_at hl 0 rfl) ?_
  refine g_get (ci := 6) (v := .ref (x 136)) (C := RX6) (T := TX6) (N := 7) hx hb hts hinX6 hown hK hP 0 rfl rfl 5 (by decide) (hts (.fieldLink RX6 36 "ChargeStages" "text" "LChargeStages$Text;") (List.mem_of_getElem? (i := 1) rfl)) rfl dX6_type_1 ?_
  refine g_get (ci := 5) (v := .int ((t 0) 0)) (C := RX5) (T := TX5) (N := 3) hx hb hts hinX5 hown hK hP 1 rfl rfl 0 (by decide) (hts (.fieldLink RX6 136 "ChargeStages$Text" "length" "I") (List.mem_of_getElem? (i := 2) rfl)) rfl dX6_type_4 ?_
  refine lv_bipush (v := 60) hx hb dX6_type_7 (by decide) ?_
  refine lv_icmp_lt (tgt := 15) hx hb dX6_type_9 (by decide) (fun c1 => ?_) (fun c1 => ?_)
  · rw [if_pos c1] at hR
    have hok := hok.1 c1
    refine lv_aload_n hx hb dX6_type_15 rfl (lv_at hl 0 rfl) ?_
    refine g_get (ci := 6) (v := .ref (x 136)) (C := RX6) (T := TX6) (N := 7) hx hb hts hinX6 hown hK hP 0 rfl rfl 5 (by decide) (hts (.fieldLink RX6 36 "ChargeStages" "text" "LChargeStages$Text;") (List.mem_of_getElem? (i := 1) rfl)) rfl dX6_type_16 ?_
    refine lv_iload_n hx hb dX6_type_19 rfl (lv_at hl 1 rfl) ?_
    obtain ⟨k3, hok⟩ := hok
    obtain ⟨R2, eR2, hR⟩ := g_let hR
    refine g_callV (c_X5_add l G (fun k => x (k + 136)) t p1 R2 eR2 k3) hx hb hml hown hts hK hP hD hS hA gX6_type_X5_add rfl (n := 1) (by decide +kernel) rfl ⟨Nat.le_of_ble_eq_true rfl, Nat.le_of_ble_eq_true rfl⟩ [1] rfl (by decide) 1 rfl (ci := 5) rfl hl.1 rfl (Nat.le_of_ble_eq_true rfl) ⟨Nat.zero_le _, Nat.zero_le _⟩ dX6_type_20 (fun H locs hP hD hS => ?_)
    have hP : va_P G.1 vwCl (List.flatten [CW G x cx, TW G (fun k => x (k + 136)) R2]) H := hP
    have hD : va_D A (List.flatten [CW G x cx, TW G (fun k => x (k + 136)) R2]) := hD
    refine lv_aload_n hx hb dX6_type_23 rfl (lv_at hl 0 rfl) ?_
    refine g_get (ci := 6) (v := .ref (x 136)) (C := RX6) (T := TX6) (N := 7) hx hb hts hinX6 hown hK hP 0 rfl rfl 5 (by decide) (hts (.fieldLink RX6 36 "ChargeStages" "text" "LChargeStages$Text;") (List.mem_of_getElem? (i := 1) rfl)) rfl dX6_type_24 ?_
    refine g_get (ci := 5) (v := .int ((R2 0) 0)) (C := RX5) (T := TX5) (N := 3) hx hb hts hinX5 hown hK hP 1 rfl rfl 0 (by decide) (hts (.fieldLink RX6 136 "ChargeStages$Text" "length" "I") (List.mem_of_getElem? (i := 2) rfl)) rfl dX6_type_27 ?_
    subst hR
    exact g_ret hx hb hr hlocks hS dX6_type_30 rfl hP
  · rw [if_neg c1] at hR
    have hok := hok.2 c1
    refine lv_bipush (v := (-3)) hx hb dX6_type_12 (by decide) ?_
    subst hR
    exact g_ret hx hb hr hlocks hS dX6_type_14 rfl hP
def f_X6_clearText (t : (Nat → Nat → Int32)) : Int32 × (Nat → Nat → Int32) := (gL ((t 0) 0) (fun (v1 : Int32) => (v1, (sF t 0 (upd (t 0) 0 0)))))
set_option maxHeartbeats 4000000 in
set_option maxRecDepth 100000 in
theorem c_X6_clearText (l : Launch) (G : gG) (x : Nat → Nat) (cx : (Nat → Int32)) (t : (Nat → Nat → Int32)) (R : Int32 × (Nat → Nat → Int32)) (hR : R = f_X6_clearText t) : CT l G yX6_clearText wsX6_clearText 0 0 [.ref (x 0)] [CW G x cx, TW G (fun k => x (k + 136)) t] (some (.int R.1)) [CW G x cx, TW G (fun k => x (k + 136)) R.2] := by
  unfold f_X6_clearText at hR
  refine CT.of (cc := cX6_clearText) (maxL := 2) (ret := (some .int)) (plainFor_of_name (by decide +kernel)) rfl rfl (Nat.le_of_ble_eq_true rfl) ?_
  intro p e s m below meth c A ls hx hb hml hr hts hown hlocks hK hP hD hA hS hl
  have hown : s.vm.findClass RX6 = some m.cls := hown
  have hl : lv_has ls 2 [(0, .ref (x 0))] := hl
  have hinX5 : ∀ w ∈ wsX50, w ∈ wsX6_clearText := fun w h => List.mem_cons_of_mem _ (List.mem_append_right _ h)
  have hinX6 : ∀ w ∈ wsX60, w ∈ wsX6_clearText := fun w h => List.mem_cons_of_mem _ (List.mem_append_left _ (List.mem_append_right _ h))
  refine lv_aload_n hx hb dX6_clearText_0 rfl (lv_at hl 0 rfl) ?_
  refine g_get (ci := 6) (v := .ref (x 136)) (C := RX6) (T := TX6) (N := 7) hx hb hts hinX6 hown hK hP 0 rfl rfl 5 (by decide) (hts (.fieldLink RX6 36 "ChargeStages" "text" "LChargeStages$Text;") (List.mem_of_getElem? (i := 1) rfl)) rfl dX6_clearText_1 ?_
  refine g_get (ci := 5) (v := .int ((t 0) 0)) (C := RX5) (T := TX5) (N := 3) hx hb hts hinX5 hown hK hP 1 rfl rfl 0 (by decide) (hts (.fieldLink RX6 136 "ChargeStages$Text" "length" "I") (List.mem_of_getElem? (i := 2) rfl)) rfl dX6_clearText_4 ?_
  obtain ⟨v1, ev1, hR⟩ := g_let hR
  refine g_topE ev1.symm ?_
  refine lv_istore_n (lv' := [(1, .int v1), (0, .ref (x 0))]) hx hb dX6_clearText_7 rfl hl (by decide) rfl (fun ls hl => ?_)
  refine lv_aload_n hx hb dX6_clearText_8 rfl (lv_at hl 1 rfl) ?_
  refine g_get (ci := 6) (v := .ref (x 136)) (C := RX6) (T := TX6) (N := 7) hx hb hts hinX6 hown hK hP 0 rfl rfl 5 (by decide) (hts (.fieldLink RX6 36 "ChargeStages" "text" "LChargeStages$Text;") (List.mem_of_getElem? (i := 1) rfl)) rfl dX6_clearText_9 ?_
  refine lv_iconst (v := 0) hx hb dX6_clearText_12 (by decide) ?_
  refine g_put (ci := 5) (v := .int 0) (ty := .int) (C := RX5) (T := TX5) (N := 3) (B2 := [CW G x cx, TW G (fun k => x (k + 136)) (sF t 0 (upd (t 0) 0 0))]) hx hb hts hinX5 tyX5 tyX5_ok nmX5 hown hK hP hD hS 1 rfl rfl 0 (by decide) (hts (.fieldLink RX6 136 "ChargeStages$Text" "length" "I") (List.mem_of_getElem? (i := 2) rfl)) rfl (by decide +kernel) rfl rfl (Nat.le_of_ble_eq_true rfl) rfl dX6_clearText_13 (fun H locs hP hD hS => ?_)
  refine lv_iload_n hx hb dX6_clearText_16 rfl (lv_at hl 0 rfl) ?_
  subst hR
  exact g_ret hx hb hr hlocks hS dX6_clearText_17 rfl hP
def f_X6_undo (o : (Nat → Int32)) (st : (Nat → Int32)) (b : (Nat → Nat → Int32)) (pf : (Nat → Nat → Int32)) (g : (Nat → Nat → Int32)) (hh : HVal) : Int32 × (Nat → Int32) × (Nat → Int32) × (Nat → Nat → Int32) × (Nat → Nat → Int32) × (Nat → Nat → Int32) × HVal := (if (nI hh.1) = 0 then ((-5), o, st, b, pf, g, hh) else (gL (f_htake hh) (fun (R2 : SVal × HVal) => (nI R2.2.1, R2.1.1, R2.1.2.1, R2.1.2.2.1, R2.1.2.2.2.1, R2.1.2.2.2.2, R2.2))))
def ok_X6_undo (hh : HVal) : Prop := (((nI hh.1) = 0 → True) ∧ (¬ (nI hh.1) = 0 → (ok_htake hh) ∧ True))
set_option maxHeartbeats 4000000 in
set_option maxRecDepth 100000 in
theorem c_X6_undo (l : Launch) (G : gG) (x : Nat → Nat) (cx : (Nat → Int32)) (o : (Nat → Int32)) (st : (Nat → Int32)) (b : (Nat → Nat → Int32)) (pf : (Nat → Nat → Int32)) (g : (Nat → Nat → Int32)) (hh : HVal) (R : Int32 × (Nat → Int32) × (Nat → Int32) × (Nat → Nat → Int32) × (Nat → Nat → Int32) × (Nat → Nat → Int32) × HVal) (hR : R = f_X6_undo o st b pf g hh) (hok : ok_X6_undo hh) : CT l G yX6_undo wsX6_undo 4 81 [.ref (x 0)] [CW G x cx, OW G (fun k => x (k + 1)) o, AW G (x 2) 9 st, BW G (fun k => x (k + 3)) b, PW G (fun k => x (k + 11)) pf, LW G (fun k => x (k + 16)) g, HGW G (fun k => x (k + 58)) hh] (some (.int R.1)) [CW G x cx, OW G (fun k => x (k + 1)) R.2.1, AW G (x 2) 9 R.2.2.1, BW G (fun k => x (k + 3)) R.2.2.2.1, PW G (fun k => x (k + 11)) R.2.2.2.2.1, LW G (fun k => x (k + 16)) R.2.2.2.2.2.1, HGW G (fun k => x (k + 58)) R.2.2.2.2.2.2] := by
  unfold f_X6_undo at hR
  unfold ok_X6_undo at hok
  refine CT.of (cc := cX6_undo) (maxL := 1) (ret := (some .int)) (plainFor_of_name (by decide +kernel)) rfl rfl (Nat.le_of_ble_eq_true rfl) ?_
  intro p e s m below meth c A ls hx hb hml hr hts hown hlocks hK hP hD hA hS hl
  have hown : s.vm.findClass RX6 = some m.cls := hown
  have hl : lv_has ls 1 [(0, .ref (x 0))] := hl
  have hinX1 : ∀ w ∈ wsX10, w ∈ wsX6_undo := fun w h => List.mem_cons_of_mem _ (List.mem_append_left _ (List.mem_append_left _ (List.mem_append_left _ (List.mem_append_left _ (List.mem_append_right _ h)))))
  have hinX6 : ∀ w ∈ wsX60, w ∈ wsX6_undo := fun w h => List.mem_cons_of_mem _ (List.mem_append_left _ (List.mem_append_left _ (List.mem_append_left _ (List.mem_append_left _ (List.mem_append_left _ (List.mem_append_right _ h))))))
  refine lv_aload_n hx hb dX6_undo_0 rfl (lv_at hl 0 rfl) ?_
  refine g_get (ci := 6) (v := .ref (x 58)) (C := RX6) (T := TX6) (N := 7) hx hb hts hinX6 hown hK hP 0 rfl rfl 4 (by decide) (hts (.fieldLink RX6 29 "ChargeStages" "history" "LChargeStages$History;") (List.mem_of_getElem? (i := 1) rfl)) rfl dX6_undo_1 ?_
  refine g_get (ci := 1) (v := .int (nI hh.1)) (C := RX1) (T := TX1) (N := 2) hx hb hts hinX1 hown hK hP 20 rfl rfl 0 (by decide) (hts (.fieldLink RX6 142 "ChargeStages$History" "states" "I") (List.mem_of_getElem? (i := 2) rfl)) rfl dX6_undo_4 ?_
  refine lv_if_ne (tgt := 13) hx hb dX6_undo_7 (by decide) (fun c1 => ?_) (fun c1 => ?_)
  · rw [if_neg c1] at hR
    have hok := hok.2 c1
    refine lv_aload_n hx hb dX6_undo_13 rfl (lv_at hl 0 rfl) ?_
    refine g_get (ci := 6) (v := .ref (x 58)) (C := RX6) (T := TX6) (N := 7) hx hb hts hinX6 hown hK hP 0 rfl rfl 4 (by decide) (hts (.fieldLink RX6 29 "ChargeStages" "history" "LChargeStages$History;") (List.mem_of_getElem? (i := 1) rfl)) rfl dX6_undo_14 ?_
    refine lv_aload_n hx hb dX6_undo_17 rfl (lv_at hl 0 rfl) ?_
    refine g_get (ci := 6) (v := .ref (x 1)) (C := RX6) (T := TX6) (N := 7) hx hb hts hinX6 hown hK hP 0 rfl rfl 0 (by decide) (hts (.fieldLink RX6 10 "ChargeStages" "now" "LChargeStages$State;") (List.mem_of_getElem? (i := 3) rfl)) rfl dX6_undo_18 ?_
    obtain ⟨k3, hok⟩ := hok
    obtain ⟨R2, eR2, hR⟩ := g_let hR
    refine g_callV (c_htake l G (fun k => x (k + 58)) (fun k => x (k + 1)) o st b pf g hh R2 eR2 k3) hx hb hml hown hts hK hP hD hS hA gX6_undo_X1_takeInto rfl (n := 1) (by decide +kernel) rfl ⟨Nat.le_of_ble_eq_true rfl, Nat.le_of_ble_eq_true rfl⟩ [1, 2, 3, 4, 5, 6] rfl (by decide) 20 rfl (ci := 1) rfl hl.1 rfl (Nat.le_of_ble_eq_true rfl) ⟨Nat.zero_le _, Nat.zero_le _⟩ dX6_undo_21 (fun H locs hP hD hS => ?_)
    have hP : va_P G.1 vwCl (List.flatten [CW G x cx, OW G (fun k => x (k + 1)) R2.1.1, AW G (x 2) 9 R2.1.2.1, BW G (fun k => x (k + 3)) R2.1.2.2.1, PW G (fun k => x (k + 11)) R2.1.2.2.2.1, LW G (fun k => x (k + 16)) R2.1.2.2.2.2, HGW G (fun k => x (k + 58)) R2.2]) H := hP
    have hD : va_D A (List.flatten [CW G x cx, OW G (fun k => x (k + 1)) R2.1.1, AW G (x 2) 9 R2.1.2.1, BW G (fun k => x (k + 3)) R2.1.2.2.1, PW G (fun k => x (k + 11)) R2.1.2.2.2.1, LW G (fun k => x (k + 16)) R2.1.2.2.2.2, HGW G (fun k => x (k + 58)) R2.2]) := hD
    refine lv_aload_n hx hb dX6_undo_24 rfl (lv_at hl 0 rfl) ?_
    refine g_get (ci := 6) (v := .ref (x 58)) (C := RX6) (T := TX6) (N := 7) hx hb hts hinX6 hown hK hP 0 rfl rfl 4 (by decide) (hts (.fieldLink RX6 29 "ChargeStages" "history" "LChargeStages$History;") (List.mem_of_getElem? (i := 1) rfl)) rfl dX6_undo_25 ?_
    refine g_get (ci := 1) (v := .int (nI R2.2.1)) (C := RX1) (T := TX1) (N := 2) hx hb hts hinX1 hown hK hP 20 rfl rfl 0 (by decide) (hts (.fieldLink RX6 142 "ChargeStages$History" "states" "I") (List.mem_of_getElem? (i := 2) rfl)) rfl dX6_undo_28 ?_
    subst hR
    exact g_ret hx hb hr hlocks hS dX6_undo_31 rfl hP
  · rw [if_pos c1] at hR
    have hok := hok.1 c1
    refine lv_bipush (v := (-5)) hx hb dX6_undo_10 (by decide) ?_
    subst hR
    exact g_ret hx hb hr hlocks hS dX6_undo_12 rfl hP
def f_X6_keep (cx : (Nat → Int32)) (o : (Nat → Int32)) (st : (Nat → Int32)) (b : (Nat → Nat → Int32)) (pf : (Nat → Nat → Int32)) (g : (Nat → Nat → Int32)) : Int32 × (Nat → Int32) × (Nat → Int32) × (Nat → Int32) × (Nat → Nat → Int32) × (Nat → Nat → Int32) × (Nat → Nat → Int32) := (o 3, (upd cx 0 1), o, st, b, pf, g)
def ok_X6_keep (o : (Nat → Int32)) : Prop := (ok_X4_copyFrom o) ∧ True
set_option maxHeartbeats 4000000 in
set_option maxRecDepth 100000 in
theorem c_X6_keep (l : Launch) (G : gG) (x : Nat → Nat) (cx : (Nat → Int32)) (o : (Nat → Int32)) (st : (Nat → Int32)) (b : (Nat → Nat → Int32)) (pf : (Nat → Nat → Int32)) (g : (Nat → Nat → Int32)) (so : (Nat → Int32)) (sst : (Nat → Int32)) (sb : (Nat → Nat → Int32)) (sp : (Nat → Nat → Int32)) (sg : (Nat → Nat → Int32)) (R : Int32 × (Nat → Int32) × (Nat → Int32) × (Nat → Int32) × (Nat → Nat → Int32) × (Nat → Nat → Int32) × (Nat → Nat → Int32)) (hR : R = f_X6_keep cx o st b pf g) (hok : ok_X6_keep o) : CT l G yX6_keep wsX6_keep 3 60 [.ref (x 0)] [CW G x cx, OW G (fun k => x (k + 1)) o, AW G (x 2) 9 st, BW G (fun k => x (k + 3)) b, PW G (fun k => x (k + 11)) pf, LW G (fun k => x (k + 16)) g, OW G (fun k => x (k + 39)) so, AW G (x 40) 9 sst, BW G (fun k => x (k + 41)) sb, PW G (fun k => x (k + 49)) sp, LW G (fun k => x (k + 54)) sg] (some (.int R.1)) [CW G x R.2.1, OW G (fun k => x (k + 1)) o, AW G (x 2) 9 st, BW G (fun k => x (k + 3)) b, PW G (fun k => x (k + 11)) pf, LW G (fun k => x (k + 16)) g, OW G (fun k => x (k + 39)) R.2.2.1, AW G (x 40) 9 R.2.2.2.1, BW G (fun k => x (k + 41)) R.2.2.2.2.1, PW G (fun k => x (k + 49)) R.2.2.2.2.2.1, LW G (fun k => x (k + 54)) R.2.2.2.2.2.2] := by
  unfold f_X6_keep at hR
  unfold ok_X6_keep at hok
  refine CT.of (cc := cX6_keep) (maxL := 1) (ret := (some .int)) (plainFor_of_name (by decide +kernel)) rfl rfl (Nat.le_of_ble_eq_true rfl) ?_
  intro p e s m below meth c A ls hx hb hml hr hts hown hlocks hK hP hD hA hS hl
  have hown : s.vm.findClass RX6 = some m.cls := hown
  have hl : lv_has ls 1 [(0, .ref (x 0))] := hl
  have hinX4 : ∀ w ∈ wsX40, w ∈ wsX6_keep := fun w h => List.mem_cons_of_mem _ (List.mem_append_left _ (List.mem_append_left _ (List.mem_append_left _ (List.mem_append_right _ h))))
  have hinX6 : ∀ w ∈ wsX60, w ∈ wsX6_keep := fun w h => List.mem_cons_of_mem _ (List.mem_append_left _ (List.mem_append_left _ (List.mem_append_left _ (List.mem_append_left _ (List.mem_append_right _ h)))))
  refine lv_aload_n hx hb dX6_keep_0 rfl (lv_at hl 0 rfl) ?_
  refine g_get (ci := 6) (v := .ref (x 39)) (C := RX6) (T := TX6) (N := 7) hx hb hts hinX6 hown hK hP 0 rfl rfl 2 (by decide) (hts (.fieldLink RX6 19 "ChargeStages" "snapshot" "LChargeStages$State;") (List.mem_of_getElem? (i := 1) rfl)) rfl dX6_keep_1 ?_
  refine lv_aload_n hx hb dX6_keep_4 rfl (lv_at hl 0 rfl) ?_
  refine g_get (ci := 6) (v := .ref (x 1)) (C := RX6) (T := TX6) (N := 7) hx hb hts hinX6 hown hK hP 0 rfl rfl 0 (by decide) (hts (.fieldLink RX6 10 "ChargeStages" "now" "LChargeStages$State;") (List.mem_of_getElem? (i := 2) rfl)) rfl dX6_keep_5 ?_
  obtain ⟨k1, hok⟩ := hok
  refine g_callV (c_X4_copyFrom l G (fun k => x (k + 39)) (fun k => x (k + 1)) so sst sb sp sg o st b pf g k1) hx hb hml hown hts hK hP hD hS hA gX6_keep_X4_copyFrom rfl (n := 1) (by decide +kernel) rfl ⟨Nat.le_of_ble_eq_true rfl, Nat.le_of_ble_eq_true rfl⟩ [6, 7, 8, 9, 10, 1, 2, 3, 4, 5] rfl (by decide) 20 rfl (ci := 4) rfl hl.1 rfl (Nat.le_of_ble_eq_true rfl) ⟨Nat.zero_le _, Nat.zero_le _⟩ dX6_keep_8 (fun H locs hP hD hS => ?_)
  have hP : va_P G.1 vwCl (List.flatten [CW G x cx, OW G (fun k => x (k + 1)) o, AW G (x 2) 9 st, BW G (fun k => x (k + 3)) b, PW G (fun k => x (k + 11)) pf, LW G (fun k => x (k + 16)) g, OW G (fun k => x (k + 39)) o, AW G (x 40) 9 st, BW G (fun k => x (k + 41)) b, PW G (fun k => x (k + 49)) pf, LW G (fun k => x (k + 54)) g]) H := hP
  have hD : va_D A (List.flatten [CW G x cx, OW G (fun k => x (k + 1)) o, AW G (x 2) 9 st, BW G (fun k => x (k + 3)) b, PW G (fun k => x (k + 11)) pf, LW G (fun k => x (k + 16)) g, OW G (fun k => x (k + 39)) o, AW G (x 40) 9 st, BW G (fun k => x (k + 41)) b, PW G (fun k => x (k + 49)) pf, LW G (fun k => x (k + 54)) g]) := hD
  refine lv_aload_n hx hb dX6_keep_11 rfl (lv_at hl 0 rfl) ?_
  refine lv_iconst (v := 1) hx hb dX6_keep_12 (by decide) ?_
  refine g_put (ci := 6) (v := .int 1) (ty := .boolean) (C := RX6) (T := TX6) (N := 7) (B2 := [CW G x (upd cx 0 1), OW G (fun k => x (k + 1)) o, AW G (x 2) 9 st, BW G (fun k => x (k + 3)) b, PW G (fun k => x (k + 11)) pf, LW G (fun k => x (k + 16)) g, OW G (fun k => x (k + 39)) o, AW G (x 40) 9 st, BW G (fun k => x (k + 41)) b, PW G (fun k => x (k + 49)) pf, LW G (fun k => x (k + 54)) g]) hx hb hts hinX6 tyX6 tyX6_ok nmX6 hown hK hP hD hS 0 rfl rfl 3 (by decide) (hts (.fieldLink RX6 22 "ChargeStages" "hasSnapshot" "Z") (List.mem_of_getElem? (i := 3) rfl)) rfl (by decide +kernel) rfl rfl (Nat.le_of_ble_eq_true rfl) rfl dX6_keep_13 (fun H locs hP hD hS => ?_)
  refine lv_aload_n hx hb dX6_keep_16 rfl (lv_at hl 0 rfl) ?_
  refine g_get (ci := 6) (v := .ref (x 1)) (C := RX6) (T := TX6) (N := 7) hx hb hts hinX6 hown hK hP 0 rfl rfl 0 (by decide) (hts (.fieldLink RX6 10 "ChargeStages" "now" "LChargeStages$State;") (List.mem_of_getElem? (i := 2) rfl)) rfl dX6_keep_17 ?_
  refine g_get (ci := 4) (v := .int (o 3)) (C := RX4) (T := TX4) (N := 12) hx hb hts hinX4 hown hK hP 1 rfl rfl 7 (by decide) (hts (.fieldLink RX6 129 "ChargeStages$State" "tick" "I") (List.mem_of_getElem? (i := 4) rfl)) rfl dX6_keep_20 ?_
  subst hR
  exact g_ret hx hb hr hlocks hS dX6_keep_23 rfl hP
def f_X6_restore (cx : (Nat → Int32)) (o : (Nat → Int32)) (st : (Nat → Int32)) (b : (Nat → Nat → Int32)) (pf : (Nat → Nat → Int32)) (g : (Nat → Nat → Int32)) (so : (Nat → Int32)) (sst : (Nat → Int32)) (sb : (Nat → Nat → Int32)) (sp : (Nat → Nat → Int32)) (sg : (Nat → Nat → Int32)) (hh : HVal) : Int32 × (Nat → Int32) × (Nat → Int32) × (Nat → Nat → Int32) × (Nat → Nat → Int32) × (Nat → Nat → Int32) × HVal := (if (cx 0) = 0 then ((-5), o, st, b, pf, g, hh) else (gL (f_hadd o st b pf g hh) (fun (R2 : HVal) => (so 3, so, sst, sb, sp, sg, R2))))
def ok_X6_restore (cx : (Nat → Int32)) (o : (Nat → Int32)) (st : (Nat → Int32)) (b : (Nat → Nat → Int32)) (pf : (Nat → Nat → Int32)) (g : (Nat → Nat → Int32)) (so : (Nat → Int32)) (hh : HVal) : Prop := (((cx 0) = 0 → True) ∧ (¬ (cx 0) = 0 → (ok_hadd o hh) ∧ (gL (f_hadd o st b pf g hh) (fun (R2 : HVal) => (ok_X4_copyFrom so) ∧ True))))
set_option maxHeartbeats 4000000 in
set_option maxRecDepth 100000 in
theorem c_X6_restore (l : Launch) (G : gG) (x : Nat → Nat) (cx : (Nat → Int32)) (o : (Nat → Int32)) (st : (Nat → Int32)) (b : (Nat → Nat → Int32)) (pf : (Nat → Nat → Int32)) (g : (Nat → Nat → Int32)) (so : (Nat → Int32)) (sst : (Nat → Int32)) (sb : (Nat → Nat → Int32)) (sp : (Nat → Nat → Int32)) (sg : (Nat → Nat → Int32)) (hh : HVal) (R : Int32 × (Nat → Int32) × (Nat → Int32) × (Nat → Nat → Int32) × (Nat → Nat → Int32) × (Nat → Nat → Int32) × HVal) (hR : R = f_X6_restore cx o st b pf g so sst sb sp sg hh) (hok : ok_X6_restore cx o st b pf g so hh) : CT l G yX6_restore wsX6_restore 4 81 [.ref (x 0)] [CW G x cx, OW G (fun k => x (k + 1)) o, AW G (x 2) 9 st, BW G (fun k => x (k + 3)) b, PW G (fun k => x (k + 11)) pf, LW G (fun k => x (k + 16)) g, OW G (fun k => x (k + 39)) so, AW G (x 40) 9 sst, BW G (fun k => x (k + 41)) sb, PW G (fun k => x (k + 49)) sp, LW G (fun k => x (k + 54)) sg, HGW G (fun k => x (k + 58)) hh] (some (.int R.1)) [CW G x cx, OW G (fun k => x (k + 1)) R.2.1, AW G (x 2) 9 R.2.2.1, BW G (fun k => x (k + 3)) R.2.2.2.1, PW G (fun k => x (k + 11)) R.2.2.2.2.1, LW G (fun k => x (k + 16)) R.2.2.2.2.2.1, OW G (fun k => x (k + 39)) so, AW G (x 40) 9 sst, BW G (fun k => x (k + 41)) sb, PW G (fun k => x (k + 49)) sp, LW G (fun k => x (k + 54)) sg, HGW G (fun k => x (k + 58)) R.2.2.2.2.2.2] := by
  unfold f_X6_restore at hR
  unfold ok_X6_restore at hok
  refine CT.of (cc := cX6_restore) (maxL := 1) (ret := (some .int)) (plainFor_of_name (by decide +kernel)) rfl rfl (Nat.le_of_ble_eq_true rfl) ?_
  intro p e s m below meth c A ls hx hb hml hr hts hown hlocks hK hP hD hA hS hl
  have hown : s.vm.findClass RX6 = some m.cls := hown
  have hl : lv_has ls 1 [(0, .ref (x 0))] := hl
  have hinX4 : ∀ w ∈ wsX40, w ∈ wsX6_restore := fun w h => List.mem_cons_of_mem _ (List.mem_append_left _ (List.mem_append_left _ (List.mem_append_left _ (List.mem_append_left _ (List.mem_append_right _ h)))))
  have hinX6 : ∀ w ∈ wsX60, w ∈ wsX6_restore := fun w h => List.mem_cons_of_mem _ (List.mem_append_left _ (List.mem_append_left _ (List.mem_append_left _ (List.mem_append_left _ (List.mem_append_left _ (List.mem_append_right _ h))))))
  refine lv_aload_n hx hb dX6_restore_0 rfl (lv_at hl 0 rfl) ?_
  refine g_get (ci := 6) (v := .int (cx 0)) (C := RX6) (T := TX6) (N := 7) hx hb hts hinX6 hown hK hP 0 rfl rfl 3 (by decide) (hts (.fieldLink RX6 22 "ChargeStages" "hasSnapshot" "Z") (List.mem_of_getElem? (i := 1) rfl)) rfl dX6_restore_1 ?_
  refine lv_if_ne (tgt := 10) hx hb dX6_restore_4 (by decide) (fun c1 => ?_) (fun c1 => ?_)
  · rw [if_neg c1] at hR
    have hok := hok.2 c1
    refine lv_aload_n hx hb dX6_restore_10 rfl (lv_at hl 0 rfl) ?_
    refine g_get (ci := 6) (v := .ref (x 58)) (C := RX6) (T := TX6) (N := 7) hx hb hts hinX6 hown hK hP 0 rfl rfl 4 (by decide) (hts (.fieldLink RX6 29 "ChargeStages" "history" "LChargeStages$History;") (List.mem_of_getElem? (i := 2) rfl)) rfl dX6_restore_11 ?_
    refine lv_aload_n hx hb dX6_restore_14 rfl (lv_at hl 0 rfl) ?_
    refine g_get (ci := 6) (v := .ref (x 1)) (C := RX6) (T := TX6) (N := 7) hx hb hts hinX6 hown hK hP 0 rfl rfl 0 (by decide) (hts (.fieldLink RX6 10 "ChargeStages" "now" "LChargeStages$State;") (List.mem_of_getElem? (i := 3) rfl)) rfl dX6_restore_15 ?_
    obtain ⟨k3, hok⟩ := hok
    obtain ⟨R2, eR2, hR, hok⟩ := g_let2 hR hok
    refine g_callV (c_hadd l G (fun k => x (k + 58)) (fun k => x (k + 1)) o st b pf g hh R2 eR2 k3) hx hb hml hown hts hK hP hD hS hA gX6_restore_X1_add rfl (n := 1) (by decide +kernel) rfl ⟨Nat.le_of_ble_eq_true rfl, Nat.le_of_ble_eq_true rfl⟩ [1, 2, 3, 4, 5, 11] rfl (by decide) 39 rfl (ci := 1) rfl hl.1 rfl (Nat.le_of_ble_eq_true rfl) ⟨Nat.zero_le _, Nat.zero_le _⟩ dX6_restore_18 (fun H locs hP hD hS => ?_)
    have hP : va_P G.1 vwCl (List.flatten [CW G x cx, OW G (fun k => x (k + 1)) o, AW G (x 2) 9 st, BW G (fun k => x (k + 3)) b, PW G (fun k => x (k + 11)) pf, LW G (fun k => x (k + 16)) g, OW G (fun k => x (k + 39)) so, AW G (x 40) 9 sst, BW G (fun k => x (k + 41)) sb, PW G (fun k => x (k + 49)) sp, LW G (fun k => x (k + 54)) sg, HGW G (fun k => x (k + 58)) R2]) H := hP
    have hD : va_D A (List.flatten [CW G x cx, OW G (fun k => x (k + 1)) o, AW G (x 2) 9 st, BW G (fun k => x (k + 3)) b, PW G (fun k => x (k + 11)) pf, LW G (fun k => x (k + 16)) g, OW G (fun k => x (k + 39)) so, AW G (x 40) 9 sst, BW G (fun k => x (k + 41)) sb, PW G (fun k => x (k + 49)) sp, LW G (fun k => x (k + 54)) sg, HGW G (fun k => x (k + 58)) R2]) := hD
    refine lv_aload_n hx hb dX6_restore_21 rfl (lv_at hl 0 rfl) ?_
    refine g_get (ci := 6) (v := .ref (x 1)) (C := RX6) (T := TX6) (N := 7) hx hb hts hinX6 hown hK hP 0 rfl rfl 0 (by decide) (hts (.fieldLink RX6 10 "ChargeStages" "now" "LChargeStages$State;") (List.mem_of_getElem? (i := 3) rfl)) rfl dX6_restore_22 ?_
    refine lv_aload_n hx hb dX6_restore_25 rfl (lv_at hl 0 rfl) ?_
    refine g_get (ci := 6) (v := .ref (x 39)) (C := RX6) (T := TX6) (N := 7) hx hb hts hinX6 hown hK hP 0 rfl rfl 2 (by decide) (hts (.fieldLink RX6 19 "ChargeStages" "snapshot" "LChargeStages$State;") (List.mem_of_getElem? (i := 4) rfl)) rfl dX6_restore_26 ?_
    obtain ⟨k4, hok⟩ := hok
    refine g_callV (c_X4_copyFrom l G (fun k => x (k + 1)) (fun k => x (k + 39)) o st b pf g so sst sb sp sg k4) hx hb hml hown hts hK hP hD hS hA gX6_restore_X4_copyFrom rfl (n := 1) (by decide +kernel) rfl ⟨Nat.le_of_ble_eq_true rfl, Nat.le_of_ble_eq_true rfl⟩ [1, 2, 3, 4, 5, 6, 7, 8, 9, 10] rfl (by decide) 1 rfl (ci := 4) rfl hl.1 rfl (Nat.le_of_ble_eq_true rfl) ⟨Nat.zero_le _, Nat.zero_le _⟩ dX6_restore_29 (fun H locs hP hD hS => ?_)
    have hP : va_P G.1 vwCl (List.flatten [CW G x cx, OW G (fun k => x (k + 1)) so, AW G (x 2) 9 sst, BW G (fun k => x (k + 3)) sb, PW G (fun k => x (k + 11)) sp, LW G (fun k => x (k + 16)) sg, OW G (fun k => x (k + 39)) so, AW G (x 40) 9 sst, BW G (fun k => x (k + 41)) sb, PW G (fun k => x (k + 49)) sp, LW G (fun k => x (k + 54)) sg, HGW G (fun k => x (k + 58)) R2]) H := hP
    have hD : va_D A (List.flatten [CW G x cx, OW G (fun k => x (k + 1)) so, AW G (x 2) 9 sst, BW G (fun k => x (k + 3)) sb, PW G (fun k => x (k + 11)) sp, LW G (fun k => x (k + 16)) sg, OW G (fun k => x (k + 39)) so, AW G (x 40) 9 sst, BW G (fun k => x (k + 41)) sb, PW G (fun k => x (k + 49)) sp, LW G (fun k => x (k + 54)) sg, HGW G (fun k => x (k + 58)) R2]) := hD
    refine lv_aload_n hx hb dX6_restore_32 rfl (lv_at hl 0 rfl) ?_
    refine g_get (ci := 6) (v := .ref (x 1)) (C := RX6) (T := TX6) (N := 7) hx hb hts hinX6 hown hK hP 0 rfl rfl 0 (by decide) (hts (.fieldLink RX6 10 "ChargeStages" "now" "LChargeStages$State;") (List.mem_of_getElem? (i := 3) rfl)) rfl dX6_restore_33 ?_
    refine g_get (ci := 4) (v := .int (so 3)) (C := RX4) (T := TX4) (N := 12) hx hb hts hinX4 hown hK hP 1 rfl rfl 7 (by decide) (hts (.fieldLink RX6 129 "ChargeStages$State" "tick" "I") (List.mem_of_getElem? (i := 5) rfl)) rfl dX6_restore_36 ?_
    subst hR
    exact g_ret hx hb hr hlocks hS dX6_restore_39 rfl hP
  · rw [if_pos c1] at hR
    have hok := hok.1 c1
    refine lv_bipush (v := (-5)) hx hb dX6_restore_7 (by decide) ?_
    subst hR
    exact g_ret hx hb hr hlocks hS dX6_restore_9 rfl hP
