/-- the values of a new object -/
def nB (r _ : Nat) : Int32 := if r = 0 then 3 else 0
def n2 (_ _ : Nat) : Int32 := 0
def n1 (_ : Nat) : Int32 := 0
def nS : SVal := (n1, n1, nB, n2, n2)
def nC : SVal := (n1, cFirst, nB, n2, n2)
/-- addresses side by side -/
def aL (l : List Nat) : Nat → Nat := fun k => l.getD k 0
def aC (n : Nat) (a b : Nat → Nat) : Nat → Nat := fun k => if k < n then a k else b (k - n)
theorem g_one (w : va_W) : List.flatten [w] = w := by simp
set_option maxHeartbeats 4000000 in
set_option maxRecDepth 100000 in
theorem c_X0_init (l : Launch) (G : gG) (h : Nat) : CI l G yX0_init wsX0_init 1 12 7 42 h (.inr (0, [.int 0, .null, .null, .null, .null, .null, .null, .null])) (fun a => [BW G a nB]) (fun _ _ => True) := by
  refine CI.of (cc := cX0_init) (maxL := 1) (plainFor_of_name (by decide +kernel)) rfl rfl (Nat.le_of_ble_eq_true rfl) ?_
  intro p e s m below meth c A ls hx hb hml hr hts hown hlocks hin hK hP hD hA hS hl hZ
  have hown : s.vm.findClass RX0 = some m.cls := hown
  have hl : lv_has ls 1 [(0, .ref h)] := hl
  have hP : va_P G.1 vwCl (List.flatten [[bwO h 0 [.int 0, .null, .null, .null, .null, .null, .null, .null]]]) s.heap := hP
  have hinX0 : ∀ w ∈ wsX00, w ∈ wsX0_init := fun w h => List.mem_cons_of_mem _ (List.mem_append_right _ h)
  refine lv_aload_n hx hb dX0_init_0 rfl (lv_at hl 0 rfl) ?_
  refine W.objInit hx hb hown (hts (.methodLink RX0 3 objectInit) (List.mem_of_getElem? (i := 1) rfl)) (hts (.instanceMethod objectInit) (List.mem_of_getElem? (i := 2) rfl)) (hts (.code objectInit ⟨#[0xb1]⟩ 1 none) (List.mem_of_getElem? (i := 3) rfl)) rfl (by rw [hml]; exact hl.1) rfl dX0_init_1 (Nat.le_of_ble_eq_true rfl) (Nat.le_of_ble_eq_true rfl) ?_
  refine W.eq (g2 := F0 m 4 ls []) rfl ?_
  refine lv_aload_n hx hb dX0_init_4 rfl (lv_at hl 0 rfl) ?_
  refine lv_iconst (v := 3) hx hb dX0_init_5 (by decide) ?_
  refine g_put (ci := 0) (v := .int 3) (ty := .int) (C := RX0) (T := TX0) (N := 8) (B2 := [[bwO h 0 [.int 3, .null, .null, .null, .null, .null, .null, .null]]]) hx hb hts hinX0 tyX0 tyX0_ok nmX0 hown hK hP hD hS 0 rfl rfl 0 (by decide) (hts (.fieldLink RX0 9 "ChargeStages$Battery" "cells" "I") (List.mem_of_getElem? (i := 4) rfl)) rfl (by decide +kernel) rfl rfl (Nat.le_of_ble_eq_true rfl) rfl dX0_init_6 (fun H locs hP hD hS => ?_)
  refine lv_aload_n hx hb dX0_init_9 rfl (lv_at hl 0 rfl) ?_
  refine lv_bipush (v := 6) hx hb dX0_init_10 (by decide) ?_
  refine g_newi (N := 6) hx hb (hts (.arrayClass .int) (List.mem_of_getElem? (i := 5) rfl)) hK hP hD hS hA (by decide) (by decide) (Nat.le_of_ble_eq_true rfl) (Nat.le_of_ble_eq_true rfl) (Nat.le_of_ble_eq_true rfl) dX0_init_12 (fun q1 H hP hD hS => ?_)
  have hP : va_P G.1 vwCl (List.flatten [[bwO h 0 [.int 3, .null, .null, .null, .null, .null, .null, .null]], [bwI G q1 6 (fun _ => 0)]]) H := hP
  have hD : va_D A (List.flatten [[bwO h 0 [.int 3, .null, .null, .null, .null, .null, .null, .null]], [bwI G q1 6 (fun _ => 0)]]) := hD
  refine g_putF (ci := 0) (v := .ref q1) (ty := (.array .int)) (C := RX0) (T := TX0) (N := 8) (B2 := [[bwO h 0 [.int 3, .ref q1, .null, .null, .null, .null, .null, .null]], [bwI G q1 6 (fun _ => 0)]]) hx hb hts hinX0 tyX0 tyX0_ok nmX0 hown hK hP hD hS 0 rfl rfl 1 (by decide) (hts (.fieldLink RX0 15 "ChargeStages$Battery" "charge" "[I") (List.mem_of_getElem? (i := 6) rfl)) rfl hin rfl (by decide +kernel) rfl rfl (Nat.le_of_ble_eq_true rfl) rfl dX0_init_14 (fun H locs hP hD hS => ?_)
  refine lv_aload_n hx hb dX0_init_17 rfl (lv_at hl 0 rfl) ?_
  refine lv_bipush (v := 6) hx hb dX0_init_18 (by decide) ?_
  refine g_newi (N := 6) hx hb (hts (.arrayClass .int) (List.mem_of_getElem? (i := 5) rfl)) hK hP hD hS hA (by decide) (by decide) (Nat.le_of_ble_eq_true rfl) (Nat.le_of_ble_eq_true rfl) (Nat.le_of_ble_eq_true rfl) dX0_init_20 (fun q2 H hP hD hS => ?_)
  have hP : va_P G.1 vwCl (List.flatten [[bwO h 0 [.int 3, .ref q1, .null, .null, .null, .null, .null, .null]], [bwI G q1 6 (fun _ => 0)], [bwI G q2 6 (fun _ => 0)]]) H := hP
  have hD : va_D A (List.flatten [[bwO h 0 [.int 3, .ref q1, .null, .null, .null, .null, .null, .null]], [bwI G q1 6 (fun _ => 0)], [bwI G q2 6 (fun _ => 0)]]) := hD
  refine g_putF (ci := 0) (v := .ref q2) (ty := (.array .int)) (C := RX0) (T := TX0) (N := 8) (B2 := [[bwO h 0 [.int 3, .ref q1, .ref q2, .null, .null, .null, .null, .null]], [bwI G q1 6 (fun _ => 0)], [bwI G q2 6 (fun _ => 0)]]) hx hb hts hinX0 tyX0 tyX0_ok nmX0 hown hK hP hD hS 0 rfl rfl 2 (by decide) (hts (.fieldLink RX0 19 "ChargeStages$Battery" "rest" "[I") (List.mem_of_getElem? (i := 7) rfl)) rfl hin rfl (by decide +kernel) rfl rfl (Nat.le_of_ble_eq_true rfl) rfl dX0_init_22 (fun H locs hP hD hS => ?_)
  refine lv_aload_n hx hb dX0_init_25 rfl (lv_at hl 0 rfl) ?_
  refine lv_bipush (v := 6) hx hb dX0_init_26 (by decide) ?_
  refine g_newi (N := 6) hx hb (hts (.arrayClass .int) (List.mem_of_getElem? (i := 5) rfl)) hK hP hD hS hA (by decide) (by decide) (Nat.le_of_ble_eq_true rfl) (Nat.le_of_ble_eq_true rfl) (Nat.le_of_ble_eq_true rfl) dX0_init_28 (fun q3 H hP hD hS => ?_)
  have hP : va_P G.1 vwCl (List.flatten [[bwO h 0 [.int 3, .ref q1, .ref q2, .null, .null, .null, .null, .null]], [bwI G q1 6 (fun _ => 0)], [bwI G q2 6 (fun _ => 0)], [bwI G q3 6 (fun _ => 0)]]) H := hP
  have hD : va_D A (List.flatten [[bwO h 0 [.int 3, .ref q1, .ref q2, .null, .null, .null, .null, .null]], [bwI G q1 6 (fun _ => 0)], [bwI G q2 6 (fun _ => 0)], [bwI G q3 6 (fun _ => 0)]]) := hD
  refine g_putF (ci := 0) (v := .ref q3) (ty := (.array .int)) (C := RX0) (T := TX0) (N := 8) (B2 := [[bwO h 0 [.int 3, .ref q1, .ref q2, .ref q3, .null, .null, .null, .null]], [bwI G q1 6 (fun _ => 0)], [bwI G q2 6 (fun _ => 0)], [bwI G q3 6 (fun _ => 0)]]) hx hb hts hinX0 tyX0 tyX0_ok nmX0 hown hK hP hD hS 0 rfl rfl 3 (by decide) (hts (.fieldLink RX0 22 "ChargeStages$Battery" "cameIn" "[I") (List.mem_of_getElem? (i := 8) rfl)) rfl hin rfl (by decide +kernel) rfl rfl (Nat.le_of_ble_eq_true rfl) rfl dX0_init_30 (fun H locs hP hD hS => ?_)
  refine lv_aload_n hx hb dX0_init_33 rfl (lv_at hl 0 rfl) ?_
  refine lv_bipush (v := 6) hx hb dX0_init_34 (by decide) ?_
  refine g_newi (N := 6) hx hb (hts (.arrayClass .int) (List.mem_of_getElem? (i := 5) rfl)) hK hP hD hS hA (by decide) (by decide) (Nat.le_of_ble_eq_true rfl) (Nat.le_of_ble_eq_true rfl) (Nat.le_of_ble_eq_true rfl) dX0_init_36 (fun q4 H hP hD hS => ?_)
  have hP : va_P G.1 vwCl (List.flatten [[bwO h 0 [.int 3, .ref q1, .ref q2, .ref q3, .null, .null, .null, .null]], [bwI G q1 6 (fun _ => 0)], [bwI G q2 6 (fun _ => 0)], [bwI G q3 6 (fun _ => 0)], [bwI G q4 6 (fun _ => 0)]]) H := hP
  have hD : va_D A (List.flatten [[bwO h 0 [.int 3, .ref q1, .ref q2, .ref q3, .null, .null, .null, .null]], [bwI G q1 6 (fun _ => 0)], [bwI G q2 6 (fun _ => 0)], [bwI G q3 6 (fun _ => 0)], [bwI G q4 6 (fun _ => 0)]]) := hD
  refine g_putF (ci := 0) (v := .ref q4) (ty := (.array .int)) (C := RX0) (T := TX0) (N := 8) (B2 := [[bwO h 0 [.int 3, .ref q1, .ref q2, .ref q3, .ref q4, .null, .null, .null]], [bwI G q1 6 (fun _ => 0)], [bwI G q2 6 (fun _ => 0)], [bwI G q3 6 (fun _ => 0)], [bwI G q4 6 (fun _ => 0)]]) hx hb hts hinX0 tyX0 tyX0_ok nmX0 hown hK hP hD hS 0 rfl rfl 4 (by decide) (hts (.fieldLink RX0 25 "ChargeStages$Battery" "stored" "[I") (List.mem_of_getElem? (i := 9) rfl)) rfl hin rfl (by decide +kernel) rfl rfl (Nat.le_of_ble_eq_true rfl) rfl dX0_init_38 (fun H locs hP hD hS => ?_)
  refine lv_aload_n hx hb dX0_init_41 rfl (lv_at hl 0 rfl) ?_
  refine lv_bipush (v := 6) hx hb dX0_init_42 (by decide) ?_
  refine g_newi (N := 6) hx hb (hts (.arrayClass .int) (List.mem_of_getElem? (i := 5) rfl)) hK hP hD hS hA (by decide) (by decide) (Nat.le_of_ble_eq_true rfl) (Nat.le_of_ble_eq_true rfl) (Nat.le_of_ble_eq_true rfl) dX0_init_44 (fun q5 H hP hD hS => ?_)
  have hP : va_P G.1 vwCl (List.flatten [[bwO h 0 [.int 3, .ref q1, .ref q2, .ref q3, .ref q4, .null, .null, .null]], [bwI G q1 6 (fun _ => 0)], [bwI G q2 6 (fun _ => 0)], [bwI G q3 6 (fun _ => 0)], [bwI G q4 6 (fun _ => 0)], [bwI G q5 6 (fun _ => 0)]]) H := hP
  have hD : va_D A (List.flatten [[bwO h 0 [.int 3, .ref q1, .ref q2, .ref q3, .ref q4, .null, .null, .null]], [bwI G q1 6 (fun _ => 0)], [bwI G q2 6 (fun _ => 0)], [bwI G q3 6 (fun _ => 0)], [bwI G q4 6 (fun _ => 0)], [bwI G q5 6 (fun _ => 0)]]) := hD
  refine g_putF (ci := 0) (v := .ref q5) (ty := (.array .int)) (C := RX0) (T := TX0) (N := 8) (B2 := [[bwO h 0 [.int 3, .ref q1, .ref q2, .ref q3, .ref q4, .ref q5, .null, .null]], [bwI G q1 6 (fun _ => 0)], [bwI G q2 6 (fun _ => 0)], [bwI G q3 6 (fun _ => 0)], [bwI G q4 6 (fun _ => 0)], [bwI G q5 6 (fun _ => 0)]]) hx hb hts hinX0 tyX0 tyX0_ok nmX0 hown hK hP hD hS 0 rfl rfl 5 (by decide) (hts (.fieldLink RX0 28 "ChargeStages$Battery" "spilled" "[I") (List.mem_of_getElem? (i := 10) rfl)) rfl hin rfl (by decide +kernel) rfl rfl (Nat.le_of_ble_eq_true rfl) rfl dX0_init_46 (fun H locs hP hD hS => ?_)
  refine lv_aload_n hx hb dX0_init_49 rfl (lv_at hl 0 rfl) ?_
  refine lv_bipush (v := 6) hx hb dX0_init_50 (by decide) ?_
  refine g_newi (N := 6) hx hb (hts (.arrayClass .int) (List.mem_of_getElem? (i := 5) rfl)) hK hP hD hS hA (by decide) (by decide) (Nat.le_of_ble_eq_true rfl) (Nat.le_of_ble_eq_true rfl) (Nat.le_of_ble_eq_true rfl) dX0_init_52 (fun q6 H hP hD hS => ?_)
  have hP : va_P G.1 vwCl (List.flatten [[bwO h 0 [.int 3, .ref q1, .ref q2, .ref q3, .ref q4, .ref q5, .null, .null]], [bwI G q1 6 (fun _ => 0)], [bwI G q2 6 (fun _ => 0)], [bwI G q3 6 (fun _ => 0)], [bwI G q4 6 (fun _ => 0)], [bwI G q5 6 (fun _ => 0)], [bwI G q6 6 (fun _ => 0)]]) H := hP
  have hD : va_D A (List.flatten [[bwO h 0 [.int 3, .ref q1, .ref q2, .ref q3, .ref q4, .ref q5, .null, .null]], [bwI G q1 6 (fun _ => 0)], [bwI G q2 6 (fun _ => 0)], [bwI G q3 6 (fun _ => 0)], [bwI G q4 6 (fun _ => 0)], [bwI G q5 6 (fun _ => 0)], [bwI G q6 6 (fun _ => 0)]]) := hD
  refine g_putF (ci := 0) (v := .ref q6) (ty := (.array .int)) (C := RX0) (T := TX0) (N := 8) (B2 := [[bwO h 0 [.int 3, .ref q1, .ref q2, .ref q3, .ref q4, .ref q5, .ref q6, .null]], [bwI G q1 6 (fun _ => 0)], [bwI G q2 6 (fun _ => 0)], [bwI G q3 6 (fun _ => 0)], [bwI G q4 6 (fun _ => 0)], [bwI G q5 6 (fun _ => 0)], [bwI G q6 6 (fun _ => 0)]]) hx hb hts hinX0 tyX0 tyX0_ok nmX0 hown hK hP hD hS 0 rfl rfl 6 (by decide) (hts (.fieldLink RX0 31 "ChargeStages$Battery" "bled" "[I") (List.mem_of_getElem? (i := 11) rfl)) rfl hin rfl (by decide +kernel) rfl rfl (Nat.le_of_ble_eq_true rfl) rfl dX0_init_54 (fun H locs hP hD hS => ?_)
  refine lv_aload_n hx hb dX0_init_57 rfl (lv_at hl 0 rfl) ?_
  refine lv_bipush (v := 6) hx hb dX0_init_58 (by decide) ?_
  refine g_newi (N := 6) hx hb (hts (.arrayClass .int) (List.mem_of_getElem? (i := 5) rfl)) hK hP hD hS hA (by decide) (by decide) (Nat.le_of_ble_eq_true rfl) (Nat.le_of_ble_eq_true rfl) (Nat.le_of_ble_eq_true rfl) dX0_init_60 (fun q7 H hP hD hS => ?_)
  have hP : va_P G.1 vwCl (List.flatten [[bwO h 0 [.int 3, .ref q1, .ref q2, .ref q3, .ref q4, .ref q5, .ref q6, .null]], [bwI G q1 6 (fun _ => 0)], [bwI G q2 6 (fun _ => 0)], [bwI G q3 6 (fun _ => 0)], [bwI G q4 6 (fun _ => 0)], [bwI G q5 6 (fun _ => 0)], [bwI G q6 6 (fun _ => 0)], [bwI G q7 6 (fun _ => 0)]]) H := hP
  have hD : va_D A (List.flatten [[bwO h 0 [.int 3, .ref q1, .ref q2, .ref q3, .ref q4, .ref q5, .ref q6, .null]], [bwI G q1 6 (fun _ => 0)], [bwI G q2 6 (fun _ => 0)], [bwI G q3 6 (fun _ => 0)], [bwI G q4 6 (fun _ => 0)], [bwI G q5 6 (fun _ => 0)], [bwI G q6 6 (fun _ => 0)], [bwI G q7 6 (fun _ => 0)]]) := hD
  refine g_putF (ci := 0) (v := .ref q7) (ty := (.array .int)) (C := RX0) (T := TX0) (N := 8) (B2 := [[bwO h 0 [.int 3, .ref q1, .ref q2, .ref q3, .ref q4, .ref q5, .ref q6, .ref q7]], [bwI G q1 6 (fun _ => 0)], [bwI G q2 6 (fun _ => 0)], [bwI G q3 6 (fun _ => 0)], [bwI G q4 6 (fun _ => 0)], [bwI G q5 6 (fun _ => 0)], [bwI G q6 6 (fun _ => 0)], [bwI G q7 6 (fun _ => 0)]]) hx hb hts hinX0 tyX0 tyX0_ok nmX0 hown hK hP hD hS 0 rfl rfl 7 (by decide) (hts (.fieldLink RX0 34 "ChargeStages$Battery" "used" "[I") (List.mem_of_getElem? (i := 12) rfl)) rfl hin rfl (by decide +kernel) rfl rfl (Nat.le_of_ble_eq_true rfl) rfl dX0_init_62 (fun H locs hP hD hS => ?_)
  exact g_retI hx hb hr hlocks hS dX0_init_65 (aL [h, q1, q2, q3, q4, q5, q6, q7]) rfl hP hD
set_option maxHeartbeats 4000000 in
set_option maxRecDepth 100000 in
theorem c_X2_init (l : Launch) (G : gG) (h : Nat) : CI l G yX2_init wsX2_init 1 12 3 30 h (.inr (2, [.int 0, .int 0, .null, .null, .null])) (fun a => [LW G a n2]) (fun _ _ => True) := by
  refine CI.of (cc := cX2_init) (maxL := 1) (plainFor_of_name (by decide +kernel)) rfl rfl (Nat.le_of_ble_eq_true rfl) ?_
  intro p e s m below meth c A ls hx hb hml hr hts hown hlocks hin hK hP hD hA hS hl hZ
  have hown : s.vm.findClass RX2 = some m.cls := hown
  have hl : lv_has ls 1 [(0, .ref h)] := hl
  have hP : va_P G.1 vwCl (List.flatten [[bwO h 2 [.int 0, .int 0, .null, .null, .null]]]) s.heap := hP
  have hinX2 : ∀ w ∈ wsX20, w ∈ wsX2_init := fun w h => List.mem_cons_of_mem _ (List.mem_append_right _ h)
  refine lv_aload_n hx hb dX2_init_0 rfl (lv_at hl 0 rfl) ?_
  refine W.objInit hx hb hown (hts (.methodLink RX2 3 objectInit) (List.mem_of_getElem? (i := 1) rfl)) (hts (.instanceMethod objectInit) (List.mem_of_getElem? (i := 2) rfl)) (hts (.code objectInit ⟨#[0xb1]⟩ 1 none) (List.mem_of_getElem? (i := 3) rfl)) rfl (by rw [hml]; exact hl.1) rfl dX2_init_1 (Nat.le_of_ble_eq_true rfl) (Nat.le_of_ble_eq_true rfl) ?_
  refine W.eq (g2 := F0 m 4 ls []) rfl ?_
  refine lv_aload_n hx hb dX2_init_4 rfl (lv_at hl 0 rfl) ?_
  refine lv_iconst (v := 0) hx hb dX2_init_5 (by decide) ?_
  refine g_put (ci := 2) (v := .int 0) (ty := .int) (C := RX2) (T := TX2) (N := 5) (B2 := [[bwO h 2 [.int 0, .int 0, .null, .null, .null]]]) hx hb hts hinX2 tyX2 tyX2_ok nmX2 hown hK hP hD hS 0 rfl rfl 0 (by decide) (hts (.fieldLink RX2 9 "ChargeStages$Log" "events" "I") (List.mem_of_getElem? (i := 4) rfl)) rfl (by decide +kernel) rfl rfl (Nat.le_of_ble_eq_true rfl) rfl dX2_init_6 (fun H locs hP hD hS => ?_)
  refine lv_aload_n hx hb dX2_init_9 rfl (lv_at hl 0 rfl) ?_
  refine lv_iconst (v := 0) hx hb dX2_init_10 (by decide) ?_
  refine g_put (ci := 2) (v := .int 0) (ty := .int) (C := RX2) (T := TX2) (N := 5) (B2 := [[bwO h 2 [.int 0, .int 0, .null, .null, .null]]]) hx hb hts hinX2 tyX2 tyX2_ok nmX2 hown hK hP hD hS 0 rfl rfl 1 (by decide) (hts (.fieldLink RX2 15 "ChargeStages$Log" "next" "I") (List.mem_of_getElem? (i := 5) rfl)) rfl (by decide +kernel) rfl rfl (Nat.le_of_ble_eq_true rfl) rfl dX2_init_11 (fun H locs hP hD hS => ?_)
  refine lv_aload_n hx hb dX2_init_14 rfl (lv_at hl 0 rfl) ?_
  refine lv_bipush (v := 10) hx hb dX2_init_15 (by decide) ?_
  refine g_newi (N := 10) hx hb (hts (.arrayClass .int) (List.mem_of_getElem? (i := 6) rfl)) hK hP hD hS hA (by decide) (by decide) (Nat.le_of_ble_eq_true rfl) (Nat.le_of_ble_eq_true rfl) (Nat.le_of_ble_eq_true rfl) dX2_init_17 (fun q1 H hP hD hS => ?_)
  have hP : va_P G.1 vwCl (List.flatten [[bwO h 2 [.int 0, .int 0, .null, .null, .null]], [bwI G q1 10 (fun _ => 0)]]) H := hP
  have hD : va_D A (List.flatten [[bwO h 2 [.int 0, .int 0, .null, .null, .null]], [bwI G q1 10 (fun _ => 0)]]) := hD
  refine g_putF (ci := 2) (v := .ref q1) (ty := (.array .int)) (C := RX2) (T := TX2) (N := 5) (B2 := [[bwO h 2 [.int 0, .int 0, .ref q1, .null, .null]], [bwI G q1 10 (fun _ => 0)]]) hx hb hts hinX2 tyX2 tyX2_ok nmX2 hown hK hP hD hS 0 rfl rfl 2 (by decide) (hts (.fieldLink RX2 18 "ChargeStages$Log" "kind" "[I") (List.mem_of_getElem? (i := 7) rfl)) rfl hin rfl (by decide +kernel) rfl rfl (Nat.le_of_ble_eq_true rfl) rfl dX2_init_19 (fun H locs hP hD hS => ?_)
  refine lv_aload_n hx hb dX2_init_22 rfl (lv_at hl 0 rfl) ?_
  refine lv_bipush (v := 10) hx hb dX2_init_23 (by decide) ?_
  refine g_newi (N := 10) hx hb (hts (.arrayClass .int) (List.mem_of_getElem? (i := 6) rfl)) hK hP hD hS hA (by decide) (by decide) (Nat.le_of_ble_eq_true rfl) (Nat.le_of_ble_eq_true rfl) (Nat.le_of_ble_eq_true rfl) dX2_init_25 (fun q2 H hP hD hS => ?_)
  have hP : va_P G.1 vwCl (List.flatten [[bwO h 2 [.int 0, .int 0, .ref q1, .null, .null]], [bwI G q1 10 (fun _ => 0)], [bwI G q2 10 (fun _ => 0)]]) H := hP
  have hD : va_D A (List.flatten [[bwO h 2 [.int 0, .int 0, .ref q1, .null, .null]], [bwI G q1 10 (fun _ => 0)], [bwI G q2 10 (fun _ => 0)]]) := hD
  refine g_putF (ci := 2) (v := .ref q2) (ty := (.array .int)) (C := RX2) (T := TX2) (N := 5) (B2 := [[bwO h 2 [.int 0, .int 0, .ref q1, .ref q2, .null]], [bwI G q1 10 (fun _ => 0)], [bwI G q2 10 (fun _ => 0)]]) hx hb hts hinX2 tyX2 tyX2_ok nmX2 hown hK hP hD hS 0 rfl rfl 3 (by decide) (hts (.fieldLink RX2 22 "ChargeStages$Log" "tick" "[I") (List.mem_of_getElem? (i := 8) rfl)) rfl hin rfl (by decide +kernel) rfl rfl (Nat.le_of_ble_eq_true rfl) rfl dX2_init_27 (fun H locs hP hD hS => ?_)
  refine lv_aload_n hx hb dX2_init_30 rfl (lv_at hl 0 rfl) ?_
  refine lv_bipush (v := 10) hx hb dX2_init_31 (by decide) ?_
  refine g_newi (N := 10) hx hb (hts (.arrayClass .int) (List.mem_of_getElem? (i := 6) rfl)) hK hP hD hS hA (by decide) (by decide) (Nat.le_of_ble_eq_true rfl) (Nat.le_of_ble_eq_true rfl) (Nat.le_of_ble_eq_true rfl) dX2_init_33 (fun q3 H hP hD hS => ?_)
  have hP : va_P G.1 vwCl (List.flatten [[bwO h 2 [.int 0, .int 0, .ref q1, .ref q2, .null]], [bwI G q1 10 (fun _ => 0)], [bwI G q2 10 (fun _ => 0)], [bwI G q3 10 (fun _ => 0)]]) H := hP
  have hD : va_D A (List.flatten [[bwO h 2 [.int 0, .int 0, .ref q1, .ref q2, .null]], [bwI G q1 10 (fun _ => 0)], [bwI G q2 10 (fun _ => 0)], [bwI G q3 10 (fun _ => 0)]]) := hD
  refine g_putF (ci := 2) (v := .ref q3) (ty := (.array .int)) (C := RX2) (T := TX2) (N := 5) (B2 := [[bwO h 2 [.int 0, .int 0, .ref q1, .ref q2, .ref q3]], [bwI G q1 10 (fun _ => 0)], [bwI G q2 10 (fun _ => 0)], [bwI G q3 10 (fun _ => 0)]]) hx hb hts hinX2 tyX2 tyX2_ok nmX2 hown hK hP hD hS 0 rfl rfl 4 (by decide) (hts (.fieldLink RX2 25 "ChargeStages$Log" "stage" "[I") (List.mem_of_getElem? (i := 9) rfl)) rfl hin rfl (by decide +kernel) rfl rfl (Nat.le_of_ble_eq_true rfl) rfl dX2_init_35 (fun H locs hP hD hS => ?_)
  exact g_retI hx hb hr hlocks hS dX2_init_38 (aL [h, q1, q2, q3]) rfl hP hD
set_option maxHeartbeats 4000000 in
set_option maxRecDepth 100000 in
theorem c_X3_init (l : Launch) (G : gG) (h : Nat) : CI l G yX3_init wsX3_init 1 12 4 20 h (.inr (3, [.int 0, .null, .null, .null, .null])) (fun a => [PW G a n2]) (fun _ _ => True) := by
  refine CI.of (cc := cX3_init) (maxL := 1) (plainFor_of_name (by decide +kernel)) rfl rfl (Nat.le_of_ble_eq_true rfl) ?_
  intro p e s m below meth c A ls hx hb hml hr hts hown hlocks hin hK hP hD hA hS hl hZ
  have hown : s.vm.findClass RX3 = some m.cls := hown
  have hl : lv_has ls 1 [(0, .ref h)] := hl
  have hP : va_P G.1 vwCl (List.flatten [[bwO h 3 [.int 0, .null, .null, .null, .null]]]) s.heap := hP
  have hinX3 : ∀ w ∈ wsX30, w ∈ wsX3_init := fun w h => List.mem_cons_of_mem _ (List.mem_append_right _ h)
  refine lv_aload_n hx hb dX3_init_0 rfl (lv_at hl 0 rfl) ?_
  refine W.objInit hx hb hown (hts (.methodLink RX3 3 objectInit) (List.mem_of_getElem? (i := 1) rfl)) (hts (.instanceMethod objectInit) (List.mem_of_getElem? (i := 2) rfl)) (hts (.code objectInit ⟨#[0xb1]⟩ 1 none) (List.mem_of_getElem? (i := 3) rfl)) rfl (by rw [hml]; exact hl.1) rfl dX3_init_1 (Nat.le_of_ble_eq_true rfl) (Nat.le_of_ble_eq_true rfl) ?_
  refine W.eq (g2 := F0 m 4 ls []) rfl ?_
  refine lv_aload_n hx hb dX3_init_4 rfl (lv_at hl 0 rfl) ?_
  refine lv_iconst (v := 0) hx hb dX3_init_5 (by decide) ?_
  refine g_put (ci := 3) (v := .int 0) (ty := .int) (C := RX3) (T := TX3) (N := 5) (B2 := [[bwO h 3 [.int 0, .null, .null, .null, .null]]]) hx hb hts hinX3 tyX3 tyX3_ok nmX3 hown hK hP hD hS 0 rfl rfl 0 (by decide) (hts (.fieldLink RX3 9 "ChargeStages$Profile" "stages" "I") (List.mem_of_getElem? (i := 4) rfl)) rfl (by decide +kernel) rfl rfl (Nat.le_of_ble_eq_true rfl) rfl dX3_init_6 (fun H locs hP hD hS => ?_)
  refine lv_aload_n hx hb dX3_init_9 rfl (lv_at hl 0 rfl) ?_
  refine lv_iconst (v := 5) hx hb dX3_init_10 (by decide) ?_
  refine g_newi (N := 5) hx hb (hts (.arrayClass .int) (List.mem_of_getElem? (i := 5) rfl)) hK hP hD hS hA (by decide) (by decide) (Nat.le_of_ble_eq_true rfl) (Nat.le_of_ble_eq_true rfl) (Nat.le_of_ble_eq_true rfl) dX3_init_11 (fun q1 H hP hD hS => ?_)
  have hP : va_P G.1 vwCl (List.flatten [[bwO h 3 [.int 0, .null, .null, .null, .null]], [bwI G q1 5 (fun _ => 0)]]) H := hP
  have hD : va_D A (List.flatten [[bwO h 3 [.int 0, .null, .null, .null, .null]], [bwI G q1 5 (fun _ => 0)]]) := hD
  refine g_putF (ci := 3) (v := .ref q1) (ty := (.array .int)) (C := RX3) (T := TX3) (N := 5) (B2 := [[bwO h 3 [.int 0, .ref q1, .null, .null, .null]], [bwI G q1 5 (fun _ => 0)]]) hx hb hts hinX3 tyX3 tyX3_ok nmX3 hown hK hP hD hS 0 rfl rfl 1 (by decide) (hts (.fieldLink RX3 15 "ChargeStages$Profile" "kind" "[I") (List.mem_of_getElem? (i := 6) rfl)) rfl hin rfl (by decide +kernel) rfl rfl (Nat.le_of_ble_eq_true rfl) rfl dX3_init_13 (fun H locs hP hD hS => ?_)
  refine lv_aload_n hx hb dX3_init_16 rfl (lv_at hl 0 rfl) ?_
  refine lv_iconst (v := 5) hx hb dX3_init_17 (by decide) ?_
  refine g_newi (N := 5) hx hb (hts (.arrayClass .int) (List.mem_of_getElem? (i := 5) rfl)) hK hP hD hS hA (by decide) (by decide) (Nat.le_of_ble_eq_true rfl) (Nat.le_of_ble_eq_true rfl) (Nat.le_of_ble_eq_true rfl) dX3_init_18 (fun q2 H hP hD hS => ?_)
  have hP : va_P G.1 vwCl (List.flatten [[bwO h 3 [.int 0, .ref q1, .null, .null, .null]], [bwI G q1 5 (fun _ => 0)], [bwI G q2 5 (fun _ => 0)]]) H := hP
  have hD : va_D A (List.flatten [[bwO h 3 [.int 0, .ref q1, .null, .null, .null]], [bwI G q1 5 (fun _ => 0)], [bwI G q2 5 (fun _ => 0)]]) := hD
  refine g_putF (ci := 3) (v := .ref q2) (ty := (.array .int)) (C := RX3) (T := TX3) (N := 5) (B2 := [[bwO h 3 [.int 0, .ref q1, .ref q2, .null, .null]], [bwI G q1 5 (fun _ => 0)], [bwI G q2 5 (fun _ => 0)]]) hx hb hts hinX3 tyX3 tyX3_ok nmX3 hown hK hP hD hS 0 rfl rfl 2 (by decide) (hts (.fieldLink RX3 19 "ChargeStages$Profile" "first" "[I") (List.mem_of_getElem? (i := 7) rfl)) rfl hin rfl (by decide +kernel) rfl rfl (Nat.le_of_ble_eq_true rfl) rfl dX3_init_20 (fun H locs hP hD hS => ?_)
  refine lv_aload_n hx hb dX3_init_23 rfl (lv_at hl 0 rfl) ?_
  refine lv_iconst (v := 5) hx hb dX3_init_24 (by decide) ?_
  refine g_newi (N := 5) hx hb (hts (.arrayClass .int) (List.mem_of_getElem? (i := 5) rfl)) hK hP hD hS hA (by decide) (by decide) (Nat.le_of_ble_eq_true rfl) (Nat.le_of_ble_eq_true rfl) (Nat.le_of_ble_eq_true rfl) dX3_init_25 (fun q3 H hP hD hS => ?_)
  have hP : va_P G.1 vwCl (List.flatten [[bwO h 3 [.int 0, .ref q1, .ref q2, .null, .null]], [bwI G q1 5 (fun _ => 0)], [bwI G q2 5 (fun _ => 0)], [bwI G q3 5 (fun _ => 0)]]) H := hP
  have hD : va_D A (List.flatten [[bwO h 3 [.int 0, .ref q1, .ref q2, .null, .null]], [bwI G q1 5 (fun _ => 0)], [bwI G q2 5 (fun _ => 0)], [bwI G q3 5 (fun _ => 0)]]) := hD
  refine g_putF (ci := 3) (v := .ref q3) (ty := (.array .int)) (C := RX3) (T := TX3) (N := 5) (B2 := [[bwO h 3 [.int 0, .ref q1, .ref q2, .ref q3, .null]], [bwI G q1 5 (fun _ => 0)], [bwI G q2 5 (fun _ => 0)], [bwI G q3 5 (fun _ => 0)]]) hx hb hts hinX3 tyX3 tyX3_ok nmX3 hown hK hP hD hS 0 rfl rfl 3 (by decide) (hts (.fieldLink RX3 22 "ChargeStages$Profile" "second" "[I") (List.mem_of_getElem? (i := 8) rfl)) rfl hin rfl (by decide +kernel) rfl rfl (Nat.le_of_ble_eq_true rfl) rfl dX3_init_27 (fun H locs hP hD hS => ?_)
  refine lv_aload_n hx hb dX3_init_30 rfl (lv_at hl 0 rfl) ?_
  refine lv_iconst (v := 5) hx hb dX3_init_31 (by decide) ?_
  refine g_newi (N := 5) hx hb (hts (.arrayClass .int) (List.mem_of_getElem? (i := 5) rfl)) hK hP hD hS hA (by decide) (by decide) (Nat.le_of_ble_eq_true rfl) (Nat.le_of_ble_eq_true rfl) (Nat.le_of_ble_eq_true rfl) dX3_init_32 (fun q4 H hP hD hS => ?_)
  have hP : va_P G.1 vwCl (List.flatten [[bwO h 3 [.int 0, .ref q1, .ref q2, .ref q3, .null]], [bwI G q1 5 (fun _ => 0)], [bwI G q2 5 (fun _ => 0)], [bwI G q3 5 (fun _ => 0)], [bwI G q4 5 (fun _ => 0)]]) H := hP
  have hD : va_D A (List.flatten [[bwO h 3 [.int 0, .ref q1, .ref q2, .ref q3, .null]], [bwI G q1 5 (fun _ => 0)], [bwI G q2 5 (fun _ => 0)], [bwI G q3 5 (fun _ => 0)], [bwI G q4 5 (fun _ => 0)]]) := hD
  refine g_putF (ci := 3) (v := .ref q4) (ty := (.array .int)) (C := RX3) (T := TX3) (N := 5) (B2 := [[bwO h 3 [.int 0, .ref q1, .ref q2, .ref q3, .ref q4]], [bwI G q1 5 (fun _ => 0)], [bwI G q2 5 (fun _ => 0)], [bwI G q3 5 (fun _ => 0)], [bwI G q4 5 (fun _ => 0)]]) hx hb hts hinX3 tyX3 tyX3_ok nmX3 hown hK hP hD hS 0 rfl rfl 4 (by decide) (hts (.fieldLink RX3 25 "ChargeStages$Profile" "timer" "[I") (List.mem_of_getElem? (i := 9) rfl)) rfl hin rfl (by decide +kernel) rfl rfl (Nat.le_of_ble_eq_true rfl) rfl dX3_init_34 (fun H locs hP hD hS => ?_)
  exact g_retI hx hb hr hlocks hS dX3_init_37 (aL [h, q1, q2, q3, q4]) rfl hP hD
set_option maxHeartbeats 4000000 in
set_option maxRecDepth 100000 in
theorem c_X5_init (l : Launch) (G : gG) (h : Nat) : CI l G yX5_init wsX5_init 1 12 1 60 h (.inr (5, [.int 0, .int 0, .null])) (fun a => [TW G a n2]) (fun _ _ => True) := by
  refine CI.of (cc := cX5_init) (maxL := 1) (plainFor_of_name (by decide +kernel)) rfl rfl (Nat.le_of_ble_eq_true rfl) ?_
  intro p e s m below meth c A ls hx hb hml hr hts hown hlocks hin hK hP hD hA hS hl hZ
  have hown : s.vm.findClass RX5 = some m.cls := hown
  have hl : lv_has ls 1 [(0, .ref h)] := hl
  have hP : va_P G.1 vwCl (List.flatten [[bwO h 5 [.int 0, .int 0, .null]]]) s.heap := hP
  have hinX5 : ∀ w ∈ wsX50, w ∈ wsX5_init := fun w h => List.mem_cons_of_mem _ (List.mem_append_right _ h)
  refine lv_aload_n hx hb dX5_init_0 rfl (lv_at hl 0 rfl) ?_
  refine W.objInit hx hb hown (hts (.methodLink RX5 3 objectInit) (List.mem_of_getElem? (i := 1) rfl)) (hts (.instanceMethod objectInit) (List.mem_of_getElem? (i := 2) rfl)) (hts (.code objectInit ⟨#[0xb1]⟩ 1 none) (List.mem_of_getElem? (i := 3) rfl)) rfl (by rw [hml]; exact hl.1) rfl dX5_init_1 (Nat.le_of_ble_eq_true rfl) (Nat.le_of_ble_eq_true rfl) ?_
  refine W.eq (g2 := F0 m 4 ls []) rfl ?_
  refine lv_aload_n hx hb dX5_init_4 rfl (lv_at hl 0 rfl) ?_
  refine lv_iconst (v := 0) hx hb dX5_init_5 (by decide) ?_
  refine g_put (ci := 5) (v := .int 0) (ty := .int) (C := RX5) (T := TX5) (N := 3) (B2 := [[bwO h 5 [.int 0, .int 0, .null]]]) hx hb hts hinX5 tyX5 tyX5_ok nmX5 hown hK hP hD hS 0 rfl rfl 0 (by decide) (hts (.fieldLink RX5 9 "ChargeStages$Text" "length" "I") (List.mem_of_getElem? (i := 4) rfl)) rfl (by decide +kernel) rfl rfl (Nat.le_of_ble_eq_true rfl) rfl dX5_init_6 (fun H locs hP hD hS => ?_)
  refine lv_aload_n hx hb dX5_init_9 rfl (lv_at hl 0 rfl) ?_
  refine lv_iconst (v := 0) hx hb dX5_init_10 (by decide) ?_
  refine g_put (ci := 5) (v := .int 0) (ty := .int) (C := RX5) (T := TX5) (N := 3) (B2 := [[bwO h 5 [.int 0, .int 0, .null]]]) hx hb hts hinX5 tyX5 tyX5_ok nmX5 hown hK hP hD hS 0 rfl rfl 1 (by decide) (hts (.fieldLink RX5 15 "ChargeStages$Text" "place" "I") (List.mem_of_getElem? (i := 5) rfl)) rfl (by decide +kernel) rfl rfl (Nat.le_of_ble_eq_true rfl) rfl dX5_init_11 (fun H locs hP hD hS => ?_)
  refine lv_aload_n hx hb dX5_init_14 rfl (lv_at hl 0 rfl) ?_
  refine lv_bipush (v := 60) hx hb dX5_init_15 (by decide) ?_
  refine g_newc (N := 60) hx hb (hts (.arrayClass .char) (List.mem_of_getElem? (i := 6) rfl)) hK hP hD hS hA (by decide) (by decide) (Nat.le_of_ble_eq_true rfl) (Nat.le_of_ble_eq_true rfl) (Nat.le_of_ble_eq_true rfl) dX5_init_17 (fun q1 H hP hD hS => ?_)
  have hP : va_P G.1 vwCl (List.flatten [[bwO h 5 [.int 0, .int 0, .null]], [bwC G q1 60 (fun _ => 0)]]) H := hP
  have hD : va_D A (List.flatten [[bwO h 5 [.int 0, .int 0, .null]], [bwC G q1 60 (fun _ => 0)]]) := hD
  refine g_putF (ci := 5) (v := .ref q1) (ty := (.array .char)) (C := RX5) (T := TX5) (N := 3) (B2 := [[bwO h 5 [.int 0, .int 0, .ref q1]], [bwC G q1 60 (fun _ => 0)]]) hx hb hts hinX5 tyX5 tyX5_ok nmX5 hown hK hP hD hS 0 rfl rfl 2 (by decide) (hts (.fieldLink RX5 18 "ChargeStages$Text" "characters" "[C") (List.mem_of_getElem? (i := 7) rfl)) rfl hin rfl (by decide +kernel) rfl rfl (Nat.le_of_ble_eq_true rfl) rfl dX5_init_19 (fun H locs hP hD hS => ?_)
  exact g_retI hx hb hr hlocks hS dX5_init_22 (aL [h, q1]) rfl hP hD
set_option maxHeartbeats 4000000 in
set_option maxRecDepth 100000 in
theorem c_X4_init (l : Launch) (G : gG) (h : Nat) : CI l G yX4_init wsX4_init 2 32 18 119 h (.inr (4, [.null, .null, .null, .null, .int 0, .int 0, .int 0, .int 0, .int 0, .int 0, .int 0, .int 0])) (fun a => (svB G a nS)) (fun _ _ => True) := by
  refine CI.of (cc := cX4_init) (maxL := 1) (plainFor_of_name (by decide +kernel)) rfl rfl (Nat.le_of_ble_eq_true rfl) ?_
  intro p e s m below meth c A ls hx hb hml hr hts hown hlocks hin hK hP hD hA hS hl hZ
  have hown : s.vm.findClass RX4 = some m.cls := hown
  have hl : lv_has ls 1 [(0, .ref h)] := hl
  have hP : va_P G.1 vwCl (List.flatten [[bwO h 4 [.null, .null, .null, .null, .int 0, .int 0, .int 0, .int 0, .int 0, .int 0, .int 0, .int 0]]]) s.heap := hP
  have hinX0 : ∀ w ∈ wsX00, w ∈ wsX4_init := fun w h => List.mem_cons_of_mem _ (List.mem_append_left _ (List.mem_append_left _ (List.mem_append_right _ h)))
  have hinX2 : ∀ w ∈ wsX20, w ∈ wsX4_init := fun w h => List.mem_cons_of_mem _ (List.mem_append_right _ h)
  have hinX3 : ∀ w ∈ wsX30, w ∈ wsX4_init := fun w h => List.mem_cons_of_mem _ (List.mem_append_left _ (List.mem_append_right _ h))
  have hinX4 : ∀ w ∈ wsX40, w ∈ wsX4_init := fun w h => List.mem_cons_of_mem _ (List.mem_append_left _ (List.mem_append_left _ (List.mem_append_left _ (List.mem_append_right _ h))))
  refine lv_aload_n hx hb dX4_init_0 rfl (lv_at hl 0 rfl) ?_
  refine W.objInit hx hb hown (hts (.methodLink RX4 3 objectInit) (List.mem_of_getElem? (i := 1) rfl)) (hts (.instanceMethod objectInit) (List.mem_of_getElem? (i := 2) rfl)) (hts (.code objectInit ⟨#[0xb1]⟩ 1 none) (List.mem_of_getElem? (i := 3) rfl)) rfl (by rw [hml]; exact hl.1) rfl dX4_init_1 (Nat.le_of_ble_eq_true rfl) (Nat.le_of_ble_eq_true rfl) ?_
  refine W.eq (g2 := F0 m 4 ls []) rfl ?_
  refine lv_aload_n hx hb dX4_init_4 rfl (lv_at hl 0 rfl) ?_
  refine lv_bipush (v := 9) hx hb dX4_init_5 (by decide) ?_
  refine g_newi (N := 9) hx hb (hts (.arrayClass .int) (List.mem_of_getElem? (i := 4) rfl)) hK hP hD hS hA (by decide) (by decide) (Nat.le_of_ble_eq_true rfl) (Nat.le_of_ble_eq_true rfl) (Nat.le_of_ble_eq_true rfl) dX4_init_7 (fun q1 H hP hD hS => ?_)
  have hP : va_P G.1 vwCl (List.flatten [[bwO h 4 [.null, .null, .null, .null, .int 0, .int 0, .int 0, .int 0, .int 0, .int 0, .int 0, .int 0]], [bwI G q1 9 (fun _ => 0)]]) H := hP
  have hD : va_D A (List.flatten [[bwO h 4 [.null, .null, .null, .null, .int 0, .int 0, .int 0, .int 0, .int 0, .int 0, .int 0, .int 0]], [bwI G q1 9 (fun _ => 0)]]) := hD
  refine g_putF (ci := 4) (v := .ref q1) (ty := (.array .int)) (C := RX4) (T := TX4) (N := 12) (B2 := [[bwO h 4 [.ref q1, .null, .null, .null, .int 0, .int 0, .int 0, .int 0, .int 0, .int 0, .int 0, .int 0]], [bwI G q1 9 (fun _ => 0)]]) hx hb hts hinX4 tyX4 tyX4_ok nmX4 hown hK hP hD hS 0 rfl rfl 0 (by decide) (hts (.fieldLink RX4 9 "ChargeStages$State" "settings" "[I") (List.mem_of_getElem? (i := 5) rfl)) rfl hin rfl (by decide +kernel) rfl rfl (Nat.le_of_ble_eq_true rfl) rfl dX4_init_9 (fun H locs hP hD hS => ?_)
  refine lv_aload_n hx hb dX4_init_12 rfl (lv_at hl 0 rfl) ?_
  refine g_new (ci := 0) (fs := [.int 0, .null, .null, .null, .null, .null, .null, .null]) (C := RX0) (T := TX0) (N := 8) hx hb hts hinX0 tyX0 tyX0_ok hown (hts (.classLink RX4 15 RX0) (List.mem_of_getElem? (i := 6) rfl)) (hts (.instantiable RX0 8) (List.mem_of_getElem? (i := 7) rfl)) (hts (.initialized RX0) (List.mem_of_getElem? (i := 8) rfl)) hK hP hD hS hA rfl (by decide +kernel) (Nat.le_of_ble_eq_true rfl) (Nat.le_of_ble_eq_true rfl) dX4_init_13 (fun q2 H hP hD hS => ?_)
  have hP : va_P G.1 vwCl (List.flatten [[bwO h 4 [.ref q1, .null, .null, .null, .int 0, .int 0, .int 0, .int 0, .int 0, .int 0, .int 0, .int 0]], [bwI G q1 9 (fun _ => 0)], [bwO q2 0 [.int 0, .null, .null, .null, .null, .null, .null, .null]]]) H := hP
  have hD : va_D A (List.flatten [[bwO h 4 [.ref q1, .null, .null, .null, .int 0, .int 0, .int 0, .int 0, .int 0, .int 0, .int 0, .int 0]], [bwI G q1 9 (fun _ => 0)], [bwO q2 0 [.int 0, .null, .null, .null, .null, .null, .null, .null]]]) := hD
  refine lv_dup hx hb dX4_init_16 rfl ?_
  refine g_callIN (host := RX6) (c_X0_init l G q2) hx hb hml hown hts hK [[bwO h 4 [.ref q1, .null, .null, .null, .int 0, .int 0, .int 0, .int 0, .int 0, .int 0, .int 0, .int 0]], [bwI G q1 9 (fun _ => 0)]] hP hD hS hA gX4_init_X0_init_n17 rfl (List.mem_of_getElem? (i := 8) rfl) (by decide +kernel) (List.mem_of_getElem? (i := 26) rfl) rfl (by decide +kernel) ⟨Nat.le_of_ble_eq_true rfl, Nat.le_of_ble_eq_true rfl⟩ hl.1 (Nat.le_of_ble_eq_true rfl) ⟨Nat.le_of_ble_eq_true rfl, Nat.le_of_ble_eq_true rfl⟩ dX4_init_17 (fun a1 H2 locs2 ea1 hP2 hD2 hS2 => ?_)
  clear hP hD hS
  subst ea1
  have hS := hS2
  have hP2 : va_P G.1 vwCl (List.flatten ([[bwO h 4 [.ref q1, .null, .null, .null, .int 0, .int 0, .int 0, .int 0, .int 0, .int 0, .int 0, .int 0]], [bwI G q1 9 (fun _ => 0)]] ++ [List.flatten [BW G a1 nB]])) H2 := hP2
  have hD2 : va_D A (List.flatten ([[bwO h 4 [.ref q1, .null, .null, .null, .int 0, .int 0, .int 0, .int 0, .int 0, .int 0, .int 0, .int 0]], [bwI G q1 9 (fun _ => 0)]] ++ [List.flatten [BW G a1 nB]])) := hD2
  rw [g_one (BW G a1 nB)] at hP2 hD2
  have hP : va_P G.1 vwCl (List.flatten [[bwO h 4 [.ref q1, .null, .null, .null, .int 0, .int 0, .int 0, .int 0, .int 0, .int 0, .int 0, .int 0]], [bwI G q1 9 (fun _ => 0)], BW G a1 nB]) H2 := hP2
  have hD : va_D A (List.flatten [[bwO h 4 [.ref q1, .null, .null, .null, .int 0, .int 0, .int 0, .int 0, .int 0, .int 0, .int 0, .int 0]], [bwI G q1 9 (fun _ => 0)], BW G a1 nB]) := hD2
  refine g_putF (ci := 4) (v := .ref (a1 0)) (ty := (.object "ChargeStages$Battery")) (C := RX4) (T := TX4) (N := 12) (B2 := [[bwO h 4 [.ref q1, .ref (a1 0), .null, .null, .int 0, .int 0, .int 0, .int 0, .int 0, .int 0, .int 0, .int 0]], [bwI G q1 9 (fun _ => 0)], BW G a1 nB]) hx hb hts hinX4 tyX4 tyX4_ok nmX4 hown hK hP hD hS 0 rfl rfl 1 (by decide) (hts (.fieldLink RX4 18 "ChargeStages$State" "row" "LChargeStages$Battery;") (List.mem_of_getElem? (i := 9) rfl)) rfl hin rfl (by decide +kernel) rfl rfl (Nat.le_of_ble_eq_true rfl) rfl dX4_init_20 (fun H locs hP hD hS => ?_)
  refine lv_aload_n hx hb dX4_init_23 rfl (lv_at hl 0 rfl) ?_
  refine g_new (ci := 3) (fs := [.int 0, .null, .null, .null, .null]) (C := RX3) (T := TX3) (N := 5) hx hb hts hinX3 tyX3 tyX3_ok hown (hts (.classLink RX4 22 RX3) (List.mem_of_getElem? (i := 10) rfl)) (hts (.instantiable RX3 5) (List.mem_of_getElem? (i := 11) rfl)) (hts (.initialized RX3) (List.mem_of_getElem? (i := 12) rfl)) hK hP hD hS hA rfl (by decide +kernel) (Nat.le_of_ble_eq_true rfl) (Nat.le_of_ble_eq_true rfl) dX4_init_24 (fun q3 H hP hD hS => ?_)
  have hP : va_P G.1 vwCl (List.flatten [[bwO h 4 [.ref q1, .ref (a1 0), .null, .null, .int 0, .int 0, .int 0, .int 0, .int 0, .int 0, .int 0, .int 0]], [bwI G q1 9 (fun _ => 0)], BW G a1 nB, [bwO q3 3 [.int 0, .null, .null, .null, .null]]]) H := hP
  have hD : va_D A (List.flatten [[bwO h 4 [.ref q1, .ref (a1 0), .null, .null, .int 0, .int 0, .int 0, .int 0, .int 0, .int 0, .int 0, .int 0]], [bwI G q1 9 (fun _ => 0)], BW G a1 nB, [bwO q3 3 [.int 0, .null, .null, .null, .null]]]) := hD
  refine lv_dup hx hb dX4_init_27 rfl ?_
  refine g_callIN (host := RX6) (c_X3_init l G q3) hx hb hml hown hts hK [[bwO h 4 [.ref q1, .ref (a1 0), .null, .null, .int 0, .int 0, .int 0, .int 0, .int 0, .int 0, .int 0, .int 0]], [bwI G q1 9 (fun _ => 0)], BW G a1 nB] hP hD hS hA gX4_init_X3_init_n24 rfl (List.mem_of_getElem? (i := 12) rfl) (by decide +kernel) (List.mem_of_getElem? (i := 37) rfl) rfl (by decide +kernel) ⟨Nat.le_of_ble_eq_true rfl, Nat.le_of_ble_eq_true rfl⟩ hl.1 (Nat.le_of_ble_eq_true rfl) ⟨Nat.le_of_ble_eq_true rfl, Nat.le_of_ble_eq_true rfl⟩ dX4_init_28 (fun a2 H2 locs2 ea2 hP2 hD2 hS2 => ?_)
  clear hP hD hS
  subst ea2
  have hS := hS2
  have hP2 : va_P G.1 vwCl (List.flatten ([[bwO h 4 [.ref q1, .ref (a1 0), .null, .null, .int 0, .int 0, .int 0, .int 0, .int 0, .int 0, .int 0, .int 0]], [bwI G q1 9 (fun _ => 0)], BW G a1 nB] ++ [List.flatten [PW G a2 n2]])) H2 := hP2
  have hD2 : va_D A (List.flatten ([[bwO h 4 [.ref q1, .ref (a1 0), .null, .null, .int 0, .int 0, .int 0, .int 0, .int 0, .int 0, .int 0, .int 0]], [bwI G q1 9 (fun _ => 0)], BW G a1 nB] ++ [List.flatten [PW G a2 n2]])) := hD2
  rw [g_one (PW G a2 n2)] at hP2 hD2
  have hP : va_P G.1 vwCl (List.flatten [[bwO h 4 [.ref q1, .ref (a1 0), .null, .null, .int 0, .int 0, .int 0, .int 0, .int 0, .int 0, .int 0, .int 0]], [bwI G q1 9 (fun _ => 0)], BW G a1 nB, PW G a2 n2]) H2 := hP2
  have hD : va_D A (List.flatten [[bwO h 4 [.ref q1, .ref (a1 0), .null, .null, .int 0, .int 0, .int 0, .int 0, .int 0, .int 0, .int 0, .int 0]], [bwI G q1 9 (fun _ => 0)], BW G a1 nB, PW G a2 n2]) := hD2
  refine g_putF (ci := 4) (v := .ref (a2 0)) (ty := (.object "ChargeStages$Profile")) (C := RX4) (T := TX4) (N := 12) (B2 := [[bwO h 4 [.ref q1, .ref (a1 0), .ref (a2 0), .null, .int 0, .int 0, .int 0, .int 0, .int 0, .int 0, .int 0, .int 0]], [bwI G q1 9 (fun _ => 0)], BW G a1 nB, PW G a2 n2]) hx hb hts hinX4 tyX4 tyX4_ok nmX4 hown hK hP hD hS 0 rfl rfl 2 (by decide) (hts (.fieldLink RX4 25 "ChargeStages$State" "profile" "LChargeStages$Profile;") (List.mem_of_getElem? (i := 13) rfl)) rfl hin rfl (by decide +kernel) rfl rfl (Nat.le_of_ble_eq_true rfl) rfl dX4_init_31 (fun H locs hP hD hS => ?_)
  refine lv_aload_n hx hb dX4_init_34 rfl (lv_at hl 0 rfl) ?_
  refine g_new (ci := 2) (fs := [.int 0, .int 0, .null, .null, .null]) (C := RX2) (T := TX2) (N := 5) hx hb hts hinX2 tyX2 tyX2_ok hown (hts (.classLink RX4 29 RX2) (List.mem_of_getElem? (i := 14) rfl)) (hts (.instantiable RX2 5) (List.mem_of_getElem? (i := 15) rfl)) (hts (.initialized RX2) (List.mem_of_getElem? (i := 16) rfl)) hK hP hD hS hA rfl (by decide +kernel) (Nat.le_of_ble_eq_true rfl) (Nat.le_of_ble_eq_true rfl) dX4_init_35 (fun q4 H hP hD hS => ?_)
  have hP : va_P G.1 vwCl (List.flatten [[bwO h 4 [.ref q1, .ref (a1 0), .ref (a2 0), .null, .int 0, .int 0, .int 0, .int 0, .int 0, .int 0, .int 0, .int 0]], [bwI G q1 9 (fun _ => 0)], BW G a1 nB, PW G a2 n2, [bwO q4 2 [.int 0, .int 0, .null, .null, .null]]]) H := hP
  have hD : va_D A (List.flatten [[bwO h 4 [.ref q1, .ref (a1 0), .ref (a2 0), .null, .int 0, .int 0, .int 0, .int 0, .int 0, .int 0, .int 0, .int 0]], [bwI G q1 9 (fun _ => 0)], BW G a1 nB, PW G a2 n2, [bwO q4 2 [.int 0, .int 0, .null, .null, .null]]]) := hD
  refine lv_dup hx hb dX4_init_38 rfl ?_
  refine g_callIN (host := RX6) (c_X2_init l G q4) hx hb hml hown hts hK [[bwO h 4 [.ref q1, .ref (a1 0), .ref (a2 0), .null, .int 0, .int 0, .int 0, .int 0, .int 0, .int 0, .int 0, .int 0]], [bwI G q1 9 (fun _ => 0)], BW G a1 nB, PW G a2 n2] hP hD hS hA gX4_init_X2_init_n31 rfl (List.mem_of_getElem? (i := 16) rfl) (by decide +kernel) (List.mem_of_getElem? (i := 45) rfl) rfl (by decide +kernel) ⟨Nat.le_of_ble_eq_true rfl, Nat.le_of_ble_eq_true rfl⟩ hl.1 (Nat.le_of_ble_eq_true rfl) ⟨Nat.le_of_ble_eq_true rfl, Nat.le_of_ble_eq_true rfl⟩ dX4_init_39 (fun a3 H2 locs2 ea3 hP2 hD2 hS2 => ?_)
  clear hP hD hS
  subst ea3
  have hS := hS2
  have hP2 : va_P G.1 vwCl (List.flatten ([[bwO h 4 [.ref q1, .ref (a1 0), .ref (a2 0), .null, .int 0, .int 0, .int 0, .int 0, .int 0, .int 0, .int 0, .int 0]], [bwI G q1 9 (fun _ => 0)], BW G a1 nB, PW G a2 n2] ++ [List.flatten [LW G a3 n2]])) H2 := hP2
  have hD2 : va_D A (List.flatten ([[bwO h 4 [.ref q1, .ref (a1 0), .ref (a2 0), .null, .int 0, .int 0, .int 0, .int 0, .int 0, .int 0, .int 0, .int 0]], [bwI G q1 9 (fun _ => 0)], BW G a1 nB, PW G a2 n2] ++ [List.flatten [LW G a3 n2]])) := hD2
  rw [g_one (LW G a3 n2)] at hP2 hD2
  have hP : va_P G.1 vwCl (List.flatten [[bwO h 4 [.ref q1, .ref (a1 0), .ref (a2 0), .null, .int 0, .int 0, .int 0, .int 0, .int 0, .int 0, .int 0, .int 0]], [bwI G q1 9 (fun _ => 0)], BW G a1 nB, PW G a2 n2, LW G a3 n2]) H2 := hP2
  have hD : va_D A (List.flatten [[bwO h 4 [.ref q1, .ref (a1 0), .ref (a2 0), .null, .int 0, .int 0, .int 0, .int 0, .int 0, .int 0, .int 0, .int 0]], [bwI G q1 9 (fun _ => 0)], BW G a1 nB, PW G a2 n2, LW G a3 n2]) := hD2
  refine g_putF (ci := 4) (v := .ref (a3 0)) (ty := (.object "ChargeStages$Log")) (C := RX4) (T := TX4) (N := 12) (B2 := [[bwO h 4 [.ref q1, .ref (a1 0), .ref (a2 0), .ref (a3 0), .int 0, .int 0, .int 0, .int 0, .int 0, .int 0, .int 0, .int 0]], [bwI G q1 9 (fun _ => 0)], BW G a1 nB, PW G a2 n2, LW G a3 n2]) hx hb hts hinX4 tyX4 tyX4_ok nmX4 hown hK hP hD hS 0 rfl rfl 3 (by decide) (hts (.fieldLink RX4 32 "ChargeStages$State" "log" "LChargeStages$Log;") (List.mem_of_getElem? (i := 17) rfl)) rfl hin rfl (by decide +kernel) rfl rfl (Nat.le_of_ble_eq_true rfl) rfl dX4_init_42 (fun H locs hP hD hS => ?_)
  refine lv_aload_n hx hb dX4_init_45 rfl (lv_at hl 0 rfl) ?_
  refine lv_iconst (v := 0) hx hb dX4_init_46 (by decide) ?_
  refine g_put (ci := 4) (v := .int 0) (ty := .int) (C := RX4) (T := TX4) (N := 12) (B2 := [[bwO h 4 [.ref q1, .ref (a1 0), .ref (a2 0), .ref (a3 0), .int 0, .int 0, .int 0, .int 0, .int 0, .int 0, .int 0, .int 0]], [bwI G q1 9 (fun _ => 0)], BW G a1 nB, PW G a2 n2, LW G a3 n2]) hx hb hts hinX4 tyX4 tyX4_ok nmX4 hown hK hP hD hS 0 rfl rfl 4 (by decide) (hts (.fieldLink RX4 36 "ChargeStages$State" "mode" "I") (List.mem_of_getElem? (i := 18) rfl)) rfl (by decide +kernel) rfl rfl (Nat.le_of_ble_eq_true rfl) rfl dX4_init_47 (fun H locs hP hD hS => ?_)
  refine lv_aload_n hx hb dX4_init_50 rfl (lv_at hl 0 rfl) ?_
  refine lv_iconst (v := 0) hx hb dX4_init_51 (by decide) ?_
  refine g_put (ci := 4) (v := .int 0) (ty := .int) (C := RX4) (T := TX4) (N := 12) (B2 := [[bwO h 4 [.ref q1, .ref (a1 0), .ref (a2 0), .ref (a3 0), .int 0, .int 0, .int 0, .int 0, .int 0, .int 0, .int 0, .int 0]], [bwI G q1 9 (fun _ => 0)], BW G a1 nB, PW G a2 n2, LW G a3 n2]) hx hb hts hinX4 tyX4 tyX4_ok nmX4 hown hK hP hD hS 0 rfl rfl 5 (by decide) (hts (.fieldLink RX4 40 "ChargeStages$State" "stage" "I") (List.mem_of_getElem? (i := 19) rfl)) rfl (by decide +kernel) rfl rfl (Nat.le_of_ble_eq_true rfl) rfl dX4_init_52 (fun H locs hP hD hS => ?_)
  refine lv_aload_n hx hb dX4_init_55 rfl (lv_at hl 0 rfl) ?_
  refine lv_iconst (v := 0) hx hb dX4_init_56 (by decide) ?_
  refine g_put (ci := 4) (v := .int 0) (ty := .int) (C := RX4) (T := TX4) (N := 12) (B2 := [[bwO h 4 [.ref q1, .ref (a1 0), .ref (a2 0), .ref (a3 0), .int 0, .int 0, .int 0, .int 0, .int 0, .int 0, .int 0, .int 0]], [bwI G q1 9 (fun _ => 0)], BW G a1 nB, PW G a2 n2, LW G a3 n2]) hx hb hts hinX4 tyX4 tyX4_ok nmX4 hown hK hP hD hS 0 rfl rfl 6 (by decide) (hts (.fieldLink RX4 43 "ChargeStages$State" "lasted" "I") (List.mem_of_getElem? (i := 20) rfl)) rfl (by decide +kernel) rfl rfl (Nat.le_of_ble_eq_true rfl) rfl dX4_init_57 (fun H locs hP hD hS => ?_)
  refine lv_aload_n hx hb dX4_init_60 rfl (lv_at hl 0 rfl) ?_
  refine lv_iconst (v := 0) hx hb dX4_init_61 (by decide) ?_
  refine g_put (ci := 4) (v := .int 0) (ty := .int) (C := RX4) (T := TX4) (N := 12) (B2 := [[bwO h 4 [.ref q1, .ref (a1 0), .ref (a2 0), .ref (a3 0), .int 0, .int 0, .int 0, .int 0, .int 0, .int 0, .int 0, .int 0]], [bwI G q1 9 (fun _ => 0)], BW G a1 nB, PW G a2 n2, LW G a3 n2]) hx hb hts hinX4 tyX4 tyX4_ok nmX4 hown hK hP hD hS 0 rfl rfl 7 (by decide) (hts (.fieldLink RX4 46 "ChargeStages$State" "tick" "I") (List.mem_of_getElem? (i := 21) rfl)) rfl (by decide +kernel) rfl rfl (Nat.le_of_ble_eq_true rfl) rfl dX4_init_62 (fun H locs hP hD hS => ?_)
  refine lv_aload_n hx hb dX4_init_65 rfl (lv_at hl 0 rfl) ?_
  refine lv_iconst (v := 0) hx hb dX4_init_66 (by decide) ?_
  refine g_put (ci := 4) (v := .int 0) (ty := .int) (C := RX4) (T := TX4) (N := 12) (B2 := [[bwO h 4 [.ref q1, .ref (a1 0), .ref (a2 0), .ref (a3 0), .int 0, .int 0, .int 0, .int 0, .int 0, .int 0, .int 0, .int 0]], [bwI G q1 9 (fun _ => 0)], BW G a1 nB, PW G a2 n2, LW G a3 n2]) hx hb hts hinX4 tyX4 tyX4_ok nmX4 hown hK hP hD hS 0 rfl rfl 8 (by decide) (hts (.fieldLink RX4 49 "ChargeStages$State" "pausedTicks" "I") (List.mem_of_getElem? (i := 22) rfl)) rfl (by decide +kernel) rfl rfl (Nat.le_of_ble_eq_true rfl) rfl dX4_init_67 (fun H locs hP hD hS => ?_)
  refine lv_aload_n hx hb dX4_init_70 rfl (lv_at hl 0 rfl) ?_
  refine lv_iconst (v := 0) hx hb dX4_init_71 (by decide) ?_
  refine g_put (ci := 4) (v := .int 0) (ty := .boolean) (C := RX4) (T := TX4) (N := 12) (B2 := [[bwO h 4 [.ref q1, .ref (a1 0), .ref (a2 0), .ref (a3 0), .int 0, .int 0, .int 0, .int 0, .int 0, .int 0, .int 0, .int 0]], [bwI G q1 9 (fun _ => 0)], BW G a1 nB, PW G a2 n2, LW G a3 n2]) hx hb hts hinX4 tyX4 tyX4_ok nmX4 hown hK hP hD hS 0 rfl rfl 9 (by decide) (hts (.fieldLink RX4 52 "ChargeStages$State" "wasPaused" "Z") (List.mem_of_getElem? (i := 23) rfl)) rfl (by decide +kernel) rfl rfl (Nat.le_of_ble_eq_true rfl) rfl dX4_init_72 (fun H locs hP hD hS => ?_)
  refine lv_aload_n hx hb dX4_init_75 rfl (lv_at hl 0 rfl) ?_
  refine lv_iconst (v := 0) hx hb dX4_init_76 (by decide) ?_
  refine g_put (ci := 4) (v := .int 0) (ty := .int) (C := RX4) (T := TX4) (N := 12) (B2 := [[bwO h 4 [.ref q1, .ref (a1 0), .ref (a2 0), .ref (a3 0), .int 0, .int 0, .int 0, .int 0, .int 0, .int 0, .int 0, .int 0]], [bwI G q1 9 (fun _ => 0)], BW G a1 nB, PW G a2 n2, LW G a3 n2]) hx hb hts hinX4 tyX4 tyX4_ok nmX4 hown hK hP hD hS 0 rfl rfl 10 (by decide) (hts (.fieldLink RX4 56 "ChargeStages$State" "timesDone" "I") (List.mem_of_getElem? (i := 24) rfl)) rfl (by decide +kernel) rfl rfl (Nat.le_of_ble_eq_true rfl) rfl dX4_init_77 (fun H locs hP hD hS => ?_)
  refine lv_aload_n hx hb dX4_init_80 rfl (lv_at hl 0 rfl) ?_
  refine lv_iconst (v := 0) hx hb dX4_init_81 (by decide) ?_
  refine g_put (ci := 4) (v := .int 0) (ty := .int) (C := RX4) (T := TX4) (N := 12) (B2 := [[bwO h 4 [.ref q1, .ref (a1 0), .ref (a2 0), .ref (a3 0), .int 0, .int 0, .int 0, .int 0, .int 0, .int 0, .int 0, .int 0]], [bwI G q1 9 (fun _ => 0)], BW G a1 nB, PW G a2 n2, LW G a3 n2]) hx hb hts hinX4 tyX4 tyX4_ok nmX4 hown hK hP hD hS 0 rfl rfl 11 (by decide) (hts (.fieldLink RX4 59 "ChargeStages$State" "timesAtFault" "I") (List.mem_of_getElem? (i := 25) rfl)) rfl (by decide +kernel) rfl rfl (Nat.le_of_ble_eq_true rfl) rfl dX4_init_82 (fun H locs hP hD hS => ?_)
  exact g_retI hx hb hr hlocks hS dX4_init_85 (aC 2 (aL [h, q1]) (aC 8 a1 (aC 5 a2 a3))) rfl hP hD
theorem g_hist (b1 b2 : va_W) (L0 L1 L2 L3 : List va_W) : (b1 :: b2 :: L0.flatten :: L1.flatten :: L2.flatten :: L3.flatten :: []).flatten = ([((b1 ++ b2) :: (L0 ++ L1 ++ L2 ++ L3)).flatten] : List va_W).flatten := by simp
theorem k4_new (q0 q1 q2 q3 : Nat) : va_up (va_up (va_up (va_up (fun _ => none) 0 (some q0)) 1 (some q1)) 2 (some q2)) 3 (some q3) = k4 q0 q1 q2 q3 := by
  funext j
  simp only [va_up, k4]
  by_cases h0 : j = 0
  · subst h0; rfl
  · by_cases h1 : j = 1
    · subst h1; rfl
    · by_cases h2 : j = 2
      · subst h2; rfl
      · by_cases h3 : j = 3
        · subst h3; rfl
        · simp [h0, h1, h2, h3]
set_option maxHeartbeats 4000000 in
set_option maxRecDepth 100000 in
theorem c_X1_init (l : Launch) (G : gG) (h : Nat) : CI l G yX1_init wsX1_init 3 52 77 528 h (.inr (1, [.int 0, .null])) (fun a => [HGW G a (0, 0, fun _ => nS)]) (fun _ U => va_AO RX4 U) := by
  refine CI.of (cc := cX1_init) (maxL := 2) (plainFor_of_name (by decide +kernel)) rfl rfl (Nat.le_of_ble_eq_true rfl) ?_
  intro p e s m below meth c A ls hx hb hml hr hts hown hlocks hin hK hP hD hA hS hl hZ
  have hown : s.vm.findClass RX1 = some m.cls := hown
  have hl : lv_has ls 2 [(0, .ref h)] := hl
  have hP : va_P G.1 vwCl (List.flatten [[bwO h 1 [.int 0, .null]]]) s.heap := hP
  have hinX1 : ∀ w ∈ wsX10, w ∈ wsX1_init := fun w h => List.mem_cons_of_mem _ (List.mem_append_left _ (List.mem_append_left _ (List.mem_append_left _ (List.mem_append_left _ (List.mem_append_right _ h)))))
  have hinX4 : ∀ w ∈ wsX40, w ∈ wsX1_init := fun w h => List.mem_cons_of_mem _ (List.mem_append_left _ (List.mem_append_left _ (List.mem_append_left _ (List.mem_append_right _ h))))
  refine lv_aload_n hx hb dX1_init_0 rfl (lv_at hl 0 rfl) ?_
  refine W.objInit hx hb hown (hts (.methodLink RX1 3 objectInit) (List.mem_of_getElem? (i := 1) rfl)) (hts (.instanceMethod objectInit) (List.mem_of_getElem? (i := 2) rfl)) (hts (.code objectInit ⟨#[0xb1]⟩ 1 none) (List.mem_of_getElem? (i := 3) rfl)) rfl (by rw [hml]; exact hl.1) rfl dX1_init_1 (Nat.le_of_ble_eq_true rfl) (Nat.le_of_ble_eq_true rfl) ?_
  refine W.eq (g2 := F0 m 4 ls []) rfl ?_
  refine lv_aload_n hx hb dX1_init_4 rfl (lv_at hl 0 rfl) ?_
  refine lv_iconst (v := 0) hx hb dX1_init_5 (by decide) ?_
  refine g_put (ci := 1) (v := .int 0) (ty := .int) (C := RX1) (T := TX1) (N := 2) (B2 := [[bwO h 1 [.int 0, .null]]]) hx hb hts hinX1 tyX1 tyX1_ok nmX1 hown hK hP hD hS 0 rfl rfl 0 (by decide) (hts (.fieldLink RX1 9 "ChargeStages$History" "states" "I") (List.mem_of_getElem? (i := 4) rfl)) rfl (by decide +kernel) rfl rfl (Nat.le_of_ble_eq_true rfl) rfl dX1_init_6 (fun H locs hP hD hS => ?_)
  refine lv_aload_n hx hb dX1_init_9 rfl (lv_at hl 0 rfl) ?_
  refine lv_iconst (v := 4) hx hb dX1_init_10 (by decide) ?_
  refine g_newq (N := 4) hx hb hown (hts (.classLink RX1 15 RX4) (List.mem_of_getElem? (i := 5) rfl)) hZ hK hP hD hS hA (by decide) (by decide) (Nat.le_of_ble_eq_true rfl) (Nat.le_of_ble_eq_true rfl) (Nat.le_of_ble_eq_true rfl) dX1_init_11 (fun q1 H hP hD hS => ?_)
  have hP : va_P G.1 vwCl (List.flatten [[bwO h 1 [.int 0, .null]], [bwQ G q1 4 (fun _ => none)]]) H := hP
  have hD : va_D A (List.flatten [[bwO h 1 [.int 0, .null]], [bwQ G q1 4 (fun _ => none)]]) := hD
  refine g_putF (ci := 1) (v := .ref q1) (ty := (.array (.object RX4))) (C := RX1) (T := TX1) (N := 2) (B2 := [[bwO h 1 [.int 0, .ref q1]], [bwQ G q1 4 (fun _ => none)]]) hx hb hts hinX1 tyX1 tyX1_ok nmX1 hown hK hP hD hS 0 rfl rfl 1 (by decide) (hts (.fieldLink RX1 17 "ChargeStages$History" "kept" "[LChargeStages$State;") (List.mem_of_getElem? (i := 6) rfl)) rfl hin rfl (by decide +kernel) rfl rfl (Nat.le_of_ble_eq_true rfl) rfl dX1_init_14 (fun H locs hP hD hS => ?_)
  refine lv_iconst (v := 0) hx hb dX1_init_17 (by decide) ?_
  refine lv_istore_n (lv' := [(1, .int 0), (0, .ref h)]) hx hb dX1_init_18 rfl hl (by decide) rfl (fun ls hl => ?_)
  refine lv_iload_n hx hb dX1_init_19 rfl (lv_at hl 0 rfl) ?_
  refine lv_iconst (v := 4) hx hb dX1_init_20 (by decide) ?_
  refine lv_icmp_ge (tgt := 43) hx hb dX1_init_21 (by decide) (fun c => absurd c (by decide)) (fun _ => ?_)
  refine lv_aload_n hx hb dX1_init_24 rfl (lv_at hl 1 rfl) ?_
  refine g_get (ci := 1) (v := .ref q1) (C := RX1) (T := TX1) (N := 2) hx hb hts hinX1 hown hK hP 0 rfl rfl 1 (by decide) (hts (.fieldLink RX1 17 "ChargeStages$History" "kept" "[LChargeStages$State;") (List.mem_of_getElem? (i := 6) rfl)) rfl dX1_init_25 ?_
  refine lv_iload_n hx hb dX1_init_28 rfl (lv_at hl 0 rfl) ?_
  refine g_new (ci := 4) (fs := [.null, .null, .null, .null, .int 0, .int 0, .int 0, .int 0, .int 0, .int 0, .int 0, .int 0]) (C := RX4) (T := TX4) (N := 12) hx hb hts hinX4 tyX4 tyX4_ok hown (hts (.classLink RX1 15 RX4) (List.mem_of_getElem? (i := 5) rfl)) (hts (.instantiable RX4 12) (List.mem_of_getElem? (i := 7) rfl)) (hts (.initialized RX4) (List.mem_of_getElem? (i := 8) rfl)) hK hP hD hS hA rfl (by decide +kernel) (Nat.le_of_ble_eq_true rfl) (Nat.le_of_ble_eq_true rfl) dX1_init_29 (fun q2 H hP hD hS => ?_)
  have hP : va_P G.1 vwCl (List.flatten [[bwO h 1 [.int 0, .ref q1]], [bwQ G q1 4 (fun _ => none)], [bwO q2 4 [.null, .null, .null, .null, .int 0, .int 0, .int 0, .int 0, .int 0, .int 0, .int 0, .int 0]]]) H := hP
  have hD : va_D A (List.flatten [[bwO h 1 [.int 0, .ref q1]], [bwQ G q1 4 (fun _ => none)], [bwO q2 4 [.null, .null, .null, .null, .int 0, .int 0, .int 0, .int 0, .int 0, .int 0, .int 0, .int 0]]]) := hD
  refine lv_dup hx hb dX1_init_32 rfl ?_
  refine g_callIN (host := RX6) (c_X4_init l G q2) hx hb hml hown hts hK [[bwO h 1 [.int 0, .ref q1]], [bwQ G q1 4 (fun _ => none)]] hP hD hS hA gX1_init_X4_init_n21 rfl (List.mem_of_getElem? (i := 8) rfl) (by decide +kernel) (List.mem_of_getElem? (i := 9) rfl) rfl (by decide +kernel) ⟨Nat.le_of_ble_eq_true rfl, Nat.le_of_ble_eq_true rfl⟩ hl.1 (Nat.le_of_ble_eq_true rfl) ⟨Nat.le_of_ble_eq_true rfl, Nat.le_of_ble_eq_true rfl⟩ dX1_init_33 (fun a1 H2 locs2 ea1 hP2 hD2 hS2 => ?_)
  clear hP hD hS
  subst ea1
  have hS := hS2
  have hP : va_P G.1 vwCl (List.flatten [[bwO h 1 [.int 0, .ref q1]], [bwQ G q1 4 (fun _ => none)], (List.flatten (svB G a1 nS))]) H2 := hP2
  have hD : va_D A (List.flatten [[bwO h 1 [.int 0, .ref q1]], [bwQ G q1 4 (fun _ => none)], (List.flatten (svB G a1 nS))]) := hD2
  refine g_astq (n := 4) (k := 0) (B2 := [[bwO h 1 [.int 0, .ref q1]], [bwQ G q1 4 (va_up (fun _ => none) 0 (some (a1 0)))], (List.flatten (svB G a1 nS))]) hx hb hK hP hD hS 1 2 rfl rfl (by decide) (by unfold vp_in; decide) rfl dX1_init_36 (fun H locs hP hD hS => ?_)
  refine lv_iinc (v := 1) (lv' := [(1, .int 1), (0, .ref h)]) hx hb dX1_init_37 hl (k := 0) rfl (by decide) (by decide) rfl (fun ls hl => ?_)
  refine lv_goto (tgt := 19) hx hb dX1_init_40 (by decide) ?_
  refine lv_iload_n hx hb dX1_init_19 rfl (lv_at hl 0 rfl) ?_
  refine lv_iconst (v := 4) hx hb dX1_init_20 (by decide) ?_
  refine lv_icmp_ge (tgt := 43) hx hb dX1_init_21 (by decide) (fun c => absurd c (by decide)) (fun _ => ?_)
  refine lv_aload_n hx hb dX1_init_24 rfl (lv_at hl 1 rfl) ?_
  refine g_get (ci := 1) (v := .ref q1) (C := RX1) (T := TX1) (N := 2) hx hb hts hinX1 hown hK hP 0 rfl rfl 1 (by decide) (hts (.fieldLink RX1 17 "ChargeStages$History" "kept" "[LChargeStages$State;") (List.mem_of_getElem? (i := 6) rfl)) rfl dX1_init_25 ?_
  refine lv_iload_n hx hb dX1_init_28 rfl (lv_at hl 0 rfl) ?_
  refine g_new (ci := 4) (fs := [.null, .null, .null, .null, .int 0, .int 0, .int 0, .int 0, .int 0, .int 0, .int 0, .int 0]) (C := RX4) (T := TX4) (N := 12) hx hb hts hinX4 tyX4 tyX4_ok hown (hts (.classLink RX1 15 RX4) (List.mem_of_getElem? (i := 5) rfl)) (hts (.instantiable RX4 12) (List.mem_of_getElem? (i := 7) rfl)) (hts (.initialized RX4) (List.mem_of_getElem? (i := 8) rfl)) hK hP hD hS hA rfl (by decide +kernel) (Nat.le_of_ble_eq_true rfl) (Nat.le_of_ble_eq_true rfl) dX1_init_29 (fun q3 H hP hD hS => ?_)
  have hP : va_P G.1 vwCl (List.flatten [[bwO h 1 [.int 0, .ref q1]], [bwQ G q1 4 (va_up (fun _ => none) 0 (some (a1 0)))], (List.flatten (svB G a1 nS)), [bwO q3 4 [.null, .null, .null, .null, .int 0, .int 0, .int 0, .int 0, .int 0, .int 0, .int 0, .int 0]]]) H := hP
  have hD : va_D A (List.flatten [[bwO h 1 [.int 0, .ref q1]], [bwQ G q1 4 (va_up (fun _ => none) 0 (some (a1 0)))], (List.flatten (svB G a1 nS)), [bwO q3 4 [.null, .null, .null, .null, .int 0, .int 0, .int 0, .int 0, .int 0, .int 0, .int 0, .int 0]]]) := hD
  refine lv_dup hx hb dX1_init_32 rfl ?_
  refine g_callIN (host := RX6) (c_X4_init l G q3) hx hb hml hown hts hK [[bwO h 1 [.int 0, .ref q1]], [bwQ G q1 4 (va_up (fun _ => none) 0 (some (a1 0)))], (List.flatten (svB G a1 nS))] hP hD hS hA gX1_init_X4_init_n21 rfl (List.mem_of_getElem? (i := 8) rfl) (by decide +kernel) (List.mem_of_getElem? (i := 9) rfl) rfl (by decide +kernel) ⟨Nat.le_of_ble_eq_true rfl, Nat.le_of_ble_eq_true rfl⟩ hl.1 (Nat.le_of_ble_eq_true rfl) ⟨Nat.le_of_ble_eq_true rfl, Nat.le_of_ble_eq_true rfl⟩ dX1_init_33 (fun a2 H2 locs2 ea2 hP2 hD2 hS2 => ?_)
  clear hP hD hS
  subst ea2
  have hS := hS2
  have hP : va_P G.1 vwCl (List.flatten [[bwO h 1 [.int 0, .ref q1]], [bwQ G q1 4 (va_up (fun _ => none) 0 (some (a1 0)))], (List.flatten (svB G a1 nS)), (List.flatten (svB G a2 nS))]) H2 := hP2
  have hD : va_D A (List.flatten [[bwO h 1 [.int 0, .ref q1]], [bwQ G q1 4 (va_up (fun _ => none) 0 (some (a1 0)))], (List.flatten (svB G a1 nS)), (List.flatten (svB G a2 nS))]) := hD2
  refine g_astq (n := 4) (k := 1) (B2 := [[bwO h 1 [.int 0, .ref q1]], [bwQ G q1 4 (va_up (va_up (fun _ => none) 0 (some (a1 0))) 1 (some (a2 0)))], (List.flatten (svB G a1 nS)), (List.flatten (svB G a2 nS))]) hx hb hK hP hD hS 1 21 rfl rfl (by decide) (by unfold vp_in; decide) rfl dX1_init_36 (fun H locs hP hD hS => ?_)
  refine lv_iinc (v := 2) (lv' := [(1, .int 2), (0, .ref h)]) hx hb dX1_init_37 hl (k := 0) rfl (by decide) (by decide) rfl (fun ls hl => ?_)
  refine lv_goto (tgt := 19) hx hb dX1_init_40 (by decide) ?_
  refine lv_iload_n hx hb dX1_init_19 rfl (lv_at hl 0 rfl) ?_
  refine lv_iconst (v := 4) hx hb dX1_init_20 (by decide) ?_
  refine lv_icmp_ge (tgt := 43) hx hb dX1_init_21 (by decide) (fun c => absurd c (by decide)) (fun _ => ?_)
  refine lv_aload_n hx hb dX1_init_24 rfl (lv_at hl 1 rfl) ?_
  refine g_get (ci := 1) (v := .ref q1) (C := RX1) (T := TX1) (N := 2) hx hb hts hinX1 hown hK hP 0 rfl rfl 1 (by decide) (hts (.fieldLink RX1 17 "ChargeStages$History" "kept" "[LChargeStages$State;") (List.mem_of_getElem? (i := 6) rfl)) rfl dX1_init_25 ?_
  refine lv_iload_n hx hb dX1_init_28 rfl (lv_at hl 0 rfl) ?_
  refine g_new (ci := 4) (fs := [.null, .null, .null, .null, .int 0, .int 0, .int 0, .int 0, .int 0, .int 0, .int 0, .int 0]) (C := RX4) (T := TX4) (N := 12) hx hb hts hinX4 tyX4 tyX4_ok hown (hts (.classLink RX1 15 RX4) (List.mem_of_getElem? (i := 5) rfl)) (hts (.instantiable RX4 12) (List.mem_of_getElem? (i := 7) rfl)) (hts (.initialized RX4) (List.mem_of_getElem? (i := 8) rfl)) hK hP hD hS hA rfl (by decide +kernel) (Nat.le_of_ble_eq_true rfl) (Nat.le_of_ble_eq_true rfl) dX1_init_29 (fun q4 H hP hD hS => ?_)
  have hP : va_P G.1 vwCl (List.flatten [[bwO h 1 [.int 0, .ref q1]], [bwQ G q1 4 (va_up (va_up (fun _ => none) 0 (some (a1 0))) 1 (some (a2 0)))], (List.flatten (svB G a1 nS)), (List.flatten (svB G a2 nS)), [bwO q4 4 [.null, .null, .null, .null, .int 0, .int 0, .int 0, .int 0, .int 0, .int 0, .int 0, .int 0]]]) H := hP
  have hD : va_D A (List.flatten [[bwO h 1 [.int 0, .ref q1]], [bwQ G q1 4 (va_up (va_up (fun _ => none) 0 (some (a1 0))) 1 (some (a2 0)))], (List.flatten (svB G a1 nS)), (List.flatten (svB G a2 nS)), [bwO q4 4 [.null, .null, .null, .null, .int 0, .int 0, .int 0, .int 0, .int 0, .int 0, .int 0, .int 0]]]) := hD
  refine lv_dup hx hb dX1_init_32 rfl ?_
  refine g_callIN (host := RX6) (c_X4_init l G q4) hx hb hml hown hts hK [[bwO h 1 [.int 0, .ref q1]], [bwQ G q1 4 (va_up (va_up (fun _ => none) 0 (some (a1 0))) 1 (some (a2 0)))], (List.flatten (svB G a1 nS)), (List.flatten (svB G a2 nS))] hP hD hS hA gX1_init_X4_init_n21 rfl (List.mem_of_getElem? (i := 8) rfl) (by decide +kernel) (List.mem_of_getElem? (i := 9) rfl) rfl (by decide +kernel) ⟨Nat.le_of_ble_eq_true rfl, Nat.le_of_ble_eq_true rfl⟩ hl.1 (Nat.le_of_ble_eq_true rfl) ⟨Nat.le_of_ble_eq_true rfl, Nat.le_of_ble_eq_true rfl⟩ dX1_init_33 (fun a3 H2 locs2 ea3 hP2 hD2 hS2 => ?_)
  clear hP hD hS
  subst ea3
  have hS := hS2
  have hP : va_P G.1 vwCl (List.flatten [[bwO h 1 [.int 0, .ref q1]], [bwQ G q1 4 (va_up (va_up (fun _ => none) 0 (some (a1 0))) 1 (some (a2 0)))], (List.flatten (svB G a1 nS)), (List.flatten (svB G a2 nS)), (List.flatten (svB G a3 nS))]) H2 := hP2
  have hD : va_D A (List.flatten [[bwO h 1 [.int 0, .ref q1]], [bwQ G q1 4 (va_up (va_up (fun _ => none) 0 (some (a1 0))) 1 (some (a2 0)))], (List.flatten (svB G a1 nS)), (List.flatten (svB G a2 nS)), (List.flatten (svB G a3 nS))]) := hD2
  refine g_astq (n := 4) (k := 2) (B2 := [[bwO h 1 [.int 0, .ref q1]], [bwQ G q1 4 (va_up (va_up (va_up (fun _ => none) 0 (some (a1 0))) 1 (some (a2 0))) 2 (some (a3 0)))], (List.flatten (svB G a1 nS)), (List.flatten (svB G a2 nS)), (List.flatten (svB G a3 nS))]) hx hb hK hP hD hS 1 40 rfl rfl (by decide) (by unfold vp_in; decide) rfl dX1_init_36 (fun H locs hP hD hS => ?_)
  refine lv_iinc (v := 3) (lv' := [(1, .int 3), (0, .ref h)]) hx hb dX1_init_37 hl (k := 0) rfl (by decide) (by decide) rfl (fun ls hl => ?_)
  refine lv_goto (tgt := 19) hx hb dX1_init_40 (by decide) ?_
  refine lv_iload_n hx hb dX1_init_19 rfl (lv_at hl 0 rfl) ?_
  refine lv_iconst (v := 4) hx hb dX1_init_20 (by decide) ?_
  refine lv_icmp_ge (tgt := 43) hx hb dX1_init_21 (by decide) (fun c => absurd c (by decide)) (fun _ => ?_)
  refine lv_aload_n hx hb dX1_init_24 rfl (lv_at hl 1 rfl) ?_
  refine g_get (ci := 1) (v := .ref q1) (C := RX1) (T := TX1) (N := 2) hx hb hts hinX1 hown hK hP 0 rfl rfl 1 (by decide) (hts (.fieldLink RX1 17 "ChargeStages$History" "kept" "[LChargeStages$State;") (List.mem_of_getElem? (i := 6) rfl)) rfl dX1_init_25 ?_
  refine lv_iload_n hx hb dX1_init_28 rfl (lv_at hl 0 rfl) ?_
  refine g_new (ci := 4) (fs := [.null, .null, .null, .null, .int 0, .int 0, .int 0, .int 0, .int 0, .int 0, .int 0, .int 0]) (C := RX4) (T := TX4) (N := 12) hx hb hts hinX4 tyX4 tyX4_ok hown (hts (.classLink RX1 15 RX4) (List.mem_of_getElem? (i := 5) rfl)) (hts (.instantiable RX4 12) (List.mem_of_getElem? (i := 7) rfl)) (hts (.initialized RX4) (List.mem_of_getElem? (i := 8) rfl)) hK hP hD hS hA rfl (by decide +kernel) (Nat.le_of_ble_eq_true rfl) (Nat.le_of_ble_eq_true rfl) dX1_init_29 (fun q5 H hP hD hS => ?_)
  have hP : va_P G.1 vwCl (List.flatten [[bwO h 1 [.int 0, .ref q1]], [bwQ G q1 4 (va_up (va_up (va_up (fun _ => none) 0 (some (a1 0))) 1 (some (a2 0))) 2 (some (a3 0)))], (List.flatten (svB G a1 nS)), (List.flatten (svB G a2 nS)), (List.flatten (svB G a3 nS)), [bwO q5 4 [.null, .null, .null, .null, .int 0, .int 0, .int 0, .int 0, .int 0, .int 0, .int 0, .int 0]]]) H := hP
  have hD : va_D A (List.flatten [[bwO h 1 [.int 0, .ref q1]], [bwQ G q1 4 (va_up (va_up (va_up (fun _ => none) 0 (some (a1 0))) 1 (some (a2 0))) 2 (some (a3 0)))], (List.flatten (svB G a1 nS)), (List.flatten (svB G a2 nS)), (List.flatten (svB G a3 nS)), [bwO q5 4 [.null, .null, .null, .null, .int 0, .int 0, .int 0, .int 0, .int 0, .int 0, .int 0, .int 0]]]) := hD
  refine lv_dup hx hb dX1_init_32 rfl ?_
  refine g_callIN (host := RX6) (c_X4_init l G q5) hx hb hml hown hts hK [[bwO h 1 [.int 0, .ref q1]], [bwQ G q1 4 (va_up (va_up (va_up (fun _ => none) 0 (some (a1 0))) 1 (some (a2 0))) 2 (some (a3 0)))], (List.flatten (svB G a1 nS)), (List.flatten (svB G a2 nS)), (List.flatten (svB G a3 nS))] hP hD hS hA gX1_init_X4_init_n21 rfl (List.mem_of_getElem? (i := 8) rfl) (by decide +kernel) (List.mem_of_getElem? (i := 9) rfl) rfl (by decide +kernel) ⟨Nat.le_of_ble_eq_true rfl, Nat.le_of_ble_eq_true rfl⟩ hl.1 (Nat.le_of_ble_eq_true rfl) ⟨Nat.le_of_ble_eq_true rfl, Nat.le_of_ble_eq_true rfl⟩ dX1_init_33 (fun a4 H2 locs2 ea4 hP2 hD2 hS2 => ?_)
  clear hP hD hS
  subst ea4
  have hS := hS2
  have hP : va_P G.1 vwCl (List.flatten [[bwO h 1 [.int 0, .ref q1]], [bwQ G q1 4 (va_up (va_up (va_up (fun _ => none) 0 (some (a1 0))) 1 (some (a2 0))) 2 (some (a3 0)))], (List.flatten (svB G a1 nS)), (List.flatten (svB G a2 nS)), (List.flatten (svB G a3 nS)), (List.flatten (svB G a4 nS))]) H2 := hP2
  have hD : va_D A (List.flatten [[bwO h 1 [.int 0, .ref q1]], [bwQ G q1 4 (va_up (va_up (va_up (fun _ => none) 0 (some (a1 0))) 1 (some (a2 0))) 2 (some (a3 0)))], (List.flatten (svB G a1 nS)), (List.flatten (svB G a2 nS)), (List.flatten (svB G a3 nS)), (List.flatten (svB G a4 nS))]) := hD2
  refine g_astq (n := 4) (k := 3) (B2 := [[bwO h 1 [.int 0, .ref q1]], [bwQ G q1 4 (va_up (va_up (va_up (va_up (fun _ => none) 0 (some (a1 0))) 1 (some (a2 0))) 2 (some (a3 0))) 3 (some (a4 0)))], (List.flatten (svB G a1 nS)), (List.flatten (svB G a2 nS)), (List.flatten (svB G a3 nS)), (List.flatten (svB G a4 nS))]) hx hb hK hP hD hS 1 59 rfl rfl (by decide) (by unfold vp_in; decide) rfl dX1_init_36 (fun H locs hP hD hS => ?_)
  refine lv_iinc (v := 4) (lv' := [(1, .int 4), (0, .ref h)]) hx hb dX1_init_37 hl (k := 0) rfl (by decide) (by decide) rfl (fun ls hl => ?_)
  refine lv_goto (tgt := 19) hx hb dX1_init_40 (by decide) ?_
  refine lv_iload_n hx hb dX1_init_19 rfl (lv_at hl 0 rfl) ?_
  refine lv_iconst (v := 4) hx hb dX1_init_20 (by decide) ?_
  refine lv_icmp_ge (tgt := 43) hx hb dX1_init_21 (by decide) (fun _ => ?_) (fun c => absurd c (by decide))
  rw [k4_new, g_hist] at hP hD
  exact g_retI hx hb hr hlocks hS dX1_init_43 (aC 2 (aL [h, q1]) (aC 19 a1 (aC 19 a2 (aC 19 a3 a4)))) rfl hP hD
theorem g_spl (b : va_W) (L Y : List va_W) : (b :: L.flatten :: Y).flatten = (b :: (L ++ Y)).flatten := by simp
set_option maxHeartbeats 4000000 in
set_option maxRecDepth 100000 in
theorem c_X6_init (l : Launch) (G : gG) (z : Nat × Nat × Nat) (h : Nat) : CI l G yX6_init wsX6_init 4 73 142 1011 h (.inr (6, [.null, .null, .null, .int 0, .null, .null, .null])) (fun a => [CW G a n1, (svB G (fun k => a (k + 1)) nC).flatten, (svB G (fun k => a (k + 20)) nS).flatten, (svB G (fun k => a (k + 39)) nS).flatten, HGW G (fun k => a (k + 58)) (0, 0, fun _ => nS), TW G (fun k => a (k + 136)) n2, PW G (fun k => a (k + 138)) n2]) (fun A U => va_AO RX4 U ∧ gZ z A U) := by
  refine CI.of (cc := cX6_init) (maxL := 1) (plainFor_of_name (by decide +kernel)) rfl rfl (Nat.le_of_ble_eq_true rfl) ?_
  intro p e s m below meth c A ls hx hb hml hr hts hown hlocks hin hK hP hD hA hS hl hZ
  have hown : s.vm.findClass RX6 = some m.cls := hown
  have hl : lv_has ls 1 [(0, .ref h)] := hl
  have hP : va_P G.1 vwCl (List.flatten [[bwO h 6 [.null, .null, .null, .int 0, .null, .null, .null]]]) s.heap := hP
  have hinX1 : ∀ w ∈ wsX10, w ∈ wsX6_init := fun w h => List.mem_cons_of_mem _ (List.mem_append_left _ (List.mem_append_left _ (List.mem_append_left _ (List.mem_append_left _ (List.mem_append_right _ h)))))
  have hinX3 : ∀ w ∈ wsX30, w ∈ wsX6_init := fun w h => List.mem_cons_of_mem _ (List.mem_append_left _ (List.mem_append_left _ (List.mem_append_right _ h)))
  have hinX4 : ∀ w ∈ wsX40, w ∈ wsX6_init := fun w h => List.mem_cons_of_mem _ (List.mem_append_left _ (List.mem_append_left _ (List.mem_append_left _ (List.mem_append_left _ (List.mem_append_left _ (List.mem_append_left _ (List.mem_append_right _ h)))))))
  have hinX5 : ∀ w ∈ wsX50, w ∈ wsX6_init := fun w h => List.mem_cons_of_mem _ (List.mem_append_left _ (List.mem_append_left _ (List.mem_append_left _ (List.mem_append_right _ h))))
  have hinX6 : ∀ w ∈ wsX60, w ∈ wsX6_init := fun w h => List.mem_cons_of_mem _ (List.mem_append_left _ (List.mem_append_left _ (List.mem_append_left _ (List.mem_append_left _ (List.mem_append_left _ (List.mem_append_right _ h))))))
  refine lv_aload_n hx hb dX6_init_0 rfl (lv_at hl 0 rfl) ?_
  refine W.objInit hx hb hown (hts (.methodLink RX6 1 objectInit) (List.mem_of_getElem? (i := 1) rfl)) (hts (.instanceMethod objectInit) (List.mem_of_getElem? (i := 2) rfl)) (hts (.code objectInit ⟨#[0xb1]⟩ 1 none) (List.mem_of_getElem? (i := 3) rfl)) rfl (by rw [hml]; exact hl.1) rfl dX6_init_1 (Nat.le_of_ble_eq_true rfl) (Nat.le_of_ble_eq_true rfl) ?_
  refine W.eq (g2 := F0 m 4 ls []) rfl ?_
  refine lv_aload_n hx hb dX6_init_4 rfl (lv_at hl 0 rfl) ?_
  refine g_new (ci := 4) (fs := [.null, .null, .null, .null, .int 0, .int 0, .int 0, .int 0, .int 0, .int 0, .int 0, .int 0]) (C := RX4) (T := TX4) (N := 12) hx hb hts hinX4 tyX4 tyX4_ok hown (hts (.classLink RX6 7 RX4) (List.mem_of_getElem? (i := 4) rfl)) (hts (.instantiable RX4 12) (List.mem_of_getElem? (i := 5) rfl)) (hts (.initialized RX4) (List.mem_of_getElem? (i := 6) rfl)) hK hP hD hS hA rfl (by decide +kernel) (Nat.le_of_ble_eq_true rfl) (Nat.le_of_ble_eq_true rfl) dX6_init_5 (fun q1 H hP hD hS => ?_)
  have hP : va_P G.1 vwCl (List.flatten [[bwO h 6 [.null, .null, .null, .int 0, .null, .null, .null]], [bwO q1 4 [.null, .null, .null, .null, .int 0, .int 0, .int 0, .int 0, .int 0, .int 0, .int 0, .int 0]]]) H := hP
  have hD : va_D A (List.flatten [[bwO h 6 [.null, .null, .null, .int 0, .null, .null, .null]], [bwO q1 4 [.null, .null, .null, .null, .int 0, .int 0, .int 0, .int 0, .int 0, .int 0, .int 0, .int 0]]]) := hD
  refine lv_dup hx hb dX6_init_8 rfl ?_
  refine g_callIN (host := RX6) (c_X4_init l G q1) hx hb hml hown hts hK [[bwO h 6 [.null, .null, .null, .int 0, .null, .null, .null]]] hP hD hS hA gX6_init_X4_init_n9 rfl (List.mem_of_getElem? (i := 6) rfl) (by decide +kernel) (List.mem_of_getElem? (i := 23) rfl) rfl (by decide +kernel) ⟨Nat.le_of_ble_eq_true rfl, Nat.le_of_ble_eq_true rfl⟩ hl.1 (Nat.le_of_ble_eq_true rfl) ⟨Nat.le_of_ble_eq_true rfl, Nat.le_of_ble_eq_true rfl⟩ dX6_init_9 (fun a1 H2 locs2 ea1 hP2 hD2 hS2 => ?_)
  clear hP hD hS
  subst ea1
  have hS := hS2
  have hP : va_P G.1 vwCl (List.flatten [[bwO h 6 [.null, .null, .null, .int 0, .null, .null, .null]], (List.flatten (svB G a1 nS))]) H2 := hP2
  have hD : va_D A (List.flatten [[bwO h 6 [.null, .null, .null, .int 0, .null, .null, .null]], (List.flatten (svB G a1 nS))]) := hD2
  refine g_putF (ci := 6) (v := .ref (a1 0)) (ty := (.object "ChargeStages$State")) (C := RX6) (T := TX6) (N := 7) (B2 := [[bwO h 6 [.ref (a1 0), .null, .null, .int 0, .null, .null, .null]], (List.flatten (svB G a1 nS))]) hx hb hts hinX6 tyX6 tyX6_ok nmX6 hown hK hP hD hS 0 rfl rfl 0 (by decide) (hts (.fieldLink RX6 10 "ChargeStages" "now" "LChargeStages$State;") (List.mem_of_getElem? (i := 7) rfl)) rfl hin rfl (by decide +kernel) rfl rfl (Nat.le_of_ble_eq_true rfl) rfl dX6_init_12 (fun H locs hP hD hS => ?_)
  refine lv_aload_n hx hb dX6_init_15 rfl (lv_at hl 0 rfl) ?_
  refine g_new (ci := 4) (fs := [.null, .null, .null, .null, .int 0, .int 0, .int 0, .int 0, .int 0, .int 0, .int 0, .int 0]) (C := RX4) (T := TX4) (N := 12) hx hb hts hinX4 tyX4 tyX4_ok hown (hts (.classLink RX6 7 RX4) (List.mem_of_getElem? (i := 4) rfl)) (hts (.instantiable RX4 12) (List.mem_of_getElem? (i := 5) rfl)) (hts (.initialized RX4) (List.mem_of_getElem? (i := 6) rfl)) hK hP hD hS hA rfl (by decide +kernel) (Nat.le_of_ble_eq_true rfl) (Nat.le_of_ble_eq_true rfl) dX6_init_16 (fun q2 H hP hD hS => ?_)
  have hP : va_P G.1 vwCl (List.flatten [[bwO h 6 [.ref (a1 0), .null, .null, .int 0, .null, .null, .null]], (List.flatten (svB G a1 nS)), [bwO q2 4 [.null, .null, .null, .null, .int 0, .int 0, .int 0, .int 0, .int 0, .int 0, .int 0, .int 0]]]) H := hP
  have hD : va_D A (List.flatten [[bwO h 6 [.ref (a1 0), .null, .null, .int 0, .null, .null, .null]], (List.flatten (svB G a1 nS)), [bwO q2 4 [.null, .null, .null, .null, .int 0, .int 0, .int 0, .int 0, .int 0, .int 0, .int 0, .int 0]]]) := hD
  refine lv_dup hx hb dX6_init_19 rfl ?_
  refine g_callIN (host := RX6) (c_X4_init l G q2) hx hb hml hown hts hK [[bwO h 6 [.ref (a1 0), .null, .null, .int 0, .null, .null, .null]], (List.flatten (svB G a1 nS))] hP hD hS hA gX6_init_X4_init_n9 rfl (List.mem_of_getElem? (i := 6) rfl) (by decide +kernel) (List.mem_of_getElem? (i := 23) rfl) rfl (by decide +kernel) ⟨Nat.le_of_ble_eq_true rfl, Nat.le_of_ble_eq_true rfl⟩ hl.1 (Nat.le_of_ble_eq_true rfl) ⟨Nat.le_of_ble_eq_true rfl, Nat.le_of_ble_eq_true rfl⟩ dX6_init_20 (fun a2 H2 locs2 ea2 hP2 hD2 hS2 => ?_)
  clear hP hD hS
  subst ea2
  have hS := hS2
  have hP : va_P G.1 vwCl (List.flatten [[bwO h 6 [.ref (a1 0), .null, .null, .int 0, .null, .null, .null]], (List.flatten (svB G a1 nS)), (List.flatten (svB G a2 nS))]) H2 := hP2
  have hD : va_D A (List.flatten [[bwO h 6 [.ref (a1 0), .null, .null, .int 0, .null, .null, .null]], (List.flatten (svB G a1 nS)), (List.flatten (svB G a2 nS))]) := hD2
  refine g_putF (ci := 6) (v := .ref (a2 0)) (ty := (.object "ChargeStages$State")) (C := RX6) (T := TX6) (N := 7) (B2 := [[bwO h 6 [.ref (a1 0), .ref (a2 0), .null, .int 0, .null, .null, .null]], (List.flatten (svB G a1 nS)), (List.flatten (svB G a2 nS))]) hx hb hts hinX6 tyX6 tyX6_ok nmX6 hown hK hP hD hS 0 rfl rfl 1 (by decide) (hts (.fieldLink RX6 16 "ChargeStages" "forecast" "LChargeStages$State;") (List.mem_of_getElem? (i := 8) rfl)) rfl hin rfl (by decide +kernel) rfl rfl (Nat.le_of_ble_eq_true rfl) rfl dX6_init_23 (fun H locs hP hD hS => ?_)
  refine lv_aload_n hx hb dX6_init_26 rfl (lv_at hl 0 rfl) ?_
  refine g_new (ci := 4) (fs := [.null, .null, .null, .null, .int 0, .int 0, .int 0, .int 0, .int 0, .int 0, .int 0, .int 0]) (C := RX4) (T := TX4) (N := 12) hx hb hts hinX4 tyX4 tyX4_ok hown (hts (.classLink RX6 7 RX4) (List.mem_of_getElem? (i := 4) rfl)) (hts (.instantiable RX4 12) (List.mem_of_getElem? (i := 5) rfl)) (hts (.initialized RX4) (List.mem_of_getElem? (i := 6) rfl)) hK hP hD hS hA rfl (by decide +kernel) (Nat.le_of_ble_eq_true rfl) (Nat.le_of_ble_eq_true rfl) dX6_init_27 (fun q3 H hP hD hS => ?_)
  have hP : va_P G.1 vwCl (List.flatten [[bwO h 6 [.ref (a1 0), .ref (a2 0), .null, .int 0, .null, .null, .null]], (List.flatten (svB G a1 nS)), (List.flatten (svB G a2 nS)), [bwO q3 4 [.null, .null, .null, .null, .int 0, .int 0, .int 0, .int 0, .int 0, .int 0, .int 0, .int 0]]]) H := hP
  have hD : va_D A (List.flatten [[bwO h 6 [.ref (a1 0), .ref (a2 0), .null, .int 0, .null, .null, .null]], (List.flatten (svB G a1 nS)), (List.flatten (svB G a2 nS)), [bwO q3 4 [.null, .null, .null, .null, .int 0, .int 0, .int 0, .int 0, .int 0, .int 0, .int 0, .int 0]]]) := hD
  refine lv_dup hx hb dX6_init_30 rfl ?_
  refine g_callIN (host := RX6) (c_X4_init l G q3) hx hb hml hown hts hK [[bwO h 6 [.ref (a1 0), .ref (a2 0), .null, .int 0, .null, .null, .null]], (List.flatten (svB G a1 nS)), (List.flatten (svB G a2 nS))] hP hD hS hA gX6_init_X4_init_n9 rfl (List.mem_of_getElem? (i := 6) rfl) (by decide +kernel) (List.mem_of_getElem? (i := 23) rfl) rfl (by decide +kernel) ⟨Nat.le_of_ble_eq_true rfl, Nat.le_of_ble_eq_true rfl⟩ hl.1 (Nat.le_of_ble_eq_true rfl) ⟨Nat.le_of_ble_eq_true rfl, Nat.le_of_ble_eq_true rfl⟩ dX6_init_31 (fun a3 H2 locs2 ea3 hP2 hD2 hS2 => ?_)
  clear hP hD hS
  subst ea3
  have hS := hS2
  have hP : va_P G.1 vwCl (List.flatten [[bwO h 6 [.ref (a1 0), .ref (a2 0), .null, .int 0, .null, .null, .null]], (List.flatten (svB G a1 nS)), (List.flatten (svB G a2 nS)), (List.flatten (svB G a3 nS))]) H2 := hP2
  have hD : va_D A (List.flatten [[bwO h 6 [.ref (a1 0), .ref (a2 0), .null, .int 0, .null, .null, .null]], (List.flatten (svB G a1 nS)), (List.flatten (svB G a2 nS)), (List.flatten (svB G a3 nS))]) := hD2
  refine g_putF (ci := 6) (v := .ref (a3 0)) (ty := (.object "ChargeStages$State")) (C := RX6) (T := TX6) (N := 7) (B2 := [[bwO h 6 [.ref (a1 0), .ref (a2 0), .ref (a3 0), .int 0, .null, .null, .null]], (List.flatten (svB G a1 nS)), (List.flatten (svB G a2 nS)), (List.flatten (svB G a3 nS))]) hx hb hts hinX6 tyX6 tyX6_ok nmX6 hown hK hP hD hS 0 rfl rfl 2 (by decide) (hts (.fieldLink RX6 19 "ChargeStages" "snapshot" "LChargeStages$State;") (List.mem_of_getElem? (i := 9) rfl)) rfl hin rfl (by decide +kernel) rfl rfl (Nat.le_of_ble_eq_true rfl) rfl dX6_init_34 (fun H locs hP hD hS => ?_)
  refine lv_aload_n hx hb dX6_init_37 rfl (lv_at hl 0 rfl) ?_
  refine lv_iconst (v := 0) hx hb dX6_init_38 (by decide) ?_
  refine g_put (ci := 6) (v := .int 0) (ty := .boolean) (C := RX6) (T := TX6) (N := 7) (B2 := [[bwO h 6 [.ref (a1 0), .ref (a2 0), .ref (a3 0), .int 0, .null, .null, .null]], (List.flatten (svB G a1 nS)), (List.flatten (svB G a2 nS)), (List.flatten (svB G a3 nS))]) hx hb hts hinX6 tyX6 tyX6_ok nmX6 hown hK hP hD hS 0 rfl rfl 3 (by decide) (hts (.fieldLink RX6 22 "ChargeStages" "hasSnapshot" "Z") (List.mem_of_getElem? (i := 10) rfl)) rfl (by decide +kernel) rfl rfl (Nat.le_of_ble_eq_true rfl) rfl dX6_init_39 (fun H locs hP hD hS => ?_)
  refine lv_aload_n hx hb dX6_init_42 rfl (lv_at hl 0 rfl) ?_
  refine g_new (ci := 1) (fs := [.int 0, .null]) (C := RX1) (T := TX1) (N := 2) hx hb hts hinX1 tyX1 tyX1_ok hown (hts (.classLink RX6 26 RX1) (List.mem_of_getElem? (i := 11) rfl)) (hts (.instantiable RX1 2) (List.mem_of_getElem? (i := 12) rfl)) (hts (.initialized RX1) (List.mem_of_getElem? (i := 13) rfl)) hK hP hD hS hA rfl (by decide +kernel) (Nat.le_of_ble_eq_true rfl) (Nat.le_of_ble_eq_true rfl) dX6_init_43 (fun q4 H hP hD hS => ?_)
  have hP : va_P G.1 vwCl (List.flatten [[bwO h 6 [.ref (a1 0), .ref (a2 0), .ref (a3 0), .int 0, .null, .null, .null]], (List.flatten (svB G a1 nS)), (List.flatten (svB G a2 nS)), (List.flatten (svB G a3 nS)), [bwO q4 1 [.int 0, .null]]]) H := hP
  have hD : va_D A (List.flatten [[bwO h 6 [.ref (a1 0), .ref (a2 0), .ref (a3 0), .int 0, .null, .null, .null]], (List.flatten (svB G a1 nS)), (List.flatten (svB G a2 nS)), (List.flatten (svB G a3 nS)), [bwO q4 1 [.int 0, .null]]]) := hD
  refine lv_dup hx hb dX6_init_46 rfl ?_
  refine g_callI (c_X1_init l G q4) hx hb hml hown hts hK [[bwO h 6 [.ref (a1 0), .ref (a2 0), .ref (a3 0), .int 0, .null, .null, .null]], (List.flatten (svB G a1 nS)), (List.flatten (svB G a2 nS)), (List.flatten (svB G a3 nS))] hP hD hS hA (fun U _ hW => hZ.1.moved hW.alike) (fun U g mk a h => va_AO.moved (u := U) (U := U.calling g mk a) (Vm.Alike.refl U.vm) h) gX6_init_X1_init rfl (List.mem_of_getElem? (i := 13) rfl) (List.mem_of_getElem? (i := 73) rfl) (List.mem_of_getElem? (i := 74) rfl) rfl (by decide +kernel) ⟨Nat.le_of_ble_eq_true rfl, Nat.le_of_ble_eq_true rfl⟩ hl.1 (Nat.le_of_ble_eq_true rfl) ⟨Nat.le_of_ble_eq_true rfl, Nat.le_of_ble_eq_true rfl⟩ dX6_init_47 (fun a4 H2 locs2 ea4 hP2 hD2 hS2 => ?_)
  clear hP hD hS
  subst ea4
  have hS := hS2
  have hP2 : va_P G.1 vwCl (List.flatten ([[bwO h 6 [.ref (a1 0), .ref (a2 0), .ref (a3 0), .int 0, .null, .null, .null]], (List.flatten (svB G a1 nS)), (List.flatten (svB G a2 nS)), (List.flatten (svB G a3 nS))] ++ [List.flatten [HGW G a4 (0, 0, fun _ => nS)]])) H2 := hP2
  have hD2 : va_D A (List.flatten ([[bwO h 6 [.ref (a1 0), .ref (a2 0), .ref (a3 0), .int 0, .null, .null, .null]], (List.flatten (svB G a1 nS)), (List.flatten (svB G a2 nS)), (List.flatten (svB G a3 nS))] ++ [List.flatten [HGW G a4 (0, 0, fun _ => nS)]])) := hD2
  rw [g_one (HGW G a4 (0, 0, fun _ => nS))] at hP2 hD2
  have hP : va_P G.1 vwCl (List.flatten [[bwO h 6 [.ref (a1 0), .ref (a2 0), .ref (a3 0), .int 0, .null, .null, .null]], (List.flatten (svB G a1 nS)), (List.flatten (svB G a2 nS)), (List.flatten (svB G a3 nS)), HGW G a4 (0, 0, fun _ => nS)]) H2 := hP2
  have hD : va_D A (List.flatten [[bwO h 6 [.ref (a1 0), .ref (a2 0), .ref (a3 0), .int 0, .null, .null, .null]], (List.flatten (svB G a1 nS)), (List.flatten (svB G a2 nS)), (List.flatten (svB G a3 nS)), HGW G a4 (0, 0, fun _ => nS)]) := hD2
  refine g_putF (ci := 6) (v := .ref (a4 0)) (ty := (.object "ChargeStages$History")) (C := RX6) (T := TX6) (N := 7) (B2 := [[bwO h 6 [.ref (a1 0), .ref (a2 0), .ref (a3 0), .int 0, .ref (a4 0), .null, .null]], (List.flatten (svB G a1 nS)), (List.flatten (svB G a2 nS)), (List.flatten (svB G a3 nS)), HGW G a4 (0, 0, fun _ => nS)]) hx hb hts hinX6 tyX6 tyX6_ok nmX6 hown hK hP hD hS 0 rfl rfl 4 (by decide) (hts (.fieldLink RX6 29 "ChargeStages" "history" "LChargeStages$History;") (List.mem_of_getElem? (i := 14) rfl)) rfl hin rfl (by decide +kernel) rfl rfl (Nat.le_of_ble_eq_true rfl) rfl dX6_init_50 (fun H locs hP hD hS => ?_)
  refine lv_aload_n hx hb dX6_init_53 rfl (lv_at hl 0 rfl) ?_
  refine g_new (ci := 5) (fs := [.int 0, .int 0, .null]) (C := RX5) (T := TX5) (N := 3) hx hb hts hinX5 tyX5 tyX5_ok hown (hts (.classLink RX6 33 RX5) (List.mem_of_getElem? (i := 15) rfl)) (hts (.instantiable RX5 3) (List.mem_of_getElem? (i := 16) rfl)) (hts (.initialized RX5) (List.mem_of_getElem? (i := 17) rfl)) hK hP hD hS hA rfl (by decide +kernel) (Nat.le_of_ble_eq_true rfl) (Nat.le_of_ble_eq_true rfl) dX6_init_54 (fun q5 H hP hD hS => ?_)
  have hP : va_P G.1 vwCl (List.flatten [[bwO h 6 [.ref (a1 0), .ref (a2 0), .ref (a3 0), .int 0, .ref (a4 0), .null, .null]], (List.flatten (svB G a1 nS)), (List.flatten (svB G a2 nS)), (List.flatten (svB G a3 nS)), HGW G a4 (0, 0, fun _ => nS), [bwO q5 5 [.int 0, .int 0, .null]]]) H := hP
  have hD : va_D A (List.flatten [[bwO h 6 [.ref (a1 0), .ref (a2 0), .ref (a3 0), .int 0, .ref (a4 0), .null, .null]], (List.flatten (svB G a1 nS)), (List.flatten (svB G a2 nS)), (List.flatten (svB G a3 nS)), HGW G a4 (0, 0, fun _ => nS), [bwO q5 5 [.int 0, .int 0, .null]]]) := hD
  refine lv_dup hx hb dX6_init_57 rfl ?_
  refine g_callIN (host := RX6) (c_X5_init l G q5) hx hb hml hown hts hK [[bwO h 6 [.ref (a1 0), .ref (a2 0), .ref (a3 0), .int 0, .ref (a4 0), .null, .null]], (List.flatten (svB G a1 nS)), (List.flatten (svB G a2 nS)), (List.flatten (svB G a3 nS)), HGW G a4 (0, 0, fun _ => nS)] hP hD hS hA gX6_init_X5_init_n35 rfl (List.mem_of_getElem? (i := 17) rfl) (by decide +kernel) (List.mem_of_getElem? (i := 80) rfl) rfl (by decide +kernel) ⟨Nat.le_of_ble_eq_true rfl, Nat.le_of_ble_eq_true rfl⟩ hl.1 (Nat.le_of_ble_eq_true rfl) ⟨Nat.le_of_ble_eq_true rfl, Nat.le_of_ble_eq_true rfl⟩ dX6_init_58 (fun a5 H2 locs2 ea5 hP2 hD2 hS2 => ?_)
  clear hP hD hS
  subst ea5
  have hS := hS2
  have hP2 : va_P G.1 vwCl (List.flatten ([[bwO h 6 [.ref (a1 0), .ref (a2 0), .ref (a3 0), .int 0, .ref (a4 0), .null, .null]], (List.flatten (svB G a1 nS)), (List.flatten (svB G a2 nS)), (List.flatten (svB G a3 nS)), HGW G a4 (0, 0, fun _ => nS)] ++ [List.flatten [TW G a5 n2]])) H2 := hP2
  have hD2 : va_D A (List.flatten ([[bwO h 6 [.ref (a1 0), .ref (a2 0), .ref (a3 0), .int 0, .ref (a4 0), .null, .null]], (List.flatten (svB G a1 nS)), (List.flatten (svB G a2 nS)), (List.flatten (svB G a3 nS)), HGW G a4 (0, 0, fun _ => nS)] ++ [List.flatten [TW G a5 n2]])) := hD2
  rw [g_one (TW G a5 n2)] at hP2 hD2
  have hP : va_P G.1 vwCl (List.flatten [[bwO h 6 [.ref (a1 0), .ref (a2 0), .ref (a3 0), .int 0, .ref (a4 0), .null, .null]], (List.flatten (svB G a1 nS)), (List.flatten (svB G a2 nS)), (List.flatten (svB G a3 nS)), HGW G a4 (0, 0, fun _ => nS), TW G a5 n2]) H2 := hP2
  have hD : va_D A (List.flatten [[bwO h 6 [.ref (a1 0), .ref (a2 0), .ref (a3 0), .int 0, .ref (a4 0), .null, .null]], (List.flatten (svB G a1 nS)), (List.flatten (svB G a2 nS)), (List.flatten (svB G a3 nS)), HGW G a4 (0, 0, fun _ => nS), TW G a5 n2]) := hD2
  refine g_putF (ci := 6) (v := .ref (a5 0)) (ty := (.object "ChargeStages$Text")) (C := RX6) (T := TX6) (N := 7) (B2 := [[bwO h 6 [.ref (a1 0), .ref (a2 0), .ref (a3 0), .int 0, .ref (a4 0), .ref (a5 0), .null]], (List.flatten (svB G a1 nS)), (List.flatten (svB G a2 nS)), (List.flatten (svB G a3 nS)), HGW G a4 (0, 0, fun _ => nS), TW G a5 n2]) hx hb hts hinX6 tyX6 tyX6_ok nmX6 hown hK hP hD hS 0 rfl rfl 5 (by decide) (hts (.fieldLink RX6 36 "ChargeStages" "text" "LChargeStages$Text;") (List.mem_of_getElem? (i := 18) rfl)) rfl hin rfl (by decide +kernel) rfl rfl (Nat.le_of_ble_eq_true rfl) rfl dX6_init_61 (fun H locs hP hD hS => ?_)
  refine lv_aload_n hx hb dX6_init_64 rfl (lv_at hl 0 rfl) ?_
  refine g_new (ci := 3) (fs := [.int 0, .null, .null, .null, .null]) (C := RX3) (T := TX3) (N := 5) hx hb hts hinX3 tyX3 tyX3_ok hown (hts (.classLink RX6 40 RX3) (List.mem_of_getElem? (i := 19) rfl)) (hts (.instantiable RX3 5) (List.mem_of_getElem? (i := 20) rfl)) (hts (.initialized RX3) (List.mem_of_getElem? (i := 21) rfl)) hK hP hD hS hA rfl (by decide +kernel) (Nat.le_of_ble_eq_true rfl) (Nat.le_of_ble_eq_true rfl) dX6_init_65 (fun q6 H hP hD hS => ?_)
  have hP : va_P G.1 vwCl (List.flatten [[bwO h 6 [.ref (a1 0), .ref (a2 0), .ref (a3 0), .int 0, .ref (a4 0), .ref (a5 0), .null]], (List.flatten (svB G a1 nS)), (List.flatten (svB G a2 nS)), (List.flatten (svB G a3 nS)), HGW G a4 (0, 0, fun _ => nS), TW G a5 n2, [bwO q6 3 [.int 0, .null, .null, .null, .null]]]) H := hP
  have hD : va_D A (List.flatten [[bwO h 6 [.ref (a1 0), .ref (a2 0), .ref (a3 0), .int 0, .ref (a4 0), .ref (a5 0), .null]], (List.flatten (svB G a1 nS)), (List.flatten (svB G a2 nS)), (List.flatten (svB G a3 nS)), HGW G a4 (0, 0, fun _ => nS), TW G a5 n2, [bwO q6 3 [.int 0, .null, .null, .null, .null]]]) := hD
  refine lv_dup hx hb dX6_init_68 rfl ?_
  refine g_callIN (host := RX6) (c_X3_init l G q6) hx hb hml hown hts hK [[bwO h 6 [.ref (a1 0), .ref (a2 0), .ref (a3 0), .int 0, .ref (a4 0), .ref (a5 0), .null]], (List.flatten (svB G a1 nS)), (List.flatten (svB G a2 nS)), (List.flatten (svB G a3 nS)), HGW G a4 (0, 0, fun _ => nS), TW G a5 n2] hP hD hS hA gX6_init_X3_init_n42 rfl (List.mem_of_getElem? (i := 21) rfl) (by decide +kernel) (List.mem_of_getElem? (i := 57) rfl) rfl (by decide +kernel) ⟨Nat.le_of_ble_eq_true rfl, Nat.le_of_ble_eq_true rfl⟩ hl.1 (Nat.le_of_ble_eq_true rfl) ⟨Nat.le_of_ble_eq_true rfl, Nat.le_of_ble_eq_true rfl⟩ dX6_init_69 (fun a6 H2 locs2 ea6 hP2 hD2 hS2 => ?_)
  clear hP hD hS
  subst ea6
  have hS := hS2
  have hP2 : va_P G.1 vwCl (List.flatten ([[bwO h 6 [.ref (a1 0), .ref (a2 0), .ref (a3 0), .int 0, .ref (a4 0), .ref (a5 0), .null]], (List.flatten (svB G a1 nS)), (List.flatten (svB G a2 nS)), (List.flatten (svB G a3 nS)), HGW G a4 (0, 0, fun _ => nS), TW G a5 n2] ++ [List.flatten [PW G a6 n2]])) H2 := hP2
  have hD2 : va_D A (List.flatten ([[bwO h 6 [.ref (a1 0), .ref (a2 0), .ref (a3 0), .int 0, .ref (a4 0), .ref (a5 0), .null]], (List.flatten (svB G a1 nS)), (List.flatten (svB G a2 nS)), (List.flatten (svB G a3 nS)), HGW G a4 (0, 0, fun _ => nS), TW G a5 n2] ++ [List.flatten [PW G a6 n2]])) := hD2
  rw [g_one (PW G a6 n2)] at hP2 hD2
  have hP : va_P G.1 vwCl (List.flatten [[bwO h 6 [.ref (a1 0), .ref (a2 0), .ref (a3 0), .int 0, .ref (a4 0), .ref (a5 0), .null]], (List.flatten (svB G a1 nS)), (List.flatten (svB G a2 nS)), (List.flatten (svB G a3 nS)), HGW G a4 (0, 0, fun _ => nS), TW G a5 n2, PW G a6 n2]) H2 := hP2
  have hD : va_D A (List.flatten [[bwO h 6 [.ref (a1 0), .ref (a2 0), .ref (a3 0), .int 0, .ref (a4 0), .ref (a5 0), .null]], (List.flatten (svB G a1 nS)), (List.flatten (svB G a2 nS)), (List.flatten (svB G a3 nS)), HGW G a4 (0, 0, fun _ => nS), TW G a5 n2, PW G a6 n2]) := hD2
  refine g_putF (ci := 6) (v := .ref (a6 0)) (ty := (.object "ChargeStages$Profile")) (C := RX6) (T := TX6) (N := 7) (B2 := [[bwO h 6 [.ref (a1 0), .ref (a2 0), .ref (a3 0), .int 0, .ref (a4 0), .ref (a5 0), .ref (a6 0)]], (List.flatten (svB G a1 nS)), (List.flatten (svB G a2 nS)), (List.flatten (svB G a3 nS)), HGW G a4 (0, 0, fun _ => nS), TW G a5 n2, PW G a6 n2]) hx hb hts hinX6 tyX6 tyX6_ok nmX6 hown hK hP hD hS 0 rfl rfl 6 (by decide) (hts (.fieldLink RX6 43 "ChargeStages" "draft" "LChargeStages$Profile;") (List.mem_of_getElem? (i := 22) rfl)) rfl hin rfl (by decide +kernel) rfl rfl (Nat.le_of_ble_eq_true rfl) rfl dX6_init_72 (fun H locs hP hD hS => ?_)
  refine lv_aload_n hx hb dX6_init_75 rfl (lv_at hl 0 rfl) ?_
  refine g_get (ci := 6) (v := .ref (a1 0)) (C := RX6) (T := TX6) (N := 7) hx hb hts hinX6 hown hK hP 0 rfl rfl 0 (by decide) (hts (.fieldLink RX6 10 "ChargeStages" "now" "LChargeStages$State;") (List.mem_of_getElem? (i := 7) rfl)) rfl dX6_init_76 ?_
  rw [g_spl] at hP hD
  have hP : va_P G.1 vwCl (List.flatten [[bwO h 6 [.ref (a1 0), .ref (a2 0), .ref (a3 0), .int 0, .ref (a4 0), .ref (a5 0), .ref (a6 0)]], OW G a1 nS.1, AW G (a1 1) 9 nS.2.1, BW G (fun k => a1 (k + 2)) nS.2.2.1, PW G (fun k => a1 (k + 10)) nS.2.2.2.1, LW G (fun k => a1 (k + 15)) nS.2.2.2.2, (List.flatten (svB G a2 nS)), (List.flatten (svB G a3 nS)), HGW G a4 (0, 0, fun _ => nS), TW G a5 n2, PW G a6 n2]) _ := hP
  have hD : va_D A (List.flatten [[bwO h 6 [.ref (a1 0), .ref (a2 0), .ref (a3 0), .int 0, .ref (a4 0), .ref (a5 0), .ref (a6 0)]], OW G a1 nS.1, AW G (a1 1) 9 nS.2.1, BW G (fun k => a1 (k + 2)) nS.2.2.1, PW G (fun k => a1 (k + 10)) nS.2.2.2.1, LW G (fun k => a1 (k + 15)) nS.2.2.2.2, (List.flatten (svB G a2 nS)), (List.flatten (svB G a3 nS)), HGW G a4 (0, 0, fun _ => nS), TW G a5 n2, PW G a6 n2]) := hD
  refine g_callZ (c_X4_setUp l G z a1 nS.1 nS.2.1) hx hb hml hown hts hK hP hD hS hA hZ.2 gX6_init_X4_setUp rfl (n := 0) (by decide +kernel) rfl ⟨Nat.le_of_ble_eq_true rfl, Nat.le_of_ble_eq_true rfl⟩ [1, 2] rfl (by decide) 1 rfl (ci := 4) rfl hl.1 rfl (Nat.le_of_ble_eq_true rfl) ⟨Nat.le_of_ble_eq_true rfl, Nat.le_of_ble_eq_true rfl⟩ dX6_init_79 (fun H locs hP hD hS => ?_)
  have hP : va_P G.1 vwCl (List.flatten ([bwO h 6 [.ref (a1 0), .ref (a2 0), .ref (a3 0), .int 0, .ref (a4 0), .ref (a5 0), .ref (a6 0)]] :: (svB G a1 nC ++ [(List.flatten (svB G a2 nS)), (List.flatten (svB G a3 nS)), HGW G a4 (0, 0, fun _ => nS), TW G a5 n2, PW G a6 n2]))) H := hP
  have hD : va_D A (List.flatten ([bwO h 6 [.ref (a1 0), .ref (a2 0), .ref (a3 0), .int 0, .ref (a4 0), .ref (a5 0), .ref (a6 0)]] :: (svB G a1 nC ++ [(List.flatten (svB G a2 nS)), (List.flatten (svB G a3 nS)), HGW G a4 (0, 0, fun _ => nS), TW G a5 n2, PW G a6 n2]))) := hD
  rw [← g_spl] at hP hD
  exact g_retI hx hb hr hlocks hS dX6_init_82 (aC 1 (aL [h]) (aC 19 a1 (aC 19 a2 (aC 19 a3 (aC 78 a4 (aC 2 a5 a6)))))) rfl hP hD
/-- the first row of the reference -/
def nF : Nat → Int32 := (upd (upd (upd (upd (upd (upd (upd (upd (fun _ => 0) 71 3) 42 1000) 43 100) 44 90) 45 25) 46 3) 48 45) 49 20)
