def f_X5_add (t : (Nat → Nat → Int32)) (p1 : Int32) : (Nat → Nat → Int32) := (if 60 ≤ ((t 0) 0) then t else (gL (upd (t 1) (((t 0) 0).toNatClampNeg) (vp_nar .char p1)) (fun (z2 : (Nat → Int32)) => (sF (sF t 0 (upd (t 0) 0 (((t 0) 0) + 1))) 1 z2))))
def ok_X5_add (t : (Nat → Nat → Int32)) : Prop := ((60 ≤ ((t 0) 0) → True) ∧ (¬ 60 ≤ ((t 0) 0) → (vp_in ((t 0) 0) 60) ∧ True))
set_option maxHeartbeats 4000000 in
set_option maxRecDepth 100000 in
theorem c_X5_add (l : Launch) (G : gG) (a : Nat → Nat) (t : (Nat → Nat → Int32)) (p1 : Int32) (R : (Nat → Nat → Int32)) (hR : R = f_X5_add t p1) (hok : ok_X5_add t) : CT l G yX5_add wsX5_add 0 0 [.ref (a 0), .int p1] [TW G a t] none [TW G a R] := by
  unfold f_X5_add at hR
  unfold ok_X5_add at hok
  refine CT.of (cc := cX5_add) (maxL := 2) (ret := none) (plainFor_of_name (by decide +kernel)) rfl rfl (Nat.le_of_ble_eq_true rfl) ?_
  intro p e s m below meth c A ls hx hb hml hr hts hown hlocks hK hP hD hA hS hl
  have hown : s.vm.findClass RX5 = some m.cls := hown
  have hl : lv_has ls 2 [(0, .ref (a 0)), (1, .int p1)] := hl
  have hinX5 : ∀ w ∈ wsX50, w ∈ wsX5_add := fun w h => List.mem_cons_of_mem _ (List.mem_append_right _ h)
  refine lv_aload_n hx hb dX5_add_0 rfl (lv_at hl 0 rfl) ?_
  refine g_get (ci := 5) (v := .int ((t 0) 0)) (C := RX5) (T := TX5) (N := 3) hx hb hts hinX5 hown hK hP 0 rfl rfl 0 (by decide) (hts (.fieldLink RX5 9 "ChargeStages$Text" "length" "I") (List.mem_of_getElem? (i := 1) rfl)) rfl dX5_add_1 ?_
  refine lv_bipush (v := 60) hx hb dX5_add_4 (by decide) ?_
  refine lv_icmp_ge (tgt := 29) hx hb dX5_add_6 (by decide) (fun c1 => ?_) (fun c1 => ?_)
  · rw [if_pos c1] at hR
    have hok := hok.1 c1
    subst hR
    exact g_retv hx hb hr hlocks hS dX5_add_29 rfl hP
  · rw [if_neg c1] at hR
    have hok := hok.2 c1
    refine lv_aload_n hx hb dX5_add_9 rfl (lv_at hl 0 rfl) ?_
    refine g_get (ci := 5) (v := .ref (a 1)) (C := RX5) (T := TX5) (N := 3) hx hb hts hinX5 hown hK hP 0 rfl rfl 2 (by decide) (hts (.fieldLink RX5 18 "ChargeStages$Text" "characters" "[C") (List.mem_of_getElem? (i := 2) rfl)) rfl dX5_add_10 ?_
    refine lv_aload_n hx hb dX5_add_13 rfl (lv_at hl 0 rfl) ?_
    refine g_get (ci := 5) (v := .int ((t 0) 0)) (C := RX5) (T := TX5) (N := 3) hx hb hts hinX5 hown hK hP 0 rfl rfl 0 (by decide) (hts (.fieldLink RX5 9 "ChargeStages$Text" "length" "I") (List.mem_of_getElem? (i := 1) rfl)) rfl dX5_add_14 ?_
    refine lv_iload_n hx hb dX5_add_17 rfl (lv_at hl 1 rfl) ?_
    obtain ⟨k3, hok⟩ := hok
    obtain ⟨z2, ez2, hR⟩ := g_let hR
    refine g_stc (n := 60) (f := (t 1)) (k := (((t 0) 0).toNatClampNeg)) (B2 := [TW G a (sF t 1 z2)]) hx hb hK hP hD hS 1 rfl rfl k3 (by subst ez2; rfl) dX5_add_18 (fun H locs hP hD hS => ?_)
    refine lv_aload_n hx hb dX5_add_19 rfl (lv_at hl 0 rfl) ?_
    refine lv_dup hx hb dX5_add_20 rfl ?_
    refine g_get (ci := 5) (v := .int ((t 0) 0)) (C := RX5) (T := TX5) (N := 3) hx hb hts hinX5 hown hK hP 0 rfl rfl 0 (by decide) (hts (.fieldLink RX5 9 "ChargeStages$Text" "length" "I") (List.mem_of_getElem? (i := 1) rfl)) rfl dX5_add_21 ?_
    refine lv_iconst (v := 1) hx hb dX5_add_24 (by decide) ?_
    refine lv_iadd hx hb dX5_add_25 ?_
    refine g_put (ci := 5) (v := .int (((t 0) 0) + 1)) (ty := .int) (C := RX5) (T := TX5) (N := 3) (B2 := [TW G a (sF (sF t 0 (upd (t 0) 0 (((t 0) 0) + 1))) 1 z2)]) hx hb hts hinX5 tyX5 tyX5_ok nmX5 hown hK hP hD hS 0 rfl rfl 0 (by decide) (hts (.fieldLink RX5 9 "ChargeStages$Text" "length" "I") (List.mem_of_getElem? (i := 1) rfl)) rfl (by decide +kernel) rfl rfl (Nat.le_of_ble_eq_true rfl) rfl dX5_add_26 (fun H locs hP hD hS => ?_)
    subst hR
    exact g_retv hx hb hr hlocks hS dX5_add_29 rfl hP
def f_X5_accepts (t : (Nat → Nat → Int32)) (p1 : Int32) : Int32 × (Nat → Nat → Int32) := (if ((t 0) 0) ≤ ((t 0) 1) then (0, t) else (if ((t 1) (((t 0) 1).toNatClampNeg)) = p1 then (1, (sF t 0 (upd (t 0) 1 (((t 0) 1) + 1)))) else (0, t)))
def ok_X5_accepts (t : (Nat → Nat → Int32)) : Prop := ((((t 0) 0) ≤ ((t 0) 1) → True) ∧ (¬ ((t 0) 0) ≤ ((t 0) 1) → (vp_in ((t 0) 1) 60) ∧ True))
set_option maxHeartbeats 4000000 in
set_option maxRecDepth 100000 in
theorem c_X5_accepts (l : Launch) (G : gG) (a : Nat → Nat) (t : (Nat → Nat → Int32)) (p1 : Int32) (R : Int32 × (Nat → Nat → Int32)) (hR : R = f_X5_accepts t p1) (hok : ok_X5_accepts t) : CT l G yX5_accepts wsX5_accepts 0 0 [.ref (a 0), .int p1] [TW G a t] (some (.int R.1)) [TW G a R.2] := by
  unfold f_X5_accepts at hR
  unfold ok_X5_accepts at hok
  refine CT.of (cc := cX5_accepts) (maxL := 2) (ret := (some .boolean)) (plainFor_of_name (by decide +kernel)) rfl rfl (Nat.le_of_ble_eq_true rfl) ?_
  intro p e s m below meth c A ls hx hb hml hr hts hown hlocks hK hP hD hA hS hl
  have hown : s.vm.findClass RX5 = some m.cls := hown
  have hl : lv_has ls 2 [(0, .ref (a 0)), (1, .int p1)] := hl
  have hinX5 : ∀ w ∈ wsX50, w ∈ wsX5_accepts := fun w h => List.mem_cons_of_mem _ (List.mem_append_right _ h)
  refine lv_aload_n hx hb dX5_accepts_0 rfl (lv_at hl 0 rfl) ?_
  refine g_get (ci := 5) (v := .int ((t 0) 1)) (C := RX5) (T := TX5) (N := 3) hx hb hts hinX5 hown hK hP 0 rfl rfl 1 (by decide) (hts (.fieldLink RX5 15 "ChargeStages$Text" "place" "I") (List.mem_of_getElem? (i := 1) rfl)) rfl dX5_accepts_1 ?_
  refine lv_aload_n hx hb dX5_accepts_4 rfl (lv_at hl 0 rfl) ?_
  refine g_get (ci := 5) (v := .int ((t 0) 0)) (C := RX5) (T := TX5) (N := 3) hx hb hts hinX5 hown hK hP 0 rfl rfl 0 (by decide) (hts (.fieldLink RX5 9 "ChargeStages$Text" "length" "I") (List.mem_of_getElem? (i := 2) rfl)) rfl dX5_accepts_5 ?_
  refine lv_icmp_ge (tgt := 24) hx hb dX5_accepts_8 (by decide) (fun c1 => ?_) (fun c1 => ?_)
  · rw [if_pos c1] at hR
    have hok := hok.1 c1
    refine lv_iconst (v := 0) hx hb dX5_accepts_24 (by decide) ?_
    subst hR
    exact g_retz hx hb hr hlocks hS rfl dX5_accepts_25 rfl hP
  · rw [if_neg c1] at hR
    have hok := hok.2 c1
    refine lv_aload_n hx hb dX5_accepts_11 rfl (lv_at hl 0 rfl) ?_
    refine g_get (ci := 5) (v := .ref (a 1)) (C := RX5) (T := TX5) (N := 3) hx hb hts hinX5 hown hK hP 0 rfl rfl 2 (by decide) (hts (.fieldLink RX5 18 "ChargeStages$Text" "characters" "[C") (List.mem_of_getElem? (i := 3) rfl)) rfl dX5_accepts_12 ?_
    refine lv_aload_n hx hb dX5_accepts_15 rfl (lv_at hl 0 rfl) ?_
    refine g_get (ci := 5) (v := .int ((t 0) 1)) (C := RX5) (T := TX5) (N := 3) hx hb hts hinX5 hown hK hP 0 rfl rfl 1 (by decide) (hts (.fieldLink RX5 15 "ChargeStages$Text" "place" "I") (List.mem_of_getElem? (i := 1) rfl)) rfl dX5_accepts_16 ?_
    obtain ⟨k2, hok⟩ := hok
    refine g_ldc (n := 60) (f := (t 1)) (v := (t 1) (((t 0) 1).toNatClampNeg)) (k := (((t 0) 1).toNatClampNeg)) hx hb hK hP 1 rfl rfl k2 rfl dX5_accepts_19 ?_
    refine lv_iload_n hx hb dX5_accepts_20 rfl (lv_at hl 1 rfl) ?_
    refine lv_icmp_eq (tgt := 26) hx hb dX5_accepts_21 (by decide) (fun c3 => ?_) (fun c3 => ?_)
    · rw [if_pos c3] at hR
      refine lv_aload_n hx hb dX5_accepts_26 rfl (lv_at hl 0 rfl) ?_
      refine lv_dup hx hb dX5_accepts_27 rfl ?_
      refine g_get (ci := 5) (v := .int ((t 0) 1)) (C := RX5) (T := TX5) (N := 3) hx hb hts hinX5 hown hK hP 0 rfl rfl 1 (by decide) (hts (.fieldLink RX5 15 "ChargeStages$Text" "place" "I") (List.mem_of_getElem? (i := 1) rfl)) rfl dX5_accepts_28 ?_
      refine lv_iconst (v := 1) hx hb dX5_accepts_31 (by decide) ?_
      refine lv_iadd hx hb dX5_accepts_32 ?_
      refine g_put (ci := 5) (v := .int (((t 0) 1) + 1)) (ty := .int) (C := RX5) (T := TX5) (N := 3) (B2 := [TW G a (sF t 0 (upd (t 0) 1 (((t 0) 1) + 1)))]) hx hb hts hinX5 tyX5 tyX5_ok nmX5 hown hK hP hD hS 0 rfl rfl 1 (by decide) (hts (.fieldLink RX5 15 "ChargeStages$Text" "place" "I") (List.mem_of_getElem? (i := 1) rfl)) rfl (by decide +kernel) rfl rfl (Nat.le_of_ble_eq_true rfl) rfl dX5_accepts_33 (fun H locs hP hD hS => ?_)
      refine lv_iconst (v := 1) hx hb dX5_accepts_36 (by decide) ?_
      subst hR
      exact g_retz hx hb hr hlocks hS rfl dX5_accepts_37 rfl hP
    · rw [if_neg c3] at hR
      refine lv_iconst (v := 0) hx hb dX5_accepts_24 (by decide) ?_
      subst hR
      exact g_retz hx hb hr hlocks hS rfl dX5_accepts_25 rfl hP
def f_X5_isDigitAhead (t : (Nat → Nat → Int32)) (p1 : Int32) : Int32 := (if ((t 0) 0) ≤ ((t 0) 1) then 0 else (if ((t 1) (((t 0) 1).toNatClampNeg)) < p1 then 0 else (if 57 < ((t 1) (((t 0) 1).toNatClampNeg)) then 0 else 1)))
def ok_X5_isDigitAhead (t : (Nat → Nat → Int32)) (p1 : Int32) : Prop := ((((t 0) 0) ≤ ((t 0) 1) → True) ∧ (¬ ((t 0) 0) ≤ ((t 0) 1) → (vp_in ((t 0) 1) 60) ∧ ((((t 1) (((t 0) 1).toNatClampNeg)) < p1 → True) ∧ (¬ ((t 1) (((t 0) 1).toNatClampNeg)) < p1 → (vp_in ((t 0) 1) 60) ∧ True))))
set_option maxHeartbeats 4000000 in
set_option maxRecDepth 100000 in
theorem c_X5_isDigitAhead (l : Launch) (G : gG) (a : Nat → Nat) (t : (Nat → Nat → Int32)) (p1 : Int32) (R : Int32) (hR : R = f_X5_isDigitAhead t p1) (hok : ok_X5_isDigitAhead t p1) : CT l G yX5_isDigitAhead wsX5_isDigitAhead 0 0 [.ref (a 0), .int p1] [TW G a t] (some (.int R)) [TW G a t] := by
  unfold f_X5_isDigitAhead at hR
  unfold ok_X5_isDigitAhead at hok
  refine CT.of (cc := cX5_isDigitAhead) (maxL := 2) (ret := (some .boolean)) (plainFor_of_name (by decide +kernel)) rfl rfl (Nat.le_of_ble_eq_true rfl) ?_
  intro p e s m below meth c A ls hx hb hml hr hts hown hlocks hK hP hD hA hS hl
  have hown : s.vm.findClass RX5 = some m.cls := hown
  have hl : lv_has ls 2 [(0, .ref (a 0)), (1, .int p1)] := hl
  have hinX5 : ∀ w ∈ wsX50, w ∈ wsX5_isDigitAhead := fun w h => List.mem_cons_of_mem _ (List.mem_append_right _ h)
  refine lv_aload_n hx hb dX5_isDigitAhead_0 rfl (lv_at hl 0 rfl) ?_
  refine g_get (ci := 5) (v := .int ((t 0) 1)) (C := RX5) (T := TX5) (N := 3) hx hb hts hinX5 hown hK hP 0 rfl rfl 1 (by decide) (hts (.fieldLink RX5 15 "ChargeStages$Text" "place" "I") (List.mem_of_getElem? (i := 1) rfl)) rfl dX5_isDigitAhead_1 ?_
  refine lv_aload_n hx hb dX5_isDigitAhead_4 rfl (lv_at hl 0 rfl) ?_
  refine g_get (ci := 5) (v := .int ((t 0) 0)) (C := RX5) (T := TX5) (N := 3) hx hb hts hinX5 hown hK hP 0 rfl rfl 0 (by decide) (hts (.fieldLink RX5 9 "ChargeStages$Text" "length" "I") (List.mem_of_getElem? (i := 2) rfl)) rfl dX5_isDigitAhead_5 ?_
  refine lv_icmp_ge (tgt := 42) hx hb dX5_isDigitAhead_8 (by decide) (fun c1 => ?_) (fun c1 => ?_)
  · rw [if_pos c1] at hR
    have hok := hok.1 c1
    refine lv_iconst (v := 0) hx hb dX5_isDigitAhead_42 (by decide) ?_
    subst hR
    exact g_retz hx hb hr hlocks hS rfl dX5_isDigitAhead_43 rfl hP
  · rw [if_neg c1] at hR
    have hok := hok.2 c1
    refine lv_aload_n hx hb dX5_isDigitAhead_11 rfl (lv_at hl 0 rfl) ?_
    refine g_get (ci := 5) (v := .ref (a 1)) (C := RX5) (T := TX5) (N := 3) hx hb hts hinX5 hown hK hP 0 rfl rfl 2 (by decide) (hts (.fieldLink RX5 18 "ChargeStages$Text" "characters" "[C") (List.mem_of_getElem? (i := 3) rfl)) rfl dX5_isDigitAhead_12 ?_
    refine lv_aload_n hx hb dX5_isDigitAhead_15 rfl (lv_at hl 0 rfl) ?_
    refine g_get (ci := 5) (v := .int ((t 0) 1)) (C := RX5) (T := TX5) (N := 3) hx hb hts hinX5 hown hK hP 0 rfl rfl 1 (by decide) (hts (.fieldLink RX5 15 "ChargeStages$Text" "place" "I") (List.mem_of_getElem? (i := 1) rfl)) rfl dX5_isDigitAhead_16 ?_
    obtain ⟨k2, hok⟩ := hok
    refine g_ldc (n := 60) (f := (t 1)) (v := (t 1) (((t 0) 1).toNatClampNeg)) (k := (((t 0) 1).toNatClampNeg)) hx hb hK hP 1 rfl rfl k2 rfl dX5_isDigitAhead_19 ?_
    refine lv_iload_n hx hb dX5_isDigitAhead_20 rfl (lv_at hl 1 rfl) ?_
    refine lv_icmp_lt (tgt := 42) hx hb dX5_isDigitAhead_21 (by decide) (fun c3 => ?_) (fun c3 => ?_)
    · rw [if_pos c3] at hR
      have hok := hok.1 c3
      refine lv_iconst (v := 0) hx hb dX5_isDigitAhead_42 (by decide) ?_
      subst hR
      exact g_retz hx hb hr hlocks hS rfl dX5_isDigitAhead_43 rfl hP
    · rw [if_neg c3] at hR
      have hok := hok.2 c3
      refine lv_aload_n hx hb dX5_isDigitAhead_24 rfl (lv_at hl 0 rfl) ?_
      refine g_get (ci := 5) (v := .ref (a 1)) (C := RX5) (T := TX5) (N := 3) hx hb hts hinX5 hown hK hP 0 rfl rfl 2 (by decide) (hts (.fieldLink RX5 18 "ChargeStages$Text" "characters" "[C") (List.mem_of_getElem? (i := 3) rfl)) rfl dX5_isDigitAhead_25 ?_
      refine lv_aload_n hx hb dX5_isDigitAhead_28 rfl (lv_at hl 0 rfl) ?_
      refine g_get (ci := 5) (v := .int ((t 0) 1)) (C := RX5) (T := TX5) (N := 3) hx hb hts hinX5 hown hK hP 0 rfl rfl 1 (by decide) (hts (.fieldLink RX5 15 "ChargeStages$Text" "place" "I") (List.mem_of_getElem? (i := 1) rfl)) rfl dX5_isDigitAhead_29 ?_
      obtain ⟨k4, hok⟩ := hok
      refine g_ldc (n := 60) (f := (t 1)) (v := (t 1) (((t 0) 1).toNatClampNeg)) (k := (((t 0) 1).toNatClampNeg)) hx hb hK hP 1 rfl rfl k4 rfl dX5_isDigitAhead_32 ?_
      refine lv_bipush (v := 57) hx hb dX5_isDigitAhead_33 (by decide) ?_
      refine lv_icmp_gt (tgt := 42) hx hb dX5_isDigitAhead_35 (by decide) (fun c5 => ?_) (fun c5 => ?_)
      · rw [if_pos c5] at hR
        refine lv_iconst (v := 0) hx hb dX5_isDigitAhead_42 (by decide) ?_
        subst hR
        exact g_retz hx hb hr hlocks hS rfl dX5_isDigitAhead_43 rfl hP
      · rw [if_neg c5] at hR
        refine lv_iconst (v := 1) hx hb dX5_isDigitAhead_38 (by decide) ?_
        refine lv_goto (tgt := 43) hx hb dX5_isDigitAhead_39 (by decide) ?_
        subst hR
        exact g_retz hx hb hr hlocks hS rfl dX5_isDigitAhead_43 rfl hP
def fl_X5_readNumber_35  : Nat → Int32 → Int32 → (Nat → Nat → Int32) → Int32 × (Nat → Nat → Int32)
  | 0, _, _, _ => ((0 : Int32), (fun _ _ => 0))
  | n + 1, x35_2, x35_3, w35_0 => (if 4 ≤ x35_3 then (x35_2, w35_0) else (if x35_2 ≤ 0 then (x35_2, w35_0) else (gL (f_X5_isDigitAhead w35_0 48) (fun (R14 : Int32) => (if R14 = 0 then (x35_2, w35_0) else (gL ((((x35_2 * 10) + ((w35_0 1) (((w35_0 0) 1).toNatClampNeg))) - 48)) (fun (v18 : Int32) => (gL ((x35_3 + 1)) (fun (v19 : Int32) => (fl_X5_readNumber_35 n v18 v19 (sF w35_0 0 (upd (w35_0 0) 1 (((w35_0 0) 1) + 1)))))))))))))
def okl_X5_readNumber_35  : Nat → Int32 → Int32 → (Nat → Nat → Int32) → Prop
  | 0, _, _, _ => False
  | n + 1, x35_2, x35_3, w35_0 => ((4 ≤ x35_3 → True) ∧ (¬ 4 ≤ x35_3 → ((x35_2 ≤ 0 → True) ∧ (¬ x35_2 ≤ 0 → (ok_X5_isDigitAhead w35_0 48) ∧ (gL (f_X5_isDigitAhead w35_0 48) (fun (R14 : Int32) => ((R14 = 0 → True) ∧ (¬ R14 = 0 → (vp_in ((w35_0 0) 1) 60) ∧ (gL ((((x35_2 * 10) + ((w35_0 1) (((w35_0 0) 1).toNatClampNeg))) - 48)) (fun (v18 : Int32) => (gL ((x35_3 + 1)) (fun (v19 : Int32) => (okl_X5_readNumber_35 n v18 v19 (sF w35_0 0 (upd (w35_0 0) 1 (((w35_0 0) 1) + 1))))))))))))))))
def f_X5_readNumber (t : (Nat → Nat → Int32)) (p1 : Int32) : Int32 × (Nat → Nat → Int32) := (gL (f_X5_isDigitAhead t p1) (fun (R1 : Int32) => (if R1 = 0 then ((-1), t) else (gL ((((t 1) (((t 0) 1).toNatClampNeg)) - 48)) (fun (v5 : Int32) => (fl_X5_readNumber_35 4 v5 1 (sF t 0 (upd (t 0) 1 (((t 0) 1) + 1)))))))))
def ok_X5_readNumber (t : (Nat → Nat → Int32)) (p1 : Int32) : Prop := (ok_X5_isDigitAhead t p1) ∧ (gL (f_X5_isDigitAhead t p1) (fun (R1 : Int32) => ((R1 = 0 → True) ∧ (¬ R1 = 0 → (vp_in ((t 0) 1) 60) ∧ (gL ((((t 1) (((t 0) 1).toNatClampNeg)) - 48)) (fun (v5 : Int32) => (okl_X5_readNumber_35 4 v5 1 (sF t 0 (upd (t 0) 1 (((t 0) 1) + 1))))))))))
set_option maxHeartbeats 4000000 in
set_option maxRecDepth 100000 in
theorem c_X5_readNumber (l : Launch) (G : gG) (a : Nat → Nat) (t : (Nat → Nat → Int32)) (p1 : Int32) (R : Int32 × (Nat → Nat → Int32)) (hR : R = f_X5_readNumber t p1) (hok : ok_X5_readNumber t p1) : CT l G yX5_readNumber wsX5_readNumber 1 21 [.ref (a 0), .int p1] [TW G a t] (some (.int R.1)) [TW G a R.2] := by
  unfold f_X5_readNumber at hR
  unfold ok_X5_readNumber at hok
  refine CT.of (cc := cX5_readNumber) (maxL := 4) (ret := (some .int)) (plainFor_of_name (by decide +kernel)) rfl rfl (Nat.le_of_ble_eq_true rfl) ?_
  intro p e s m below meth c A ls hx hb hml hr hts hown hlocks hK hP hD hA hS hl
  have hown : s.vm.findClass RX5 = some m.cls := hown
  have hl : lv_has ls 4 [(0, .ref (a 0)), (1, .int p1)] := hl
  have hinX5 : ∀ w ∈ wsX50, w ∈ wsX5_readNumber := fun w h => List.mem_cons_of_mem _ (List.mem_append_right _ h)
  refine lv_aload_n hx hb dX5_readNumber_0 rfl (lv_at hl 0 rfl) ?_
  refine lv_iload_n hx hb dX5_readNumber_1 rfl (lv_at hl 1 rfl) ?_
  obtain ⟨k2, hok⟩ := hok
  obtain ⟨R1, eR1, hR, hok⟩ := g_let2 hR hok
  refine g_callV (c_X5_isDigitAhead l G a t p1 R1 eR1 k2) hx hb hml hown hts hK hP hD hS hA gX5_readNumber_X5_isDigitAhead rfl (n := 1) (by decide +kernel) rfl ⟨Nat.le_of_ble_eq_true rfl, Nat.le_of_ble_eq_true rfl⟩ [0] rfl (by decide) 0 rfl (ci := 5) rfl hl.1 rfl (Nat.le_of_ble_eq_true rfl) ⟨Nat.zero_le _, Nat.zero_le _⟩ dX5_readNumber_2 (fun H locs hP hD hS => ?_)
  have hP : va_P G.1 vwCl (List.flatten [TW G a t]) H := hP
  have hD : va_D A (List.flatten [TW G a t]) := hD
  refine lv_if_ne (tgt := 10) hx hb dX5_readNumber_5 (by decide) (fun c3 => ?_) (fun c3 => ?_)
  · rw [if_neg c3] at hR
    have hok := hok.2 c3
    refine lv_aload_n hx hb dX5_readNumber_10 rfl (lv_at hl 0 rfl) ?_
    refine g_get (ci := 5) (v := .ref (a 1)) (C := RX5) (T := TX5) (N := 3) hx hb hts hinX5 hown hK hP 0 rfl rfl 2 (by decide) (hts (.fieldLink RX5 18 "ChargeStages$Text" "characters" "[C") (List.mem_of_getElem? (i := 1) rfl)) rfl dX5_readNumber_11 ?_
    refine lv_aload_n hx hb dX5_readNumber_14 rfl (lv_at hl 0 rfl) ?_
    refine g_get (ci := 5) (v := .int ((t 0) 1)) (C := RX5) (T := TX5) (N := 3) hx hb hts hinX5 hown hK hP 0 rfl rfl 1 (by decide) (hts (.fieldLink RX5 15 "ChargeStages$Text" "place" "I") (List.mem_of_getElem? (i := 2) rfl)) rfl dX5_readNumber_15 ?_
    obtain ⟨k4, hok⟩ := hok
    refine g_ldc (n := 60) (f := (t 1)) (v := (t 1) (((t 0) 1).toNatClampNeg)) (k := (((t 0) 1).toNatClampNeg)) hx hb hK hP 1 rfl rfl k4 rfl dX5_readNumber_18 ?_
    refine lv_bipush (v := 48) hx hb dX5_readNumber_19 (by decide) ?_
    refine lv_isub hx hb dX5_readNumber_21 ?_
    obtain ⟨v5, ev5, hR, hok⟩ := g_let2 hR hok
    refine g_topE ev5.symm ?_
    refine lv_istore_n (lv' := [(2, .int v5), (0, .ref (a 0)), (1, .int p1)]) hx hb dX5_readNumber_22 rfl hl (by decide) rfl (fun ls hl => ?_)
    refine lv_aload_n hx hb dX5_readNumber_23 rfl (lv_at hl 1 rfl) ?_
    refine lv_dup hx hb dX5_readNumber_24 rfl ?_
    refine g_get (ci := 5) (v := .int ((t 0) 1)) (C := RX5) (T := TX5) (N := 3) hx hb hts hinX5 hown hK hP 0 rfl rfl 1 (by decide) (hts (.fieldLink RX5 15 "ChargeStages$Text" "place" "I") (List.mem_of_getElem? (i := 2) rfl)) rfl dX5_readNumber_25 ?_
    refine lv_iconst (v := 1) hx hb dX5_readNumber_28 (by decide) ?_
    refine lv_iadd hx hb dX5_readNumber_29 ?_
    refine g_put (ci := 5) (v := .int (((t 0) 1) + 1)) (ty := .int) (C := RX5) (T := TX5) (N := 3) (B2 := [TW G a (sF t 0 (upd (t 0) 1 (((t 0) 1) + 1)))]) hx hb hts hinX5 tyX5 tyX5_ok nmX5 hown hK hP hD hS 0 rfl rfl 1 (by decide) (hts (.fieldLink RX5 15 "ChargeStages$Text" "place" "I") (List.mem_of_getElem? (i := 2) rfl)) rfl (by decide +kernel) rfl rfl (Nat.le_of_ble_eq_true rfl) rfl dX5_readNumber_30 (fun H locs hP hD hS => ?_)
    refine lv_iconst (v := 1) hx hb dX5_readNumber_33 (by decide) ?_
    refine lv_istore_n (lv' := [(3, .int 1), (2, .int v5), (0, .ref (a 0)), (1, .int p1)]) hx hb dX5_readNumber_34 rfl hl (by decide) rfl (fun ls hl => ?_)
    have lp35 : ∀ (n : Nat) (x35_2 : Int32) (x35_3 : Int32) (w35_0 : (Nat → Nat → Int32)) (H : Heap) (locs : List Loc) (ls : Array Slot), R = fl_X5_readNumber_35 n x35_2 x35_3 w35_0 → okl_X5_readNumber_35 n x35_2 x35_3 w35_0 → va_P G.1 vwCl (List.flatten [TW G a w35_0]) H → va_D A (List.flatten [TW G a w35_0]) → va_S A s.heap H locs → lv_has ls 4 [(0, .ref (a 0)), (1, .int p1), (2, .int x35_2), (3, .int x35_3)] → W p l e { frames := 1, cells := 0, slots := 0, locals := 21 } s m (List.toArray [.ref (a 0), .int p1]) below meth c H locs 0 0 (gQ G below (List.toArray [.ref (a 0), .int p1]) s (some (.int R.1)) [TW G a R.2] A) (F0 m 35 ls []) := by
      intro n
      induction n with
      | zero =>
        intro x35_2 x35_3 w35_0 H locs ls hR hok hP hD hS hl
        rw [okl_X5_readNumber_35] at hok
        exact hok.elim
      | succ n ih =>
        intro x35_2 x35_3 w35_0 H locs ls hR hok hP hD hS hl
        rw [fl_X5_readNumber_35] at hR
        rw [okl_X5_readNumber_35] at hok
        refine lv_iload_n hx hb dX5_readNumber_35 rfl (lv_at hl 3 rfl) ?_
        refine lv_iconst (v := 4) hx hb dX5_readNumber_36 (by decide) ?_
        refine lv_icmp_ge (tgt := 87) hx hb dX5_readNumber_37 (by decide) (fun c12 => ?_) (fun c12 => ?_)
        · rw [if_pos c12] at hR
          have hok := hok.1 c12
          refine lv_iload_n hx hb dX5_readNumber_87 rfl (lv_at hl 2 rfl) ?_
          subst hR
          exact g_ret hx hb hr hlocks hS dX5_readNumber_88 rfl hP
        · rw [if_neg c12] at hR
          have hok := hok.2 c12
          refine lv_iload_n hx hb dX5_readNumber_40 rfl (lv_at hl 2 rfl) ?_
          refine lv_if_le (tgt := 87) hx hb dX5_readNumber_41 (by decide) (fun c13 => ?_) (fun c13 => ?_)
          · rw [if_pos c13] at hR
            have hok := hok.1 c13
            refine lv_iload_n hx hb dX5_readNumber_87 rfl (lv_at hl 2 rfl) ?_
            subst hR
            exact g_ret hx hb hr hlocks hS dX5_readNumber_88 rfl hP
          · rw [if_neg c13] at hR
            have hok := hok.2 c13
            refine lv_aload_n hx hb dX5_readNumber_44 rfl (lv_at hl 0 rfl) ?_
            refine lv_bipush (v := 48) hx hb dX5_readNumber_45 (by decide) ?_
            obtain ⟨k15, hok⟩ := hok
            obtain ⟨R14, eR14, hR, hok⟩ := g_let2 hR hok
            refine g_callV (c_X5_isDigitAhead l G a w35_0 48 R14 eR14 k15) hx hb hml hown hts hK hP hD hS hA gX5_readNumber_X5_isDigitAhead rfl (n := 1) (by decide +kernel) rfl ⟨Nat.le_of_ble_eq_true rfl, Nat.le_of_ble_eq_true rfl⟩ [0] rfl (by decide) 0 rfl (ci := 5) rfl hl.1 rfl (Nat.le_of_ble_eq_true rfl) ⟨Nat.zero_le _, Nat.zero_le _⟩ dX5_readNumber_47 (fun H locs hP hD hS => ?_)
            have hP : va_P G.1 vwCl (List.flatten [TW G a w35_0]) H := hP
            have hD : va_D A (List.flatten [TW G a w35_0]) := hD
            refine lv_if_eq (tgt := 87) hx hb dX5_readNumber_50 (by decide) (fun c16 => ?_) (fun c16 => ?_)
            · rw [if_pos c16] at hR
              have hok := hok.1 c16
              refine lv_iload_n hx hb dX5_readNumber_87 rfl (lv_at hl 2 rfl) ?_
              subst hR
              exact g_ret hx hb hr hlocks hS dX5_readNumber_88 rfl hP
            · rw [if_neg c16] at hR
              have hok := hok.2 c16
              refine lv_iload_n hx hb dX5_readNumber_53 rfl (lv_at hl 2 rfl) ?_
              refine lv_bipush (v := 10) hx hb dX5_readNumber_54 (by decide) ?_
              refine lv_imul hx hb dX5_readNumber_56 ?_
              refine lv_aload_n hx hb dX5_readNumber_57 rfl (lv_at hl 0 rfl) ?_
              refine g_get (ci := 5) (v := .ref (a 1)) (C := RX5) (T := TX5) (N := 3) hx hb hts hinX5 hown hK hP 0 rfl rfl 2 (by decide) (hts (.fieldLink RX5 18 "ChargeStages$Text" "characters" "[C") (List.mem_of_getElem? (i := 1) rfl)) rfl dX5_readNumber_58 ?_
              refine lv_aload_n hx hb dX5_readNumber_61 rfl (lv_at hl 0 rfl) ?_
              refine g_get (ci := 5) (v := .int ((w35_0 0) 1)) (C := RX5) (T := TX5) (N := 3) hx hb hts hinX5 hown hK hP 0 rfl rfl 1 (by decide) (hts (.fieldLink RX5 15 "ChargeStages$Text" "place" "I") (List.mem_of_getElem? (i := 2) rfl)) rfl dX5_readNumber_62 ?_
              obtain ⟨k17, hok⟩ := hok
              refine g_ldc (n := 60) (f := (w35_0 1)) (v := (w35_0 1) (((w35_0 0) 1).toNatClampNeg)) (k := (((w35_0 0) 1).toNatClampNeg)) hx hb hK hP 1 rfl rfl k17 rfl dX5_readNumber_65 ?_
              refine lv_iadd hx hb dX5_readNumber_66 ?_
              refine lv_bipush (v := 48) hx hb dX5_readNumber_67 (by decide) ?_
              refine lv_isub hx hb dX5_readNumber_69 ?_
              obtain ⟨v18, ev18, hR, hok⟩ := g_let2 hR hok
              refine g_topE ev18.symm ?_
              refine lv_istore_n (lv' := [(2, .int v18), (0, .ref (a 0)), (1, .int p1), (3, .int x35_3)]) hx hb dX5_readNumber_70 rfl hl (by decide) rfl (fun ls hl => ?_)
              refine lv_aload_n hx hb dX5_readNumber_71 rfl (lv_at hl 1 rfl) ?_
              refine lv_dup hx hb dX5_readNumber_72 rfl ?_
              refine g_get (ci := 5) (v := .int ((w35_0 0) 1)) (C := RX5) (T := TX5) (N := 3) hx hb hts hinX5 hown hK hP 0 rfl rfl 1 (by decide) (hts (.fieldLink RX5 15 "ChargeStages$Text" "place" "I") (List.mem_of_getElem? (i := 2) rfl)) rfl dX5_readNumber_73 ?_
              refine lv_iconst (v := 1) hx hb dX5_readNumber_76 (by decide) ?_
              refine lv_iadd hx hb dX5_readNumber_77 ?_
              refine g_put (ci := 5) (v := .int (((w35_0 0) 1) + 1)) (ty := .int) (C := RX5) (T := TX5) (N := 3) (B2 := [TW G a (sF w35_0 0 (upd (w35_0 0) 1 (((w35_0 0) 1) + 1)))]) hx hb hts hinX5 tyX5 tyX5_ok nmX5 hown hK hP hD hS 0 rfl rfl 1 (by decide) (hts (.fieldLink RX5 15 "ChargeStages$Text" "place" "I") (List.mem_of_getElem? (i := 2) rfl)) rfl (by decide +kernel) rfl rfl (Nat.le_of_ble_eq_true rfl) rfl dX5_readNumber_78 (fun H locs hP hD hS => ?_)
              obtain ⟨v19, ev19, hR, hok⟩ := g_let2 hR hok
              refine lv_iinc (v := v19) (lv' := [(3, .int v19), (2, .int v18), (0, .ref (a 0)), (1, .int p1)]) hx hb dX5_readNumber_81 hl (k := 3) rfl (by subst ev19; rfl) (by decide) rfl (fun ls hl => ?_)
              refine lv_goto (tgt := 35) hx hb dX5_readNumber_84 (by decide) ?_
              exact ih v18 v19 (sF w35_0 0 (upd (w35_0 0) 1 (((w35_0 0) 1) + 1))) _ _ _ hR hok hP hD hS (lv_sub hl [2, 3, 1, 0] rfl)
    exact lp35 4 v5 1 (sF t 0 (upd (t 0) 1 (((t 0) 1) + 1))) _ _ _ hR hok hP hD hS (lv_sub hl [2, 3, 1, 0] rfl)
  · rw [if_pos c3] at hR
    have hok := hok.1 c3
    refine lv_iconst (v := (-1)) hx hb dX5_readNumber_8 (by decide) ?_
    subst hR
    exact g_ret hx hb hr hlocks hS dX5_readNumber_9 rfl hP
def f_X5_readFirst (t : (Nat → Nat → Int32)) (pf : (Nat → Nat → Int32)) (p1 : Int32) : Int32 × (Nat → Nat → Int32) × (Nat → Nat → Int32) := (gL (f_X5_readNumber t 48) (fun (R1 : Int32 × (Nat → Nat → Int32)) => (gL (R1.1) (fun (v3 : Int32) => (gL (upd (pf 2) ((p1).toNatClampNeg) v3) (fun (z4 : (Nat → Int32)) => (if v3 = (-1) then (0, R1.2, (sF pf 2 z4)) else (1, R1.2, (sF pf 2 z4)))))))))
def ok_X5_readFirst (t : (Nat → Nat → Int32)) (p1 : Int32) : Prop := (ok_X5_readNumber t 48) ∧ (gL (f_X5_readNumber t 48) (fun (R1 : Int32 × (Nat → Nat → Int32)) => (gL (R1.1) (fun (v3 : Int32) => (vp_in p1 5) ∧ True))))
set_option maxHeartbeats 4000000 in
set_option maxRecDepth 100000 in
theorem c_X5_readFirst (l : Launch) (G : gG) (a : Nat → Nat) (h : Nat → Nat) (t : (Nat → Nat → Int32)) (pf : (Nat → Nat → Int32)) (p1 : Int32) (R : Int32 × (Nat → Nat → Int32) × (Nat → Nat → Int32)) (hR : R = f_X5_readFirst t pf p1) (hok : ok_X5_readFirst t p1) : CT l G yX5_readFirst wsX5_readFirst 2 44 [.ref (a 0), .ref (h 0), .int p1] [TW G a t, PW G h pf] (some (.int R.1)) [TW G a R.2.1, PW G h R.2.2] := by
  unfold f_X5_readFirst at hR
  unfold ok_X5_readFirst at hok
  refine CT.of (cc := cX5_readFirst) (maxL := 4) (ret := (some .boolean)) (plainFor_of_name (by decide +kernel)) rfl rfl (Nat.le_of_ble_eq_true rfl) ?_
  intro p e s m below meth c A ls hx hb hml hr hts hown hlocks hK hP hD hA hS hl
  have hown : s.vm.findClass RX5 = some m.cls := hown
  have hl : lv_has ls 4 [(0, .ref (a 0)), (1, .ref (h 0)), (2, .int p1)] := hl
  have hinX3 : ∀ w ∈ wsX30, w ∈ wsX5_readFirst := fun w h => List.mem_cons_of_mem _ (List.mem_append_left _ (List.mem_append_right _ h))
  refine lv_aload_n hx hb dX5_readFirst_0 rfl (lv_at hl 0 rfl) ?_
  refine lv_bipush (v := 48) hx hb dX5_readFirst_1 (by decide) ?_
  obtain ⟨k2, hok⟩ := hok
  obtain ⟨R1, eR1, hR, hok⟩ := g_let2 hR hok
  refine g_callV (c_X5_readNumber l G a t 48 R1 eR1 k2) hx hb hml hown hts hK hP hD hS hA gX5_readFirst_X5_readNumber rfl (n := 1) (by decide +kernel) rfl ⟨Nat.le_of_ble_eq_true rfl, Nat.le_of_ble_eq_true rfl⟩ [0] rfl (by decide) 0 rfl (ci := 5) rfl hl.1 rfl (Nat.le_of_ble_eq_true rfl) ⟨Nat.zero_le _, Nat.zero_le _⟩ dX5_readFirst_3 (fun H locs hP hD hS => ?_)
  have hP : va_P G.1 vwCl (List.flatten [TW G a R1.2, PW G h pf]) H := hP
  have hD : va_D A (List.flatten [TW G a R1.2, PW G h pf]) := hD
  obtain ⟨v3, ev3, hR, hok⟩ := g_let2 hR hok
  refine g_topE ev3.symm ?_
  refine lv_istore_n (lv' := [(3, .int v3), (0, .ref (a 0)), (1, .ref (h 0)), (2, .int p1)]) hx hb dX5_readFirst_6 rfl hl (by decide) rfl (fun ls hl => ?_)
  refine lv_aload_n hx hb dX5_readFirst_7 rfl (lv_at hl 2 rfl) ?_
  refine g_get (ci := 3) (v := .ref (h 2)) (C := RX3) (T := TX3) (N := 5) hx hb hts hinX3 hown hK hP 2 rfl rfl 2 (by decide) (hts (.fieldLink RX5 57 "ChargeStages$Profile" "first" "[I") (List.mem_of_getElem? (i := 1) rfl)) rfl dX5_readFirst_8 ?_
  refine lv_iload_n hx hb dX5_readFirst_11 rfl (lv_at hl 3 rfl) ?_
  refine lv_iload_n hx hb dX5_readFirst_12 rfl (lv_at hl 0 rfl) ?_
  obtain ⟨k5, hok⟩ := hok
  obtain ⟨z4, ez4, hR⟩ := g_let hR
  refine g_st (n := 5) (f := (pf 2)) (k := ((p1).toNatClampNeg)) (B2 := [TW G a R1.2, PW G h (sF pf 2 z4)]) hx hb hK hP hD hS 4 rfl rfl k5 (by subst ez4; rfl) dX5_readFirst_13 (fun H locs hP hD hS => ?_)
  refine lv_iload_n hx hb dX5_readFirst_14 rfl (lv_at hl 0 rfl) ?_
  refine lv_iconst (v := (-1)) hx hb dX5_readFirst_15 (by decide) ?_
  refine lv_icmp_eq (tgt := 23) hx hb dX5_readFirst_16 (by decide) (fun c6 => ?_) (fun c6 => ?_)
  · rw [if_pos c6] at hR
    refine lv_iconst (v := 0) hx hb dX5_readFirst_23 (by decide) ?_
    subst hR
    exact g_retz hx hb hr hlocks hS rfl dX5_readFirst_24 rfl hP
  · rw [if_neg c6] at hR
    refine lv_iconst (v := 1) hx hb dX5_readFirst_19 (by decide) ?_
    refine lv_goto (tgt := 24) hx hb dX5_readFirst_20 (by decide) ?_
    subst hR
    exact g_retz hx hb hr hlocks hS rfl dX5_readFirst_24 rfl hP
def f_X5_readTimer (t : (Nat → Nat → Int32)) (pf : (Nat → Nat → Int32)) (p1 : Int32) : Int32 × (Nat → Nat → Int32) × (Nat → Nat → Int32) := (gL (f_X5_accepts t 47) (fun (R1 : Int32 × (Nat → Nat → Int32)) => (if R1.1 = 0 then (1, R1.2, pf) else (gL (f_X5_readNumber R1.2 49) (fun (R4 : Int32 × (Nat → Nat → Int32)) => (gL (R4.1) (fun (v6 : Int32) => (gL (upd (pf 4) ((p1).toNatClampNeg) v6) (fun (z7 : (Nat → Int32)) => (if v6 = (-1) then (0, R4.2, (sF pf 4 z7)) else (1, R4.2, (sF pf 4 z7))))))))))))
def ok_X5_readTimer (t : (Nat → Nat → Int32)) (p1 : Int32) : Prop := (ok_X5_accepts t) ∧ (gL (f_X5_accepts t 47) (fun (R1 : Int32 × (Nat → Nat → Int32)) => ((R1.1 = 0 → True) ∧ (¬ R1.1 = 0 → (ok_X5_readNumber R1.2 49) ∧ (gL (f_X5_readNumber R1.2 49) (fun (R4 : Int32 × (Nat → Nat → Int32)) => (gL (R4.1) (fun (v6 : Int32) => (vp_in p1 5) ∧ True))))))))
set_option maxHeartbeats 4000000 in
set_option maxRecDepth 100000 in
theorem c_X5_readTimer (l : Launch) (G : gG) (a : Nat → Nat) (h : Nat → Nat) (t : (Nat → Nat → Int32)) (pf : (Nat → Nat → Int32)) (p1 : Int32) (R : Int32 × (Nat → Nat → Int32) × (Nat → Nat → Int32)) (hR : R = f_X5_readTimer t pf p1) (hok : ok_X5_readTimer t p1) : CT l G yX5_readTimer wsX5_readTimer 2 44 [.ref (a 0), .ref (h 0), .int p1] [TW G a t, PW G h pf] (some (.int R.1)) [TW G a R.2.1, PW G h R.2.2] := by
  unfold f_X5_readTimer at hR
  unfold ok_X5_readTimer at hok
  refine CT.of (cc := cX5_readTimer) (maxL := 4) (ret := (some .boolean)) (plainFor_of_name (by decide +kernel)) rfl rfl (Nat.le_of_ble_eq_true rfl) ?_
  intro p e s m below meth c A ls hx hb hml hr hts hown hlocks hK hP hD hA hS hl
  have hown : s.vm.findClass RX5 = some m.cls := hown
  have hl : lv_has ls 4 [(0, .ref (a 0)), (1, .ref (h 0)), (2, .int p1)] := hl
  have hinX3 : ∀ w ∈ wsX30, w ∈ wsX5_readTimer := fun w h => List.mem_cons_of_mem _ (List.mem_append_left _ (List.mem_append_right _ h))
  refine lv_aload_n hx hb dX5_readTimer_0 rfl (lv_at hl 0 rfl) ?_
  refine lv_bipush (v := 47) hx hb dX5_readTimer_1 (by decide) ?_
  obtain ⟨k2, hok⟩ := hok
  obtain ⟨R1, eR1, hR, hok⟩ := g_let2 hR hok
  refine g_callV (c_X5_accepts l G a t 47 R1 eR1 k2) hx hb hml hown hts hK hP hD hS hA gX5_readTimer_X5_accepts rfl (n := 1) (by decide +kernel) rfl ⟨Nat.le_of_ble_eq_true rfl, Nat.le_of_ble_eq_true rfl⟩ [0] rfl (by decide) 0 rfl (ci := 5) rfl hl.1 rfl (Nat.le_of_ble_eq_true rfl) ⟨Nat.zero_le _, Nat.zero_le _⟩ dX5_readTimer_3 (fun H locs hP hD hS => ?_)
  have hP : va_P G.1 vwCl (List.flatten [TW G a R1.2, PW G h pf]) H := hP
  have hD : va_D A (List.flatten [TW G a R1.2, PW G h pf]) := hD
  refine lv_if_ne (tgt := 11) hx hb dX5_readTimer_6 (by decide) (fun c3 => ?_) (fun c3 => ?_)
  · rw [if_neg c3] at hR
    have hok := hok.2 c3
    refine lv_aload_n hx hb dX5_readTimer_11 rfl (lv_at hl 0 rfl) ?_
    refine lv_bipush (v := 49) hx hb dX5_readTimer_12 (by decide) ?_
    obtain ⟨k5, hok⟩ := hok
    obtain ⟨R4, eR4, hR, hok⟩ := g_let2 hR hok
    refine g_callV (c_X5_readNumber l G a R1.2 49 R4 eR4 k5) hx hb hml hown hts hK hP hD hS hA gX5_readTimer_X5_readNumber rfl (n := 1) (by decide +kernel) rfl ⟨Nat.le_of_ble_eq_true rfl, Nat.le_of_ble_eq_true rfl⟩ [0] rfl (by decide) 0 rfl (ci := 5) rfl hl.1 rfl (Nat.le_of_ble_eq_true rfl) ⟨Nat.zero_le _, Nat.zero_le _⟩ dX5_readTimer_14 (fun H locs hP hD hS => ?_)
    have hP : va_P G.1 vwCl (List.flatten [TW G a R4.2, PW G h pf]) H := hP
    have hD : va_D A (List.flatten [TW G a R4.2, PW G h pf]) := hD
    obtain ⟨v6, ev6, hR, hok⟩ := g_let2 hR hok
    refine g_topE ev6.symm ?_
    refine lv_istore_n (lv' := [(3, .int v6), (0, .ref (a 0)), (1, .ref (h 0)), (2, .int p1)]) hx hb dX5_readTimer_17 rfl hl (by decide) rfl (fun ls hl => ?_)
    refine lv_aload_n hx hb dX5_readTimer_18 rfl (lv_at hl 2 rfl) ?_
    refine g_get (ci := 3) (v := .ref (h 4)) (C := RX3) (T := TX3) (N := 5) hx hb hts hinX3 hown hK hP 2 rfl rfl 4 (by decide) (hts (.fieldLink RX5 60 "ChargeStages$Profile" "timer" "[I") (List.mem_of_getElem? (i := 1) rfl)) rfl dX5_readTimer_19 ?_
    refine lv_iload_n hx hb dX5_readTimer_22 rfl (lv_at hl 3 rfl) ?_
    refine lv_iload_n hx hb dX5_readTimer_23 rfl (lv_at hl 0 rfl) ?_
    obtain ⟨k8, hok⟩ := hok
    obtain ⟨z7, ez7, hR⟩ := g_let hR
    refine g_st (n := 5) (f := (pf 4)) (k := ((p1).toNatClampNeg)) (B2 := [TW G a R4.2, PW G h (sF pf 4 z7)]) hx hb hK hP hD hS 6 rfl rfl k8 (by subst ez7; rfl) dX5_readTimer_24 (fun H locs hP hD hS => ?_)
    refine lv_iload_n hx hb dX5_readTimer_25 rfl (lv_at hl 0 rfl) ?_
    refine lv_iconst (v := (-1)) hx hb dX5_readTimer_26 (by decide) ?_
    refine lv_icmp_eq (tgt := 34) hx hb dX5_readTimer_27 (by decide) (fun c9 => ?_) (fun c9 => ?_)
    · rw [if_pos c9] at hR
      refine lv_iconst (v := 0) hx hb dX5_readTimer_34 (by decide) ?_
      subst hR
      exact g_retz hx hb hr hlocks hS rfl dX5_readTimer_35 rfl hP
    · rw [if_neg c9] at hR
      refine lv_iconst (v := 1) hx hb dX5_readTimer_30 (by decide) ?_
      refine lv_goto (tgt := 35) hx hb dX5_readTimer_31 (by decide) ?_
      subst hR
      exact g_retz hx hb hr hlocks hS rfl dX5_readTimer_35 rfl hP
  · rw [if_pos c3] at hR
    have hok := hok.1 c3
    refine lv_iconst (v := 1) hx hb dX5_readTimer_9 (by decide) ?_
    subst hR
    exact g_retz hx hb hr hlocks hS rfl dX5_readTimer_10 rfl hP
def f_X5_readPair (t : (Nat → Nat → Int32)) (pf : (Nat → Nat → Int32)) (p1 : Int32) : Int32 × (Nat → Nat → Int32) × (Nat → Nat → Int32) := (gL (f_X5_readFirst t pf p1) (fun (R1 : Int32 × (Nat → Nat → Int32) × (Nat → Nat → Int32)) => (if R1.1 = 0 then (0, R1.2.1, R1.2.2) else (gL (f_X5_accepts R1.2.1 58) (fun (R4 : Int32 × (Nat → Nat → Int32)) => (if R4.1 = 0 then (0, R4.2, R1.2.2) else (gL (f_X5_readNumber R4.2 48) (fun (R7 : Int32 × (Nat → Nat → Int32)) => (gL (R7.1) (fun (v9 : Int32) => (gL (upd (R1.2.2 3) ((p1).toNatClampNeg) v9) (fun (z10 : (Nat → Int32)) => (if v9 = (-1) then (0, R7.2, (sF R1.2.2 3 z10)) else (1, R7.2, (sF R1.2.2 3 z10)))))))))))))))
def ok_X5_readPair (t : (Nat → Nat → Int32)) (pf : (Nat → Nat → Int32)) (p1 : Int32) : Prop := (ok_X5_readFirst t p1) ∧ (gL (f_X5_readFirst t pf p1) (fun (R1 : Int32 × (Nat → Nat → Int32) × (Nat → Nat → Int32)) => ((R1.1 = 0 → True) ∧ (¬ R1.1 = 0 → (ok_X5_accepts R1.2.1) ∧ (gL (f_X5_accepts R1.2.1 58) (fun (R4 : Int32 × (Nat → Nat → Int32)) => ((R4.1 = 0 → True) ∧ (¬ R4.1 = 0 → (ok_X5_readNumber R4.2 48) ∧ (gL (f_X5_readNumber R4.2 48) (fun (R7 : Int32 × (Nat → Nat → Int32)) => (gL (R7.1) (fun (v9 : Int32) => (vp_in p1 5) ∧ True))))))))))))
set_option maxHeartbeats 4000000 in
set_option maxRecDepth 100000 in
theorem c_X5_readPair (l : Launch) (G : gG) (a : Nat → Nat) (h : Nat → Nat) (t : (Nat → Nat → Int32)) (pf : (Nat → Nat → Int32)) (p1 : Int32) (R : Int32 × (Nat → Nat → Int32) × (Nat → Nat → Int32)) (hR : R = f_X5_readPair t pf p1) (hok : ok_X5_readPair t pf p1) : CT l G yX5_readPair wsX5_readPair 3 67 [.ref (a 0), .ref (h 0), .int p1] [TW G a t, PW G h pf] (some (.int R.1)) [TW G a R.2.1, PW G h R.2.2] := by
  unfold f_X5_readPair at hR
  unfold ok_X5_readPair at hok
  refine CT.of (cc := cX5_readPair) (maxL := 4) (ret := (some .boolean)) (plainFor_of_name (by decide +kernel)) rfl rfl (Nat.le_of_ble_eq_true rfl) ?_
  intro p e s m below meth c A ls hx hb hml hr hts hown hlocks hK hP hD hA hS hl
  have hown : s.vm.findClass RX5 = some m.cls := hown
  have hl : lv_has ls 4 [(0, .ref (a 0)), (1, .ref (h 0)), (2, .int p1)] := hl
  have hinX3 : ∀ w ∈ wsX30, w ∈ wsX5_readPair := fun w h => List.mem_cons_of_mem _ (List.mem_append_left _ (List.mem_append_right _ h))
  refine lv_aload_n hx hb dX5_readPair_0 rfl (lv_at hl 0 rfl) ?_
  refine lv_aload_n hx hb dX5_readPair_1 rfl (lv_at hl 1 rfl) ?_
  refine lv_iload_n hx hb dX5_readPair_2 rfl (lv_at hl 2 rfl) ?_
  obtain ⟨k2, hok⟩ := hok
  obtain ⟨R1, eR1, hR, hok⟩ := g_let2 hR hok
  refine g_callV (c_X5_readFirst l G a h t pf p1 R1 eR1 k2) hx hb hml hown hts hK hP hD hS hA gX5_readPair_X5_readFirst rfl (n := 2) (by decide +kernel) rfl ⟨Nat.le_of_ble_eq_true rfl, Nat.le_of_ble_eq_true rfl⟩ [0, 1] rfl (by decide) 0 rfl (ci := 5) rfl hl.1 rfl (Nat.le_of_ble_eq_true rfl) ⟨Nat.zero_le _, Nat.zero_le _⟩ dX5_readPair_3 (fun H locs hP hD hS => ?_)
  have hP : va_P G.1 vwCl (List.flatten [TW G a R1.2.1, PW G h R1.2.2]) H := hP
  have hD : va_D A (List.flatten [TW G a R1.2.1, PW G h R1.2.2]) := hD
  refine lv_if_eq (tgt := 18) hx hb dX5_readPair_6 (by decide) (fun c3 => ?_) (fun c3 => ?_)
  · rw [if_pos c3] at hR
    have hok := hok.1 c3
    refine lv_iconst (v := 0) hx hb dX5_readPair_18 (by decide) ?_
    subst hR
    exact g_retz hx hb hr hlocks hS rfl dX5_readPair_19 rfl hP
  · rw [if_neg c3] at hR
    have hok := hok.2 c3
    refine lv_aload_n hx hb dX5_readPair_9 rfl (lv_at hl 0 rfl) ?_
    refine lv_bipush (v := 58) hx hb dX5_readPair_10 (by decide) ?_
    obtain ⟨k5, hok⟩ := hok
    obtain ⟨R4, eR4, hR, hok⟩ := g_let2 hR hok
    refine g_callV (c_X5_accepts l G a R1.2.1 58 R4 eR4 k5) hx hb hml hown hts hK hP hD hS hA gX5_readPair_X5_accepts rfl (n := 1) (by decide +kernel) rfl ⟨Nat.le_of_ble_eq_true rfl, Nat.le_of_ble_eq_true rfl⟩ [0] rfl (by decide) 0 rfl (ci := 5) rfl hl.1 rfl (Nat.le_of_ble_eq_true rfl) ⟨Nat.zero_le _, Nat.zero_le _⟩ dX5_readPair_12 (fun H locs hP hD hS => ?_)
    have hP : va_P G.1 vwCl (List.flatten [TW G a R4.2, PW G h R1.2.2]) H := hP
    have hD : va_D A (List.flatten [TW G a R4.2, PW G h R1.2.2]) := hD
    refine lv_if_ne (tgt := 20) hx hb dX5_readPair_15 (by decide) (fun c6 => ?_) (fun c6 => ?_)
    · rw [if_neg c6] at hR
      have hok := hok.2 c6
      refine lv_aload_n hx hb dX5_readPair_20 rfl (lv_at hl 0 rfl) ?_
      refine lv_bipush (v := 48) hx hb dX5_readPair_21 (by decide) ?_
      obtain ⟨k8, hok⟩ := hok
      obtain ⟨R7, eR7, hR, hok⟩ := g_let2 hR hok
      refine g_callV (c_X5_readNumber l G a R4.2 48 R7 eR7 k8) hx hb hml hown hts hK hP hD hS hA gX5_readPair_X5_readNumber rfl (n := 1) (by decide +kernel) rfl ⟨Nat.le_of_ble_eq_true rfl, Nat.le_of_ble_eq_true rfl⟩ [0] rfl (by decide) 0 rfl (ci := 5) rfl hl.1 rfl (Nat.le_of_ble_eq_true rfl) ⟨Nat.zero_le _, Nat.zero_le _⟩ dX5_readPair_23 (fun H locs hP hD hS => ?_)
      have hP : va_P G.1 vwCl (List.flatten [TW G a R7.2, PW G h R1.2.2]) H := hP
      have hD : va_D A (List.flatten [TW G a R7.2, PW G h R1.2.2]) := hD
      obtain ⟨v9, ev9, hR, hok⟩ := g_let2 hR hok
      refine g_topE ev9.symm ?_
      refine lv_istore_n (lv' := [(3, .int v9), (0, .ref (a 0)), (1, .ref (h 0)), (2, .int p1)]) hx hb dX5_readPair_26 rfl hl (by decide) rfl (fun ls hl => ?_)
      refine lv_aload_n hx hb dX5_readPair_27 rfl (lv_at hl 2 rfl) ?_
      refine g_get (ci := 3) (v := .ref (h 3)) (C := RX3) (T := TX3) (N := 5) hx hb hts hinX3 hown hK hP 2 rfl rfl 3 (by decide) (hts (.fieldLink RX5 53 "ChargeStages$Profile" "second" "[I") (List.mem_of_getElem? (i := 1) rfl)) rfl dX5_readPair_28 ?_
      refine lv_iload_n hx hb dX5_readPair_31 rfl (lv_at hl 3 rfl) ?_
      refine lv_iload_n hx hb dX5_readPair_32 rfl (lv_at hl 0 rfl) ?_
      obtain ⟨k11, hok⟩ := hok
      obtain ⟨z10, ez10, hR⟩ := g_let hR
      refine g_st (n := 5) (f := (R1.2.2 3)) (k := ((p1).toNatClampNeg)) (B2 := [TW G a R7.2, PW G h (sF R1.2.2 3 z10)]) hx hb hK hP hD hS 5 rfl rfl k11 (by subst ez10; rfl) dX5_readPair_33 (fun H locs hP hD hS => ?_)
      refine lv_iload_n hx hb dX5_readPair_34 rfl (lv_at hl 0 rfl) ?_
      refine lv_iconst (v := (-1)) hx hb dX5_readPair_35 (by decide) ?_
      refine lv_icmp_eq (tgt := 43) hx hb dX5_readPair_36 (by decide) (fun c12 => ?_) (fun c12 => ?_)
      · rw [if_pos c12] at hR
        refine lv_iconst (v := 0) hx hb dX5_readPair_43 (by decide) ?_
        subst hR
        exact g_retz hx hb hr hlocks hS rfl dX5_readPair_44 rfl hP
      · rw [if_neg c12] at hR
        refine lv_iconst (v := 1) hx hb dX5_readPair_39 (by decide) ?_
        refine lv_goto (tgt := 44) hx hb dX5_readPair_40 (by decide) ?_
        subst hR
        exact g_retz hx hb hr hlocks hS rfl dX5_readPair_44 rfl hP
    · rw [if_pos c6] at hR
      have hok := hok.1 c6
      refine lv_iconst (v := 0) hx hb dX5_readPair_18 (by decide) ?_
      subst hR
      exact g_retz hx hb hr hlocks hS rfl dX5_readPair_19 rfl hP
def f_X5_readStage (t : (Nat → Nat → Int32)) (pf : (Nat → Nat → Int32)) : Int32 × (Nat → Nat → Int32) × (Nat → Nat → Int32) := (gL ((pf 0) 0) (fun (v1 : Int32) => (gL (f_X5_accepts t 99) (fun (R2 : Int32 × (Nat → Nat → Int32)) => (if R2.1 = 0 then (gL (f_X5_accepts R2.2 118) (fun (R5 : Int32 × (Nat → Nat → Int32)) => (if R5.1 = 0 then (gL (f_X5_accepts R5.2 114) (fun (R8 : Int32 × (Nat → Nat → Int32)) => (if R8.1 = 0 then (0, R8.2, pf) else (gL (f_X3_addStage pf 2) (fun (R11 : Int32 × (Nat → Nat → Int32)) => (if R11.1 = 0 then (0, R8.2, R11.2) else (gL (f_X5_readFirst R8.2 R11.2 v1) (fun (R14 : Int32 × (Nat → Nat → Int32) × (Nat → Nat → Int32)) => (if R14.1 = 0 then (0, R14.2.1, R14.2.2) else (gL (f_X5_readTimer R14.2.1 R14.2.2 v1) (fun (R17 : Int32 × (Nat → Nat → Int32) × (Nat → Nat → Int32)) => (if R17.1 = 0 then (0, R17.2.1, R17.2.2) else (1, R17.2.1, R17.2.2))))))))))))) else (gL (f_X3_addStage pf 1) (fun (R20 : Int32 × (Nat → Nat → Int32)) => (if R20.1 = 0 then (0, R5.2, R20.2) else (gL (f_X5_readPair R5.2 R20.2 v1) (fun (R23 : Int32 × (Nat → Nat → Int32) × (Nat → Nat → Int32)) => (if R23.1 = 0 then (0, R23.2.1, R23.2.2) else (gL (f_X5_readTimer R23.2.1 R23.2.2 v1) (fun (R26 : Int32 × (Nat → Nat → Int32) × (Nat → Nat → Int32)) => (if R26.1 = 0 then (0, R26.2.1, R26.2.2) else (1, R26.2.1, R26.2.2))))))))))))) else (gL (f_X3_addStage pf 0) (fun (R29 : Int32 × (Nat → Nat → Int32)) => (if R29.1 = 0 then (0, R2.2, R29.2) else (gL (f_X5_readPair R2.2 R29.2 v1) (fun (R32 : Int32 × (Nat → Nat → Int32) × (Nat → Nat → Int32)) => (if R32.1 = 0 then (0, R32.2.1, R32.2.2) else (gL (f_X5_readTimer R32.2.1 R32.2.2 v1) (fun (R35 : Int32 × (Nat → Nat → Int32) × (Nat → Nat → Int32)) => (if R35.1 = 0 then (0, R35.2.1, R35.2.2) else (1, R35.2.1, R35.2.2)))))))))))))))
def ok_X5_readStage (t : (Nat → Nat → Int32)) (pf : (Nat → Nat → Int32)) : Prop := (gL ((pf 0) 0) (fun (v1 : Int32) => (ok_X5_accepts t) ∧ (gL (f_X5_accepts t 99) (fun (R2 : Int32 × (Nat → Nat → Int32)) => ((R2.1 = 0 → (ok_X5_accepts R2.2) ∧ (gL (f_X5_accepts R2.2 118) (fun (R5 : Int32 × (Nat → Nat → Int32)) => ((R5.1 = 0 → (ok_X5_accepts R5.2) ∧ (gL (f_X5_accepts R5.2 114) (fun (R8 : Int32 × (Nat → Nat → Int32)) => ((R8.1 = 0 → True) ∧ (¬ R8.1 = 0 → (ok_X3_addStage pf 2) ∧ (gL (f_X3_addStage pf 2) (fun (R11 : Int32 × (Nat → Nat → Int32)) => ((R11.1 = 0 → True) ∧ (¬ R11.1 = 0 → (ok_X5_readFirst R8.2 v1) ∧ (gL (f_X5_readFirst R8.2 R11.2 v1) (fun (R14 : Int32 × (Nat → Nat → Int32) × (Nat → Nat → Int32)) => ((R14.1 = 0 → True) ∧ (¬ R14.1 = 0 → (ok_X5_readTimer R14.2.1 v1) ∧ True))))))))))))) ∧ (¬ R5.1 = 0 → (ok_X3_addStage pf 1) ∧ (gL (f_X3_addStage pf 1) (fun (R20 : Int32 × (Nat → Nat → Int32)) => ((R20.1 = 0 → True) ∧ (¬ R20.1 = 0 → (ok_X5_readPair R5.2 R20.2 v1) ∧ (gL (f_X5_readPair R5.2 R20.2 v1) (fun (R23 : Int32 × (Nat → Nat → Int32) × (Nat → Nat → Int32)) => ((R23.1 = 0 → True) ∧ (¬ R23.1 = 0 → (ok_X5_readTimer R23.2.1 v1) ∧ True))))))))))))) ∧ (¬ R2.1 = 0 → (ok_X3_addStage pf 0) ∧ (gL (f_X3_addStage pf 0) (fun (R29 : Int32 × (Nat → Nat → Int32)) => ((R29.1 = 0 → True) ∧ (¬ R29.1 = 0 → (ok_X5_readPair R2.2 R29.2 v1) ∧ (gL (f_X5_readPair R2.2 R29.2 v1) (fun (R32 : Int32 × (Nat → Nat → Int32) × (Nat → Nat → Int32)) => ((R32.1 = 0 → True) ∧ (¬ R32.1 = 0 → (ok_X5_readTimer R32.2.1 v1) ∧ True))))))))))))))
set_option maxHeartbeats 4000000 in
set_option maxRecDepth 100000 in
theorem c_X5_readStage (l : Launch) (G : gG) (a : Nat → Nat) (h : Nat → Nat) (t : (Nat → Nat → Int32)) (pf : (Nat → Nat → Int32)) (R : Int32 × (Nat → Nat → Int32) × (Nat → Nat → Int32)) (hR : R = f_X5_readStage t pf) (hok : ok_X5_readStage t pf) : CT l G yX5_readStage wsX5_readStage 4 90 [.ref (a 0), .ref (h 0)] [TW G a t, PW G h pf] (some (.int R.1)) [TW G a R.2.1, PW G h R.2.2] := by
  unfold f_X5_readStage at hR
  unfold ok_X5_readStage at hok
  refine CT.of (cc := cX5_readStage) (maxL := 3) (ret := (some .boolean)) (plainFor_of_name (by decide +kernel)) rfl rfl (Nat.le_of_ble_eq_true rfl) ?_
  intro p e s m below meth c A ls hx hb hml hr hts hown hlocks hK hP hD hA hS hl
  have hown : s.vm.findClass RX5 = some m.cls := hown
  have hl : lv_has ls 3 [(0, .ref (a 0)), (1, .ref (h 0))] := hl
  have hinX3 : ∀ w ∈ wsX30, w ∈ wsX5_readStage := fun w h => List.mem_cons_of_mem _ (List.mem_append_left _ (List.mem_append_right _ h))
  refine lv_aload_n hx hb dX5_readStage_0 rfl (lv_at hl 1 rfl) ?_
  refine g_get (ci := 3) (v := .int ((pf 0) 0)) (C := RX3) (T := TX3) (N := 5) hx hb hts hinX3 hown hK hP 2 rfl rfl 0 (by decide) (hts (.fieldLink RX5 22 "ChargeStages$Profile" "stages" "I") (List.mem_of_getElem? (i := 1) rfl)) rfl dX5_readStage_1 ?_
  obtain ⟨v1, ev1, hR, hok⟩ := g_let2 hR hok
  refine g_topE ev1.symm ?_
  refine lv_istore_n (lv' := [(2, .int v1), (0, .ref (a 0)), (1, .ref (h 0))]) hx hb dX5_readStage_4 rfl hl (by decide) rfl (fun ls hl => ?_)
  refine lv_aload_n hx hb dX5_readStage_5 rfl (lv_at hl 1 rfl) ?_
  refine lv_bipush (v := 99) hx hb dX5_readStage_6 (by decide) ?_
  obtain ⟨k3, hok⟩ := hok
  obtain ⟨R2, eR2, hR, hok⟩ := g_let2 hR hok
  refine g_callV (c_X5_accepts l G a t 99 R2 eR2 k3) hx hb hml hown hts hK hP hD hS hA gX5_readStage_X5_accepts rfl (n := 1) (by decide +kernel) rfl ⟨Nat.le_of_ble_eq_true rfl, Nat.le_of_ble_eq_true rfl⟩ [0] rfl (by decide) 0 rfl (ci := 5) rfl hl.1 rfl (Nat.le_of_ble_eq_true rfl) ⟨Nat.zero_le _, Nat.zero_le _⟩ dX5_readStage_8 (fun H locs hP hD hS => ?_)
  have hP : va_P G.1 vwCl (List.flatten [TW G a R2.2, PW G h pf]) H := hP
  have hD : va_D A (List.flatten [TW G a R2.2, PW G h pf]) := hD
  refine lv_if_eq (tgt := 46) hx hb dX5_readStage_11 (by decide) (fun c4 => ?_) (fun c4 => ?_)
  · rw [if_pos c4] at hR
    have hok := hok.1 c4
    refine lv_aload_n hx hb dX5_readStage_46 rfl (lv_at hl 1 rfl) ?_
    refine lv_bipush (v := 118) hx hb dX5_readStage_47 (by decide) ?_
    obtain ⟨k6, hok⟩ := hok
    obtain ⟨R5, eR5, hR, hok⟩ := g_let2 hR hok
    refine g_callV (c_X5_accepts l G a R2.2 118 R5 eR5 k6) hx hb hml hown hts hK hP hD hS hA gX5_readStage_X5_accepts rfl (n := 1) (by decide +kernel) rfl ⟨Nat.le_of_ble_eq_true rfl, Nat.le_of_ble_eq_true rfl⟩ [0] rfl (by decide) 0 rfl (ci := 5) rfl hl.1 rfl (Nat.le_of_ble_eq_true rfl) ⟨Nat.zero_le _, Nat.zero_le _⟩ dX5_readStage_49 (fun H locs hP hD hS => ?_)
    have hP : va_P G.1 vwCl (List.flatten [TW G a R5.2, PW G h pf]) H := hP
    have hD : va_D A (List.flatten [TW G a R5.2, PW G h pf]) := hD
    refine lv_if_eq (tgt := 87) hx hb dX5_readStage_52 (by decide) (fun c7 => ?_) (fun c7 => ?_)
    · rw [if_pos c7] at hR
      have hok := hok.1 c7
      refine lv_aload_n hx hb dX5_readStage_87 rfl (lv_at hl 1 rfl) ?_
      refine lv_bipush (v := 114) hx hb dX5_readStage_88 (by decide) ?_
      obtain ⟨k9, hok⟩ := hok
      obtain ⟨R8, eR8, hR, hok⟩ := g_let2 hR hok
      refine g_callV (c_X5_accepts l G a R5.2 114 R8 eR8 k9) hx hb hml hown hts hK hP hD hS hA gX5_readStage_X5_accepts rfl (n := 1) (by decide +kernel) rfl ⟨Nat.le_of_ble_eq_true rfl, Nat.le_of_ble_eq_true rfl⟩ [0] rfl (by decide) 0 rfl (ci := 5) rfl hl.1 rfl (Nat.le_of_ble_eq_true rfl) ⟨Nat.zero_le _, Nat.zero_le _⟩ dX5_readStage_90 (fun H locs hP hD hS => ?_)
      have hP : va_P G.1 vwCl (List.flatten [TW G a R8.2, PW G h pf]) H := hP
      have hD : va_D A (List.flatten [TW G a R8.2, PW G h pf]) := hD
      refine lv_if_eq (tgt := 126) hx hb dX5_readStage_93 (by decide) (fun c10 => ?_) (fun c10 => ?_)
      · rw [if_pos c10] at hR
        have hok := hok.1 c10
        refine lv_iconst (v := 0) hx hb dX5_readStage_126 (by decide) ?_
        subst hR
        exact g_retz hx hb hr hlocks hS rfl dX5_readStage_127 rfl hP
      · rw [if_neg c10] at hR
        have hok := hok.2 c10
        refine lv_aload_n hx hb dX5_readStage_96 rfl (lv_at hl 2 rfl) ?_
        refine lv_iconst (v := 2) hx hb dX5_readStage_97 (by decide) ?_
        obtain ⟨k12, hok⟩ := hok
        obtain ⟨R11, eR11, hR, hok⟩ := g_let2 hR hok
        refine g_callV (c_X3_addStage l G h pf 2 R11 eR11 k12) hx hb hml hown hts hK hP hD hS hA gX5_readStage_X3_addStage rfl (n := 1) (by decide +kernel) rfl ⟨Nat.le_of_ble_eq_true rfl, Nat.le_of_ble_eq_true rfl⟩ [1] rfl (by decide) 2 rfl (ci := 3) rfl hl.1 rfl (Nat.le_of_ble_eq_true rfl) ⟨Nat.zero_le _, Nat.zero_le _⟩ dX5_readStage_98 (fun H locs hP hD hS => ?_)
        have hP : va_P G.1 vwCl (List.flatten [TW G a R8.2, PW G h R11.2]) H := hP
        have hD : va_D A (List.flatten [TW G a R8.2, PW G h R11.2]) := hD
        refine lv_if_eq (tgt := 126) hx hb dX5_readStage_101 (by decide) (fun c13 => ?_) (fun c13 => ?_)
        · rw [if_pos c13] at hR
          have hok := hok.1 c13
          refine lv_iconst (v := 0) hx hb dX5_readStage_126 (by decide) ?_
          subst hR
          exact g_retz hx hb hr hlocks hS rfl dX5_readStage_127 rfl hP
        · rw [if_neg c13] at hR
          have hok := hok.2 c13
          refine lv_aload_n hx hb dX5_readStage_104 rfl (lv_at hl 1 rfl) ?_
          refine lv_aload_n hx hb dX5_readStage_105 rfl (lv_at hl 2 rfl) ?_
          refine lv_iload_n hx hb dX5_readStage_106 rfl (lv_at hl 0 rfl) ?_
          obtain ⟨k15, hok⟩ := hok
          obtain ⟨R14, eR14, hR, hok⟩ := g_let2 hR hok
          refine g_callV (c_X5_readFirst l G a h R8.2 R11.2 v1 R14 eR14 k15) hx hb hml hown hts hK hP hD hS hA gX5_readStage_X5_readFirst rfl (n := 2) (by decide +kernel) rfl ⟨Nat.le_of_ble_eq_true rfl, Nat.le_of_ble_eq_true rfl⟩ [0, 1] rfl (by decide) 0 rfl (ci := 5) rfl hl.1 rfl (Nat.le_of_ble_eq_true rfl) ⟨Nat.zero_le _, Nat.zero_le _⟩ dX5_readStage_107 (fun H locs hP hD hS => ?_)
          have hP : va_P G.1 vwCl (List.flatten [TW G a R14.2.1, PW G h R14.2.2]) H := hP
          have hD : va_D A (List.flatten [TW G a R14.2.1, PW G h R14.2.2]) := hD
          refine lv_if_eq (tgt := 126) hx hb dX5_readStage_110 (by decide) (fun c16 => ?_) (fun c16 => ?_)
          · rw [if_pos c16] at hR
            have hok := hok.1 c16
            refine lv_iconst (v := 0) hx hb dX5_readStage_126 (by decide) ?_
            subst hR
            exact g_retz hx hb hr hlocks hS rfl dX5_readStage_127 rfl hP
          · rw [if_neg c16] at hR
            have hok := hok.2 c16
            refine lv_aload_n hx hb dX5_readStage_113 rfl (lv_at hl 1 rfl) ?_
            refine lv_aload_n hx hb dX5_readStage_114 rfl (lv_at hl 2 rfl) ?_
            refine lv_iload_n hx hb dX5_readStage_115 rfl (lv_at hl 0 rfl) ?_
            obtain ⟨k18, hok⟩ := hok
            obtain ⟨R17, eR17, hR⟩ := g_let hR
            refine g_callV (c_X5_readTimer l G a h R14.2.1 R14.2.2 v1 R17 eR17 k18) hx hb hml hown hts hK hP hD hS hA gX5_readStage_X5_readTimer rfl (n := 2) (by decide +kernel) rfl ⟨Nat.le_of_ble_eq_true rfl, Nat.le_of_ble_eq_true rfl⟩ [0, 1] rfl (by decide) 0 rfl (ci := 5) rfl hl.1 rfl (Nat.le_of_ble_eq_true rfl) ⟨Nat.zero_le _, Nat.zero_le _⟩ dX5_readStage_116 (fun H locs hP hD hS => ?_)
            have hP : va_P G.1 vwCl (List.flatten [TW G a R17.2.1, PW G h R17.2.2]) H := hP
            have hD : va_D A (List.flatten [TW G a R17.2.1, PW G h R17.2.2]) := hD
            refine lv_if_eq (tgt := 126) hx hb dX5_readStage_119 (by decide) (fun c19 => ?_) (fun c19 => ?_)
            · rw [if_pos c19] at hR
              refine lv_iconst (v := 0) hx hb dX5_readStage_126 (by decide) ?_
              subst hR
              exact g_retz hx hb hr hlocks hS rfl dX5_readStage_127 rfl hP
            · rw [if_neg c19] at hR
              refine lv_iconst (v := 1) hx hb dX5_readStage_122 (by decide) ?_
              refine lv_goto (tgt := 127) hx hb dX5_readStage_123 (by decide) ?_
              subst hR
              exact g_retz hx hb hr hlocks hS rfl dX5_readStage_127 rfl hP
    · rw [if_neg c7] at hR
      have hok := hok.2 c7
      refine lv_aload_n hx hb dX5_readStage_55 rfl (lv_at hl 2 rfl) ?_
      refine lv_iconst (v := 1) hx hb dX5_readStage_56 (by decide) ?_
      obtain ⟨k21, hok⟩ := hok
      obtain ⟨R20, eR20, hR, hok⟩ := g_let2 hR hok
      refine g_callV (c_X3_addStage l G h pf 1 R20 eR20 k21) hx hb hml hown hts hK hP hD hS hA gX5_readStage_X3_addStage rfl (n := 1) (by decide +kernel) rfl ⟨Nat.le_of_ble_eq_true rfl, Nat.le_of_ble_eq_true rfl⟩ [1] rfl (by decide) 2 rfl (ci := 3) rfl hl.1 rfl (Nat.le_of_ble_eq_true rfl) ⟨Nat.zero_le _, Nat.zero_le _⟩ dX5_readStage_57 (fun H locs hP hD hS => ?_)
      have hP : va_P G.1 vwCl (List.flatten [TW G a R5.2, PW G h R20.2]) H := hP
      have hD : va_D A (List.flatten [TW G a R5.2, PW G h R20.2]) := hD
      refine lv_if_eq (tgt := 85) hx hb dX5_readStage_60 (by decide) (fun c22 => ?_) (fun c22 => ?_)
      · rw [if_pos c22] at hR
        have hok := hok.1 c22
        refine lv_iconst (v := 0) hx hb dX5_readStage_85 (by decide) ?_
        subst hR
        exact g_retz hx hb hr hlocks hS rfl dX5_readStage_86 rfl hP
      · rw [if_neg c22] at hR
        have hok := hok.2 c22
        refine lv_aload_n hx hb dX5_readStage_63 rfl (lv_at hl 1 rfl) ?_
        refine lv_aload_n hx hb dX5_readStage_64 rfl (lv_at hl 2 rfl) ?_
        refine lv_iload_n hx hb dX5_readStage_65 rfl (lv_at hl 0 rfl) ?_
        obtain ⟨k24, hok⟩ := hok
        obtain ⟨R23, eR23, hR, hok⟩ := g_let2 hR hok
        refine g_callV (c_X5_readPair l G a h R5.2 R20.2 v1 R23 eR23 k24) hx hb hml hown hts hK hP hD hS hA gX5_readStage_X5_readPair rfl (n := 2) (by decide +kernel) rfl ⟨Nat.le_of_ble_eq_true rfl, Nat.le_of_ble_eq_true rfl⟩ [0, 1] rfl (by decide) 0 rfl (ci := 5) rfl hl.1 rfl (Nat.le_of_ble_eq_true rfl) ⟨Nat.zero_le _, Nat.zero_le _⟩ dX5_readStage_66 (fun H locs hP hD hS => ?_)
        have hP : va_P G.1 vwCl (List.flatten [TW G a R23.2.1, PW G h R23.2.2]) H := hP
        have hD : va_D A (List.flatten [TW G a R23.2.1, PW G h R23.2.2]) := hD
        refine lv_if_eq (tgt := 85) hx hb dX5_readStage_69 (by decide) (fun c25 => ?_) (fun c25 => ?_)
        · rw [if_pos c25] at hR
          have hok := hok.1 c25
          refine lv_iconst (v := 0) hx hb dX5_readStage_85 (by decide) ?_
          subst hR
          exact g_retz hx hb hr hlocks hS rfl dX5_readStage_86 rfl hP
        · rw [if_neg c25] at hR
          have hok := hok.2 c25
          refine lv_aload_n hx hb dX5_readStage_72 rfl (lv_at hl 1 rfl) ?_
          refine lv_aload_n hx hb dX5_readStage_73 rfl (lv_at hl 2 rfl) ?_
          refine lv_iload_n hx hb dX5_readStage_74 rfl (lv_at hl 0 rfl) ?_
          obtain ⟨k27, hok⟩ := hok
          obtain ⟨R26, eR26, hR⟩ := g_let hR
          refine g_callV (c_X5_readTimer l G a h R23.2.1 R23.2.2 v1 R26 eR26 k27) hx hb hml hown hts hK hP hD hS hA gX5_readStage_X5_readTimer rfl (n := 2) (by decide +kernel) rfl ⟨Nat.le_of_ble_eq_true rfl, Nat.le_of_ble_eq_true rfl⟩ [0, 1] rfl (by decide) 0 rfl (ci := 5) rfl hl.1 rfl (Nat.le_of_ble_eq_true rfl) ⟨Nat.zero_le _, Nat.zero_le _⟩ dX5_readStage_75 (fun H locs hP hD hS => ?_)
          have hP : va_P G.1 vwCl (List.flatten [TW G a R26.2.1, PW G h R26.2.2]) H := hP
          have hD : va_D A (List.flatten [TW G a R26.2.1, PW G h R26.2.2]) := hD
          refine lv_if_eq (tgt := 85) hx hb dX5_readStage_78 (by decide) (fun c28 => ?_) (fun c28 => ?_)
          · rw [if_pos c28] at hR
            refine lv_iconst (v := 0) hx hb dX5_readStage_85 (by decide) ?_
            subst hR
            exact g_retz hx hb hr hlocks hS rfl dX5_readStage_86 rfl hP
          · rw [if_neg c28] at hR
            refine lv_iconst (v := 1) hx hb dX5_readStage_81 (by decide) ?_
            refine lv_goto (tgt := 86) hx hb dX5_readStage_82 (by decide) ?_
            subst hR
            exact g_retz hx hb hr hlocks hS rfl dX5_readStage_86 rfl hP
  · rw [if_neg c4] at hR
    have hok := hok.2 c4
    refine lv_aload_n hx hb dX5_readStage_14 rfl (lv_at hl 2 rfl) ?_
    refine lv_iconst (v := 0) hx hb dX5_readStage_15 (by decide) ?_
    obtain ⟨k30, hok⟩ := hok
    obtain ⟨R29, eR29, hR, hok⟩ := g_let2 hR hok
    refine g_callV (c_X3_addStage l G h pf 0 R29 eR29 k30) hx hb hml hown hts hK hP hD hS hA gX5_readStage_X3_addStage rfl (n := 1) (by decide +kernel) rfl ⟨Nat.le_of_ble_eq_true rfl, Nat.le_of_ble_eq_true rfl⟩ [1] rfl (by decide) 2 rfl (ci := 3) rfl hl.1 rfl (Nat.le_of_ble_eq_true rfl) ⟨Nat.zero_le _, Nat.zero_le _⟩ dX5_readStage_16 (fun H locs hP hD hS => ?_)
    have hP : va_P G.1 vwCl (List.flatten [TW G a R2.2, PW G h R29.2]) H := hP
    have hD : va_D A (List.flatten [TW G a R2.2, PW G h R29.2]) := hD
    refine lv_if_eq (tgt := 44) hx hb dX5_readStage_19 (by decide) (fun c31 => ?_) (fun c31 => ?_)
    · rw [if_pos c31] at hR
      have hok := hok.1 c31
      refine lv_iconst (v := 0) hx hb dX5_readStage_44 (by decide) ?_
      subst hR
      exact g_retz hx hb hr hlocks hS rfl dX5_readStage_45 rfl hP
    · rw [if_neg c31] at hR
      have hok := hok.2 c31
      refine lv_aload_n hx hb dX5_readStage_22 rfl (lv_at hl 1 rfl) ?_
      refine lv_aload_n hx hb dX5_readStage_23 rfl (lv_at hl 2 rfl) ?_
      refine lv_iload_n hx hb dX5_readStage_24 rfl (lv_at hl 0 rfl) ?_
      obtain ⟨k33, hok⟩ := hok
      obtain ⟨R32, eR32, hR, hok⟩ := g_let2 hR hok
      refine g_callV (c_X5_readPair l G a h R2.2 R29.2 v1 R32 eR32 k33) hx hb hml hown hts hK hP hD hS hA gX5_readStage_X5_readPair rfl (n := 2) (by decide +kernel) rfl ⟨Nat.le_of_ble_eq_true rfl, Nat.le_of_ble_eq_true rfl⟩ [0, 1] rfl (by decide) 0 rfl (ci := 5) rfl hl.1 rfl (Nat.le_of_ble_eq_true rfl) ⟨Nat.zero_le _, Nat.zero_le _⟩ dX5_readStage_25 (fun H locs hP hD hS => ?_)
      have hP : va_P G.1 vwCl (List.flatten [TW G a R32.2.1, PW G h R32.2.2]) H := hP
      have hD : va_D A (List.flatten [TW G a R32.2.1, PW G h R32.2.2]) := hD
      refine lv_if_eq (tgt := 44) hx hb dX5_readStage_28 (by decide) (fun c34 => ?_) (fun c34 => ?_)
      · rw [if_pos c34] at hR
        have hok := hok.1 c34
        refine lv_iconst (v := 0) hx hb dX5_readStage_44 (by decide) ?_
        subst hR
        exact g_retz hx hb hr hlocks hS rfl dX5_readStage_45 rfl hP
      · rw [if_neg c34] at hR
        have hok := hok.2 c34
        refine lv_aload_n hx hb dX5_readStage_31 rfl (lv_at hl 1 rfl) ?_
        refine lv_aload_n hx hb dX5_readStage_32 rfl (lv_at hl 2 rfl) ?_
        refine lv_iload_n hx hb dX5_readStage_33 rfl (lv_at hl 0 rfl) ?_
        obtain ⟨k36, hok⟩ := hok
        obtain ⟨R35, eR35, hR⟩ := g_let hR
        refine g_callV (c_X5_readTimer l G a h R32.2.1 R32.2.2 v1 R35 eR35 k36) hx hb hml hown hts hK hP hD hS hA gX5_readStage_X5_readTimer rfl (n := 2) (by decide +kernel) rfl ⟨Nat.le_of_ble_eq_true rfl, Nat.le_of_ble_eq_true rfl⟩ [0, 1] rfl (by decide) 0 rfl (ci := 5) rfl hl.1 rfl (Nat.le_of_ble_eq_true rfl) ⟨Nat.zero_le _, Nat.zero_le _⟩ dX5_readStage_34 (fun H locs hP hD hS => ?_)
        have hP : va_P G.1 vwCl (List.flatten [TW G a R35.2.1, PW G h R35.2.2]) H := hP
        have hD : va_D A (List.flatten [TW G a R35.2.1, PW G h R35.2.2]) := hD
        refine lv_if_eq (tgt := 44) hx hb dX5_readStage_37 (by decide) (fun c37 => ?_) (fun c37 => ?_)
        · rw [if_pos c37] at hR
          refine lv_iconst (v := 0) hx hb dX5_readStage_44 (by decide) ?_
          subst hR
          exact g_retz hx hb hr hlocks hS rfl dX5_readStage_45 rfl hP
        · rw [if_neg c37] at hR
          refine lv_iconst (v := 1) hx hb dX5_readStage_40 (by decide) ?_
          refine lv_goto (tgt := 45) hx hb dX5_readStage_41 (by decide) ?_
          subst hR
          exact g_retz hx hb hr hlocks hS rfl dX5_readStage_45 rfl hP
def fl_X5_readInto_12  : Nat → Int32 → (Nat → Nat → Int32) → (Nat → Nat → Int32) → Int32 × (Nat → Nat → Int32) × (Nat → Nat → Int32)
  | 0, _, _, _ => ((0 : Int32), (fun _ _ => 0), (fun _ _ => 0))
  | n + 1, x12_2, w12_0, w12_1 => (if 5 < x12_2 then (0, w12_0, w12_1) else (gL (f_X5_readStage w12_0 w12_1) (fun (R9 : Int32 × (Nat → Nat → Int32) × (Nat → Nat → Int32)) => (if R9.1 = 0 then (0, R9.2.1, R9.2.2) else (if ((R9.2.1 0) 1) = ((R9.2.1 0) 0) then (1, R9.2.1, R9.2.2) else (if x12_2 = 5 then (0, R9.2.1, R9.2.2) else (gL (f_X5_accepts R9.2.1 59) (fun (R14 : Int32 × (Nat → Nat → Int32)) => (if R14.1 = 0 then (0, R14.2, R9.2.2) else (gL ((x12_2 + 1)) (fun (v17 : Int32) => (fl_X5_readInto_12 n v17 R14.2 R9.2.2))))))))))))
def okl_X5_readInto_12  : Nat → Int32 → (Nat → Nat → Int32) → (Nat → Nat → Int32) → Prop
  | 0, _, _, _ => False
  | n + 1, x12_2, w12_0, w12_1 => ((5 < x12_2 → True) ∧ (¬ 5 < x12_2 → (ok_X5_readStage w12_0 w12_1) ∧ (gL (f_X5_readStage w12_0 w12_1) (fun (R9 : Int32 × (Nat → Nat → Int32) × (Nat → Nat → Int32)) => ((R9.1 = 0 → True) ∧ (¬ R9.1 = 0 → ((((R9.2.1 0) 1) = ((R9.2.1 0) 0) → True) ∧ (¬ ((R9.2.1 0) 1) = ((R9.2.1 0) 0) → ((x12_2 = 5 → True) ∧ (¬ x12_2 = 5 → (ok_X5_accepts R9.2.1) ∧ (gL (f_X5_accepts R9.2.1 59) (fun (R14 : Int32 × (Nat → Nat → Int32)) => ((R14.1 = 0 → True) ∧ (¬ R14.1 = 0 → (gL ((x12_2 + 1)) (fun (v17 : Int32) => (okl_X5_readInto_12 n v17 R14.2 R9.2.2)))))))))))))))))
def f_X5_readInto (t : (Nat → Nat → Int32)) (pf : (Nat → Nat → Int32)) : Int32 × (Nat → Nat → Int32) × (Nat → Nat → Int32) := (fl_X5_readInto_12 6 1 (sF t 0 (upd (t 0) 1 0)) (sF pf 0 (upd (pf 0) 0 0)))
def ok_X5_readInto (t : (Nat → Nat → Int32)) (pf : (Nat → Nat → Int32)) : Prop := (okl_X5_readInto_12 6 1 (sF t 0 (upd (t 0) 1 0)) (sF pf 0 (upd (pf 0) 0 0)))
set_option maxHeartbeats 4000000 in
set_option maxRecDepth 100000 in
theorem c_X5_readInto (l : Launch) (G : gG) (a : Nat → Nat) (h : Nat → Nat) (t : (Nat → Nat → Int32)) (pf : (Nat → Nat → Int32)) (R : Int32 × (Nat → Nat → Int32) × (Nat → Nat → Int32)) (hR : R = f_X5_readInto t pf) (hok : ok_X5_readInto t pf) : CT l G yX5_readInto wsX5_readInto 5 112 [.ref (a 0), .ref (h 0)] [TW G a t, PW G h pf] (some (.int R.1)) [TW G a R.2.1, PW G h R.2.2] := by
  unfold f_X5_readInto at hR
  unfold ok_X5_readInto at hok
  refine CT.of (cc := cX5_readInto) (maxL := 3) (ret := (some .boolean)) (plainFor_of_name (by decide +kernel)) rfl rfl (Nat.le_of_ble_eq_true rfl) ?_
  intro p e s m below meth c A ls hx hb hml hr hts hown hlocks hK hP hD hA hS hl
  have hown : s.vm.findClass RX5 = some m.cls := hown
  have hl : lv_has ls 3 [(0, .ref (a 0)), (1, .ref (h 0))] := hl
  have hinX3 : ∀ w ∈ wsX30, w ∈ wsX5_readInto := fun w h => List.mem_cons_of_mem _ (List.mem_append_right _ h)
  have hinX5 : ∀ w ∈ wsX50, w ∈ wsX5_readInto := fun w h => List.mem_cons_of_mem _ (List.mem_append_left _ (List.mem_append_right _ h))
  refine lv_aload_n hx hb dX5_readInto_0 rfl (lv_at hl 0 rfl) ?_
  refine lv_iconst (v := 0) hx hb dX5_readInto_1 (by decide) ?_
  refine g_put (ci := 5) (v := .int 0) (ty := .int) (C := RX5) (T := TX5) (N := 3) (B2 := [TW G a (sF t 0 (upd (t 0) 1 0)), PW G h pf]) hx hb hts hinX5 tyX5 tyX5_ok nmX5 hown hK hP hD hS 0 rfl rfl 1 (by decide) (hts (.fieldLink RX5 15 "ChargeStages$Text" "place" "I") (List.mem_of_getElem? (i := 1) rfl)) rfl (by decide +kernel) rfl rfl (Nat.le_of_ble_eq_true rfl) rfl dX5_readInto_2 (fun H locs hP hD hS => ?_)
  refine lv_aload_n hx hb dX5_readInto_5 rfl (lv_at hl 1 rfl) ?_
  refine lv_iconst (v := 0) hx hb dX5_readInto_6 (by decide) ?_
  refine g_put (ci := 3) (v := .int 0) (ty := .int) (C := RX3) (T := TX3) (N := 5) (B2 := [TW G a (sF t 0 (upd (t 0) 1 0)), PW G h (sF pf 0 (upd (pf 0) 0 0))]) hx hb hts hinX3 tyX3 tyX3_ok nmX3 hown hK hP hD hS 2 rfl rfl 0 (by decide) (hts (.fieldLink RX5 22 "ChargeStages$Profile" "stages" "I") (List.mem_of_getElem? (i := 2) rfl)) rfl (by decide +kernel) rfl rfl (Nat.le_of_ble_eq_true rfl) rfl dX5_readInto_7 (fun H locs hP hD hS => ?_)
  refine lv_iconst (v := 1) hx hb dX5_readInto_10 (by decide) ?_
  refine lv_istore_n (lv' := [(2, .int 1), (0, .ref (a 0)), (1, .ref (h 0))]) hx hb dX5_readInto_11 rfl hl (by decide) rfl (fun ls hl => ?_)
  have lp12 : ∀ (n : Nat) (x12_2 : Int32) (w12_0 : (Nat → Nat → Int32)) (w12_1 : (Nat → Nat → Int32)) (H : Heap) (locs : List Loc) (ls : Array Slot), R = fl_X5_readInto_12 n x12_2 w12_0 w12_1 → okl_X5_readInto_12 n x12_2 w12_0 w12_1 → va_P G.1 vwCl (List.flatten [TW G a w12_0, PW G h w12_1]) H → va_D A (List.flatten [TW G a w12_0, PW G h w12_1]) → va_S A s.heap H locs → lv_has ls 3 [(0, .ref (a 0)), (1, .ref (h 0)), (2, .int x12_2)] → W p l e { frames := 5, cells := 0, slots := 0, locals := 112 } s m (List.toArray [.ref (a 0), .ref (h 0)]) below meth c H locs 0 0 (gQ G below (List.toArray [.ref (a 0), .ref (h 0)]) s (some (.int R.1)) [TW G a R.2.1, PW G h R.2.2] A) (F0 m 12 ls []) := by
    intro n
    induction n with
    | zero =>
      intro x12_2 w12_0 w12_1 H locs ls hR hok hP hD hS hl
      rw [okl_X5_readInto_12] at hok
      exact hok.elim
    | succ n ih =>
      intro x12_2 w12_0 w12_1 H locs ls hR hok hP hD hS hl
      rw [fl_X5_readInto_12] at hR
      rw [okl_X5_readInto_12] at hok
      refine lv_iload_n hx hb dX5_readInto_12 rfl (lv_at hl 2 rfl) ?_
      refine lv_iconst (v := 5) hx hb dX5_readInto_13 (by decide) ?_
      refine lv_icmp_gt (tgt := 62) hx hb dX5_readInto_14 (by decide) (fun c8 => ?_) (fun c8 => ?_)
      · rw [if_pos c8] at hR
        have hok := hok.1 c8
        refine lv_iconst (v := 0) hx hb dX5_readInto_62 (by decide) ?_
        subst hR
        exact g_retz hx hb hr hlocks hS rfl dX5_readInto_63 rfl hP
      · rw [if_neg c8] at hR
        have hok := hok.2 c8
        refine lv_aload_n hx hb dX5_readInto_17 rfl (lv_at hl 0 rfl) ?_
        refine lv_aload_n hx hb dX5_readInto_18 rfl (lv_at hl 1 rfl) ?_
        obtain ⟨k10, hok⟩ := hok
        obtain ⟨R9, eR9, hR, hok⟩ := g_let2 hR hok
        refine g_callV (c_X5_readStage l G a h w12_0 w12_1 R9 eR9 k10) hx hb hml hown hts hK hP hD hS hA gX5_readInto_X5_readStage rfl (n := 1) (by decide +kernel) rfl ⟨Nat.le_of_ble_eq_true rfl, Nat.le_of_ble_eq_true rfl⟩ [0, 1] rfl (by decide) 0 rfl (ci := 5) rfl hl.1 rfl (Nat.le_of_ble_eq_true rfl) ⟨Nat.zero_le _, Nat.zero_le _⟩ dX5_readInto_19 (fun H locs hP hD hS => ?_)
        have hP : va_P G.1 vwCl (List.flatten [TW G a R9.2.1, PW G h R9.2.2]) H := hP
        have hD : va_D A (List.flatten [TW G a R9.2.1, PW G h R9.2.2]) := hD
        refine lv_if_ne (tgt := 27) hx hb dX5_readInto_22 (by decide) (fun c11 => ?_) (fun c11 => ?_)
        · rw [if_neg c11] at hR
          have hok := hok.2 c11
          refine lv_aload_n hx hb dX5_readInto_27 rfl (lv_at hl 0 rfl) ?_
          refine g_get (ci := 5) (v := .int ((R9.2.1 0) 1)) (C := RX5) (T := TX5) (N := 3) hx hb hts hinX5 hown hK hP 0 rfl rfl 1 (by decide) (hts (.fieldLink RX5 15 "ChargeStages$Text" "place" "I") (List.mem_of_getElem? (i := 1) rfl)) rfl dX5_readInto_28 ?_
          refine lv_aload_n hx hb dX5_readInto_31 rfl (lv_at hl 0 rfl) ?_
          refine g_get (ci := 5) (v := .int ((R9.2.1 0) 0)) (C := RX5) (T := TX5) (N := 3) hx hb hts hinX5 hown hK hP 0 rfl rfl 0 (by decide) (hts (.fieldLink RX5 9 "ChargeStages$Text" "length" "I") (List.mem_of_getElem? (i := 3) rfl)) rfl dX5_readInto_32 ?_
          refine lv_icmp_ne (tgt := 40) hx hb dX5_readInto_35 (by decide) (fun c12 => ?_) (fun c12 => ?_)
          · rw [if_neg c12] at hR
            have hok := hok.2 c12
            refine lv_iload_n hx hb dX5_readInto_40 rfl (lv_at hl 2 rfl) ?_
            refine lv_iconst (v := 5) hx hb dX5_readInto_41 (by decide) ?_
            refine lv_icmp_eq (tgt := 54) hx hb dX5_readInto_42 (by decide) (fun c13 => ?_) (fun c13 => ?_)
            · rw [if_pos c13] at hR
              have hok := hok.1 c13
              refine lv_iconst (v := 0) hx hb dX5_readInto_54 (by decide) ?_
              subst hR
              exact g_retz hx hb hr hlocks hS rfl dX5_readInto_55 rfl hP
            · rw [if_neg c13] at hR
              have hok := hok.2 c13
              refine lv_aload_n hx hb dX5_readInto_45 rfl (lv_at hl 0 rfl) ?_
              refine lv_bipush (v := 59) hx hb dX5_readInto_46 (by decide) ?_
              obtain ⟨k15, hok⟩ := hok
              obtain ⟨R14, eR14, hR, hok⟩ := g_let2 hR hok
              refine g_callV (c_X5_accepts l G a R9.2.1 59 R14 eR14 k15) hx hb hml hown hts hK hP hD hS hA gX5_readInto_X5_accepts rfl (n := 1) (by decide +kernel) rfl ⟨Nat.le_of_ble_eq_true rfl, Nat.le_of_ble_eq_true rfl⟩ [0] rfl (by decide) 0 rfl (ci := 5) rfl hl.1 rfl (Nat.le_of_ble_eq_true rfl) ⟨Nat.zero_le _, Nat.zero_le _⟩ dX5_readInto_48 (fun H locs hP hD hS => ?_)
              have hP : va_P G.1 vwCl (List.flatten [TW G a R14.2, PW G h R9.2.2]) H := hP
              have hD : va_D A (List.flatten [TW G a R14.2, PW G h R9.2.2]) := hD
              refine lv_if_ne (tgt := 56) hx hb dX5_readInto_51 (by decide) (fun c16 => ?_) (fun c16 => ?_)
              · rw [if_neg c16] at hR
                have hok := hok.2 c16
                obtain ⟨v17, ev17, hR, hok⟩ := g_let2 hR hok
                refine lv_iinc (v := v17) (lv' := [(2, .int v17), (0, .ref (a 0)), (1, .ref (h 0))]) hx hb dX5_readInto_56 hl (k := 2) rfl (by subst ev17; rfl) (by decide) rfl (fun ls hl => ?_)
                refine lv_goto (tgt := 12) hx hb dX5_readInto_59 (by decide) ?_
                exact ih v17 R14.2 R9.2.2 _ _ _ hR hok hP hD hS (lv_sub hl [1, 2, 0] rfl)
              · rw [if_pos c16] at hR
                have hok := hok.1 c16
                refine lv_iconst (v := 0) hx hb dX5_readInto_54 (by decide) ?_
                subst hR
                exact g_retz hx hb hr hlocks hS rfl dX5_readInto_55 rfl hP
          · rw [if_pos c12] at hR
            have hok := hok.1 c12
            refine lv_iconst (v := 1) hx hb dX5_readInto_38 (by decide) ?_
            subst hR
            exact g_retz hx hb hr hlocks hS rfl dX5_readInto_39 rfl hP
        · rw [if_pos c11] at hR
          have hok := hok.1 c11
          refine lv_iconst (v := 0) hx hb dX5_readInto_25 (by decide) ?_
          subst hR
          exact g_retz hx hb hr hlocks hS rfl dX5_readInto_26 rfl hP
  exact lp12 6 1 (sF t 0 (upd (t 0) 1 0)) (sF pf 0 (upd (pf 0) 0 0)) _ _ _ hR hok hP hD hS (lv_sub hl [1, 2, 0] rfl)
