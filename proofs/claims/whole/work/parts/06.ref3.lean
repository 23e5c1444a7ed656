def fl_X7_undo_22 (o : (Nat → Int32)) (fw : (Nat → Int32)) : Nat → Int32 → (Nat → Int32) → Int32 × (Nat → Int32) × (Nat → Int32)
  | 0, _, _ => ((0 : Int32), (fun _ => 0), (fun _ => 0))
  | n + 1, x22_1, w22_1 => (if 112 ≤ x22_1 then (((o 0) - 1), (upd o 0 ((o 0) - 1)), w22_1) else (gL (upd w22_1 ((x22_1).toNatClampNeg) (fw (((112 * ((o 0) - 1)) + x22_1).toNatClampNeg))) (fun (z6 : (Nat → Int32)) => (gL ((x22_1 + 1)) (fun (v8 : Int32) => (fl_X7_undo_22 o fw n v8 z6))))))
def okl_X7_undo_22 (o : (Nat → Int32)) (fw : (Nat → Int32)) : Nat → Int32 → (Nat → Int32) → Prop
  | 0, _, _ => False
  | n + 1, x22_1, w22_1 => ((112 ≤ x22_1 → True) ∧ (¬ 112 ≤ x22_1 → (vp_in ((112 * ((o 0) - 1)) + x22_1) 448) ∧ (vp_in x22_1 112) ∧ (gL (upd w22_1 ((x22_1).toNatClampNeg) (fw (((112 * ((o 0) - 1)) + x22_1).toNatClampNeg))) (fun (z6 : (Nat → Int32)) => (gL ((x22_1 + 1)) (fun (v8 : Int32) => (okl_X7_undo_22 o fw n v8 z6)))))))
def f_X7_undo (o : (Nat → Int32)) (f : (Nat → Int32)) (fw : (Nat → Int32)) : Int32 × (Nat → Int32) × (Nat → Int32) := (if (o 0) = 0 then ((-5), o, f) else (fl_X7_undo_22 o fw 113 0 f))
def ok_X7_undo (o : (Nat → Int32)) (f : (Nat → Int32)) (fw : (Nat → Int32)) : Prop := (((o 0) = 0 → True) ∧ (¬ (o 0) = 0 → (okl_X7_undo_22 o fw 113 0 f)))
set_option maxHeartbeats 4000000 in
set_option maxRecDepth 100000 in
theorem c_X7_undo (l : Launch) (G : gG) (mm : Nat → Nat) (o : (Nat → Int32)) (f : (Nat → Int32)) (fw : (Nat → Int32)) (R : Int32 × (Nat → Int32) × (Nat → Int32)) (hR : R = f_X7_undo o f fw) (hok : ok_X7_undo o f fw) : CT l G yX7_undo wsX7_undo 0 0 [.ref (mm 0)] [MO G mm o, AW G (mm 1) 112 f, AW G (mm 3) 448 fw] (some (.int R.1)) [MO G mm R.2.1, AW G (mm 1) 112 R.2.2, AW G (mm 3) 448 fw] := by
  unfold f_X7_undo at hR
  unfold ok_X7_undo at hok
  refine CT.of (cc := cX7_undo) (maxL := 2) (ret := (some .int)) (plainFor_of_name (by decide +kernel)) rfl rfl (Nat.le_of_ble_eq_true rfl) ?_
  intro p e s m below meth c A ls hx hb hml hr hts hown hlocks hK hP hD hA hS hl
  have hown : s.vm.findClass RX7 = some m.cls := hown
  have hl : lv_has ls 2 [(0, .ref (mm 0))] := hl
  have hinX7 : ∀ w ∈ wsX70, w ∈ wsX7_undo := fun w h => List.mem_cons_of_mem _ (List.mem_append_right _ h)
  refine lv_aload_n hx hb dX7_undo_0 rfl (lv_at hl 0 rfl) ?_
  refine g_get (ci := 7) (v := .int (o 0)) (C := RX7) (T := TX7) (N := 12) hx hb hts hinX7 hown hK hP 0 rfl rfl 3 (by decide) (hts (.fieldLink RX7 29 "ChargeStagesModel" "states" "I") (List.mem_of_getElem? (i := 1) rfl)) rfl dX7_undo_1 ?_
  refine lv_if_ne (tgt := 10) hx hb dX7_undo_4 (by decide) (fun c1 => ?_) (fun c1 => ?_)
  · rw [if_neg c1] at hR
    have hok := hok.2 c1
    refine lv_aload_n hx hb dX7_undo_10 rfl (lv_at hl 0 rfl) ?_
    refine lv_dup hx hb dX7_undo_11 rfl ?_
    refine g_get (ci := 7) (v := .int (o 0)) (C := RX7) (T := TX7) (N := 12) hx hb hts hinX7 hown hK hP 0 rfl rfl 3 (by decide) (hts (.fieldLink RX7 29 "ChargeStagesModel" "states" "I") (List.mem_of_getElem? (i := 1) rfl)) rfl dX7_undo_12 ?_
    refine lv_iconst (v := 1) hx hb dX7_undo_15 (by decide) ?_
    refine lv_isub hx hb dX7_undo_16 ?_
    refine g_put (ci := 7) (v := .int ((o 0) - 1)) (ty := .int) (C := RX7) (T := TX7) (N := 12) (B2 := [MO G mm (upd o 0 ((o 0) - 1)), AW G (mm 1) 112 f, AW G (mm 3) 448 fw]) hx hb hts hinX7 tyX7 tyX7_ok nmX7 hown hK hP hD hS 0 rfl rfl 3 (by decide) (hts (.fieldLink RX7 29 "ChargeStagesModel" "states" "I") (List.mem_of_getElem? (i := 1) rfl)) rfl (by decide +kernel) rfl rfl (Nat.le_of_ble_eq_true rfl) rfl dX7_undo_17 (fun H locs hP hD hS => ?_)
    refine lv_iconst (v := 0) hx hb dX7_undo_20 (by decide) ?_
    refine lv_istore_n (lv' := [(1, .int 0), (0, .ref (mm 0))]) hx hb dX7_undo_21 rfl hl (by decide) rfl (fun ls hl => ?_)
    have lp22 : ∀ (n : Nat) (x22_1 : Int32) (w22_1 : (Nat → Int32)) (H : Heap) (locs : List Loc) (ls : Array Slot), R = fl_X7_undo_22 o fw n x22_1 w22_1 → okl_X7_undo_22 o fw n x22_1 w22_1 → va_P G.1 vwCl (List.flatten [MO G mm (upd o 0 ((o 0) - 1)), AW G (mm 1) 112 w22_1, AW G (mm 3) 448 fw]) H → va_D A (List.flatten [MO G mm (upd o 0 ((o 0) - 1)), AW G (mm 1) 112 w22_1, AW G (mm 3) 448 fw]) → va_S A s.heap H locs → lv_has ls 2 [(0, .ref (mm 0)), (1, .int x22_1)] → W p l e { frames := 0, cells := 0, slots := 0, locals := 0 } s m (List.toArray [.ref (mm 0)]) below meth c H locs 0 0 (gQ G below (List.toArray [.ref (mm 0)]) s (some (.int R.1)) [MO G mm R.2.1, AW G (mm 1) 112 R.2.2, AW G (mm 3) 448 fw] A) (F0 m 22 ls []) := by
      intro n
      induction n with
      | zero =>
        intro x22_1 w22_1 H locs ls hR hok hP hD hS hl
        rw [okl_X7_undo_22] at hok
        exact hok.elim
      | succ n ih =>
        intro x22_1 w22_1 H locs ls hR hok hP hD hS hl
        rw [fl_X7_undo_22] at hR
        rw [okl_X7_undo_22] at hok
        refine lv_iload_n hx hb dX7_undo_22 rfl (lv_at hl 1 rfl) ?_
        refine lv_bipush (v := 112) hx hb dX7_undo_23 (by decide) ?_
        refine lv_icmp_ge (tgt := 54) hx hb dX7_undo_25 (by decide) (fun c4 => ?_) (fun c4 => ?_)
        · rw [if_pos c4] at hR
          have hok := hok.1 c4
          refine lv_aload_n hx hb dX7_undo_54 rfl (lv_at hl 0 rfl) ?_
          refine g_get (ci := 7) (v := .int ((o 0) - 1)) (C := RX7) (T := TX7) (N := 12) hx hb hts hinX7 hown hK hP 0 rfl rfl 3 (by decide) (hts (.fieldLink RX7 29 "ChargeStagesModel" "states" "I") (List.mem_of_getElem? (i := 1) rfl)) rfl dX7_undo_55 ?_
          subst hR
          exact g_ret hx hb hr hlocks hS dX7_undo_58 rfl hP
        · rw [if_neg c4] at hR
          have hok := hok.2 c4
          refine lv_aload_n hx hb dX7_undo_28 rfl (lv_at hl 0 rfl) ?_
          refine g_get (ci := 7) (v := .ref (mm 1)) (C := RX7) (T := TX7) (N := 12) hx hb hts hinX7 hown hK hP 0 rfl rfl 0 (by decide) (hts (.fieldLink RX7 7 "ChargeStagesModel" "s" "[I") (List.mem_of_getElem? (i := 2) rfl)) rfl dX7_undo_29 ?_
          refine lv_iload_n hx hb dX7_undo_32 rfl (lv_at hl 1 rfl) ?_
          refine lv_aload_n hx hb dX7_undo_33 rfl (lv_at hl 0 rfl) ?_
          refine g_get (ci := 7) (v := .ref (mm 3)) (C := RX7) (T := TX7) (N := 12) hx hb hts hinX7 hown hK hP 0 rfl rfl 2 (by decide) (hts (.fieldLink RX7 16 "ChargeStagesModel" "was" "[I") (List.mem_of_getElem? (i := 3) rfl)) rfl dX7_undo_34 ?_
          refine lv_bipush (v := 112) hx hb dX7_undo_37 (by decide) ?_
          refine lv_aload_n hx hb dX7_undo_39 rfl (lv_at hl 0 rfl) ?_
          refine g_get (ci := 7) (v := .int ((o 0) - 1)) (C := RX7) (T := TX7) (N := 12) hx hb hts hinX7 hown hK hP 0 rfl rfl 3 (by decide) (hts (.fieldLink RX7 29 "ChargeStagesModel" "states" "I") (List.mem_of_getElem? (i := 1) rfl)) rfl dX7_undo_40 ?_
          refine lv_imul hx hb dX7_undo_43 ?_
          refine lv_iload_n hx hb dX7_undo_44 rfl (lv_at hl 1 rfl) ?_
          refine lv_iadd hx hb dX7_undo_45 ?_
          obtain ⟨k5, hok⟩ := hok
          refine g_ld (n := 448) (f := fw) (v := fw (((112 * ((o 0) - 1)) + x22_1).toNatClampNeg)) (k := (((112 * ((o 0) - 1)) + x22_1).toNatClampNeg)) hx hb hK hP 2 rfl rfl k5 rfl dX7_undo_46 ?_
          obtain ⟨k7, hok⟩ := hok
          obtain ⟨z6, ez6, hR, hok⟩ := g_let2 hR hok
          refine g_st (n := 112) (f := w22_1) (k := ((x22_1).toNatClampNeg)) (B2 := [MO G mm (upd o 0 ((o 0) - 1)), AW G (mm 1) 112 z6, AW G (mm 3) 448 fw]) hx hb hK hP hD hS 1 rfl rfl k7 (by subst ez6; rfl) dX7_undo_47 (fun H locs hP hD hS => ?_)
          obtain ⟨v8, ev8, hR, hok⟩ := g_let2 hR hok
          refine lv_iinc (v := v8) (lv' := [(1, .int v8), (0, .ref (mm 0))]) hx hb dX7_undo_48 hl (k := 1) rfl (by subst ev8; rfl) (by decide) rfl (fun ls hl => ?_)
          refine lv_goto (tgt := 22) hx hb dX7_undo_51 (by decide) ?_
          exact ih v8 z6 _ _ _ hR hok hP hD hS (lv_sub hl [1, 0] rfl)
    exact lp22 113 0 f _ _ _ hR hok hP hD hS (lv_sub hl [1, 0] rfl)
  · rw [if_pos c1] at hR
    have hok := hok.1 c1
    refine lv_bipush (v := (-5)) hx hb dX7_undo_7 (by decide) ?_
    subst hR
    exact g_ret hx hb hr hlocks hS dX7_undo_9 rfl hP
def f_X7_keep (o : (Nat → Int32)) (f : (Nat → Int32)) (fs : (Nat → Int32)) : Int32 × (Nat → Int32) × (Nat → Int32) := (gL (f_X7_copies112 f fs 0) (fun (R1 : (Nat → Int32)) => (f 76, (upd o 1 1), R1)))
def ok_X7_keep (f : (Nat → Int32)) (fs : (Nat → Int32)) : Prop := (ok_X7_copies112 f fs 0) ∧ True
set_option maxHeartbeats 4000000 in
set_option maxRecDepth 100000 in
theorem c_X7_keep (l : Launch) (G : gG) (mm : Nat → Nat) (o : (Nat → Int32)) (f : (Nat → Int32)) (fs : (Nat → Int32)) (R : Int32 × (Nat → Int32) × (Nat → Int32)) (hR : R = f_X7_keep o f fs) (hok : ok_X7_keep f fs) : CT l G yX7_keep wsX7_keep 1 23 [.ref (mm 0)] [MO G mm o, AW G (mm 1) 112 f, AW G (mm 4) 112 fs] (some (.int R.1)) [MO G mm R.2.1, AW G (mm 1) 112 f, AW G (mm 4) 112 R.2.2] := by
  unfold f_X7_keep at hR
  unfold ok_X7_keep at hok
  refine CT.of (cc := cX7_keep) (maxL := 1) (ret := (some .int)) (plainFor_of_name (by decide +kernel)) rfl rfl (Nat.le_of_ble_eq_true rfl) ?_
  intro p e s m below meth c A ls hx hb hml hr hts hown hlocks hK hP hD hA hS hl
  have hown : s.vm.findClass RX7 = some m.cls := hown
  have hl : lv_has ls 1 [(0, .ref (mm 0))] := hl
  have hinX7 : ∀ w ∈ wsX70, w ∈ wsX7_keep := fun w h => List.mem_cons_of_mem _ (List.mem_append_right _ h)
  refine lv_aload_n hx hb dX7_keep_0 rfl (lv_at hl 0 rfl) ?_
  refine g_get (ci := 7) (v := .ref (mm 1)) (C := RX7) (T := TX7) (N := 12) hx hb hts hinX7 hown hK hP 0 rfl rfl 0 (by decide) (hts (.fieldLink RX7 7 "ChargeStagesModel" "s" "[I") (List.mem_of_getElem? (i := 1) rfl)) rfl dX7_keep_1 ?_
  refine lv_aload_n hx hb dX7_keep_4 rfl (lv_at hl 0 rfl) ?_
  refine g_get (ci := 7) (v := .ref (mm 4)) (C := RX7) (T := TX7) (N := 12) hx hb hts hinX7 hown hK hP 0 rfl rfl 4 (by decide) (hts (.fieldLink RX7 19 "ChargeStagesModel" "slot" "[I") (List.mem_of_getElem? (i := 2) rfl)) rfl dX7_keep_5 ?_
  refine lv_iconst (v := 0) hx hb dX7_keep_8 (by decide) ?_
  obtain ⟨k2, hok⟩ := hok
  obtain ⟨R1, eR1, hR⟩ := g_let hR
  refine g_callS (c_X7_copies112 l G (mm 1) (mm 4) f fs 0 R1 eR1 k2) hx hb hml hown hts hK hP hD hS hA gX7_keep_X7_copies rfl (n := 3) (by decide +kernel) rfl ⟨Nat.le_of_ble_eq_true rfl, Nat.le_of_ble_eq_true rfl⟩ [1, 2] rfl (by decide) hl.1 rfl (Nat.le_of_ble_eq_true rfl) ⟨Nat.zero_le _, Nat.zero_le _⟩ dX7_keep_9 (fun H locs hP hD hS => ?_)
  have hP : va_P G.1 vwCl (List.flatten [MO G mm o, AW G (mm 1) 112 f, AW G (mm 4) 112 R1]) H := hP
  have hD : va_D A (List.flatten [MO G mm o, AW G (mm 1) 112 f, AW G (mm 4) 112 R1]) := hD
  refine lv_aload_n hx hb dX7_keep_12 rfl (lv_at hl 0 rfl) ?_
  refine lv_iconst (v := 1) hx hb dX7_keep_13 (by decide) ?_
  refine g_put (ci := 7) (v := .int 1) (ty := .boolean) (C := RX7) (T := TX7) (N := 12) (B2 := [MO G mm (upd o 1 1), AW G (mm 1) 112 f, AW G (mm 4) 112 R1]) hx hb hts hinX7 tyX7 tyX7_ok nmX7 hown hK hP hD hS 0 rfl rfl 5 (by decide) (hts (.fieldLink RX7 37 "ChargeStagesModel" "isFilled" "Z") (List.mem_of_getElem? (i := 3) rfl)) rfl (by decide +kernel) rfl rfl (Nat.le_of_ble_eq_true rfl) rfl dX7_keep_14 (fun H locs hP hD hS => ?_)
  refine lv_aload_n hx hb dX7_keep_17 rfl (lv_at hl 0 rfl) ?_
  refine g_get (ci := 7) (v := .ref (mm 1)) (C := RX7) (T := TX7) (N := 12) hx hb hts hinX7 hown hK hP 0 rfl rfl 0 (by decide) (hts (.fieldLink RX7 7 "ChargeStagesModel" "s" "[I") (List.mem_of_getElem? (i := 1) rfl)) rfl dX7_keep_18 ?_
  refine lv_bipush (v := 76) hx hb dX7_keep_21 (by decide) ?_
  refine g_ld (n := 112) (f := f) (v := f 76) (k := 76) hx hb hK hP 1 rfl (by decide) (by unfold vp_in; decide) rfl dX7_keep_23 ?_
  subst hR
  exact g_ret hx hb hr hlocks hS dX7_keep_24 rfl hP
def f_X7_restore (o : (Nat → Int32)) (f : (Nat → Int32)) (fw : (Nat → Int32)) (fs : (Nat → Int32)) : Int32 × (Nat → Int32) × (Nat → Int32) × (Nat → Int32) := (if (o 1) = 0 then ((-5), o, f, fw) else (gL (f_X7_records o f fw) (fun (R2 : (Nat → Int32) × (Nat → Int32)) => (gL (f_X7_copies112 fs f 0) (fun (R4 : (Nat → Int32)) => (R4 76, R2.1, R4, R2.2))))))
def ok_X7_restore (o : (Nat → Int32)) (f : (Nat → Int32)) (fw : (Nat → Int32)) (fs : (Nat → Int32)) : Prop := (((o 1) = 0 → True) ∧ (¬ (o 1) = 0 → (ok_X7_records o f fw) ∧ (gL (f_X7_records o f fw) (fun (R2 : (Nat → Int32) × (Nat → Int32)) => (ok_X7_copies112 fs f 0) ∧ True))))
set_option maxHeartbeats 4000000 in
set_option maxRecDepth 100000 in
theorem c_X7_restore (l : Launch) (G : gG) (mm : Nat → Nat) (o : (Nat → Int32)) (f : (Nat → Int32)) (fw : (Nat → Int32)) (fs : (Nat → Int32)) (R : Int32 × (Nat → Int32) × (Nat → Int32) × (Nat → Int32)) (hR : R = f_X7_restore o f fw fs) (hok : ok_X7_restore o f fw fs) : CT l G yX7_restore wsX7_restore 2 44 [.ref (mm 0)] [MO G mm o, AW G (mm 1) 112 f, AW G (mm 3) 448 fw, AW G (mm 4) 112 fs] (some (.int R.1)) [MO G mm R.2.1, AW G (mm 1) 112 R.2.2.1, AW G (mm 3) 448 R.2.2.2, AW G (mm 4) 112 fs] := by
  unfold f_X7_restore at hR
  unfold ok_X7_restore at hok
  refine CT.of (cc := cX7_restore) (maxL := 1) (ret := (some .int)) (plainFor_of_name (by decide +kernel)) rfl rfl (Nat.le_of_ble_eq_true rfl) ?_
  intro p e s m below meth c A ls hx hb hml hr hts hown hlocks hK hP hD hA hS hl
  have hown : s.vm.findClass RX7 = some m.cls := hown
  have hl : lv_has ls 1 [(0, .ref (mm 0))] := hl
  have hinX7 : ∀ w ∈ wsX70, w ∈ wsX7_restore := fun w h => List.mem_cons_of_mem _ (List.mem_append_right _ h)
  refine lv_aload_n hx hb dX7_restore_0 rfl (lv_at hl 0 rfl) ?_
  refine g_get (ci := 7) (v := .int (o 1)) (C := RX7) (T := TX7) (N := 12) hx hb hts hinX7 hown hK hP 0 rfl rfl 5 (by decide) (hts (.fieldLink RX7 37 "ChargeStagesModel" "isFilled" "Z") (List.mem_of_getElem? (i := 1) rfl)) rfl dX7_restore_1 ?_
  refine lv_if_ne (tgt := 10) hx hb dX7_restore_4 (by decide) (fun c1 => ?_) (fun c1 => ?_)
  · rw [if_neg c1] at hR
    have hok := hok.2 c1
    refine lv_aload_n hx hb dX7_restore_10 rfl (lv_at hl 0 rfl) ?_
    obtain ⟨k3, hok⟩ := hok
    obtain ⟨R2, eR2, hR, hok⟩ := g_let2 hR hok
    refine g_callV (c_X7_records l G mm o f fw R2 eR2 k3) hx hb hml hown hts hK hP hD hS hA gX7_restore_X7_records rfl (n := 0) (by decide +kernel) rfl ⟨Nat.le_of_ble_eq_true rfl, Nat.le_of_ble_eq_true rfl⟩ [0, 1, 2] rfl (by decide) 0 rfl (ci := 7) rfl hl.1 rfl (Nat.le_of_ble_eq_true rfl) ⟨Nat.zero_le _, Nat.zero_le _⟩ dX7_restore_11 (fun H locs hP hD hS => ?_)
    have hP : va_P G.1 vwCl (List.flatten [MO G mm R2.1, AW G (mm 1) 112 f, AW G (mm 3) 448 R2.2, AW G (mm 4) 112 fs]) H := hP
    have hD : va_D A (List.flatten [MO G mm R2.1, AW G (mm 1) 112 f, AW G (mm 3) 448 R2.2, AW G (mm 4) 112 fs]) := hD
    refine lv_aload_n hx hb dX7_restore_14 rfl (lv_at hl 0 rfl) ?_
    refine g_get (ci := 7) (v := .ref (mm 4)) (C := RX7) (T := TX7) (N := 12) hx hb hts hinX7 hown hK hP 0 rfl rfl 4 (by decide) (hts (.fieldLink RX7 19 "ChargeStagesModel" "slot" "[I") (List.mem_of_getElem? (i := 2) rfl)) rfl dX7_restore_15 ?_
    refine lv_aload_n hx hb dX7_restore_18 rfl (lv_at hl 0 rfl) ?_
    refine g_get (ci := 7) (v := .ref (mm 1)) (C := RX7) (T := TX7) (N := 12) hx hb hts hinX7 hown hK hP 0 rfl rfl 0 (by decide) (hts (.fieldLink RX7 7 "ChargeStagesModel" "s" "[I") (List.mem_of_getElem? (i := 3) rfl)) rfl dX7_restore_19 ?_
    refine lv_iconst (v := 0) hx hb dX7_restore_22 (by decide) ?_
    obtain ⟨k5, hok⟩ := hok
    obtain ⟨R4, eR4, hR⟩ := g_let hR
    refine g_callS (c_X7_copies112 l G (mm 4) (mm 1) fs f 0 R4 eR4 k5) hx hb hml hown hts hK hP hD hS hA gX7_restore_X7_copies rfl (n := 3) (by decide +kernel) rfl ⟨Nat.le_of_ble_eq_true rfl, Nat.le_of_ble_eq_true rfl⟩ [3, 1] rfl (by decide) hl.1 rfl (Nat.le_of_ble_eq_true rfl) ⟨Nat.zero_le _, Nat.zero_le _⟩ dX7_restore_23 (fun H locs hP hD hS => ?_)
    have hP : va_P G.1 vwCl (List.flatten [MO G mm R2.1, AW G (mm 1) 112 R4, AW G (mm 3) 448 R2.2, AW G (mm 4) 112 fs]) H := hP
    have hD : va_D A (List.flatten [MO G mm R2.1, AW G (mm 1) 112 R4, AW G (mm 3) 448 R2.2, AW G (mm 4) 112 fs]) := hD
    refine lv_aload_n hx hb dX7_restore_26 rfl (lv_at hl 0 rfl) ?_
    refine g_get (ci := 7) (v := .ref (mm 1)) (C := RX7) (T := TX7) (N := 12) hx hb hts hinX7 hown hK hP 0 rfl rfl 0 (by decide) (hts (.fieldLink RX7 7 "ChargeStagesModel" "s" "[I") (List.mem_of_getElem? (i := 3) rfl)) rfl dX7_restore_27 ?_
    refine lv_bipush (v := 76) hx hb dX7_restore_30 (by decide) ?_
    refine g_ld (n := 112) (f := R4) (v := R4 76) (k := 76) hx hb hK hP 1 rfl (by decide) (by unfold vp_in; decide) rfl dX7_restore_32 ?_
    subst hR
    exact g_ret hx hb hr hlocks hS dX7_restore_33 rfl hP
  · rw [if_pos c1] at hR
    have hok := hok.1 c1
    refine lv_bipush (v := (-5)) hx hb dX7_restore_7 (by decide) ?_
    subst hR
    exact g_ret hx hb hr hlocks hS dX7_restore_9 rfl hP
def fl_X7_battery_27 (p1 : Int32) (R4 : (Nat → Int32) × (Nat → Int32)) (v6 : Int32) : Nat → Int32 → (Nat → Int32) → Int32 × (Nat → Int32) × (Nat → Int32) × (Nat → Int32)
  | 0, _, _ => ((0 : Int32), (fun _ => 0), (fun _ => 0), (fun _ => 0))
  | n + 1, x27_3, w27_1 => (if 42 ≤ x27_3 then (gL (upd w27_1 71 p1) (fun (z9 : (Nat → Int32)) => (gL (upd z9 73 0) (fun (z10 : (Nat → Int32)) => (v6, R4.1, z10, R4.2))))) else (gL (upd w27_1 ((x27_3).toNatClampNeg) 0) (fun (z11 : (Nat → Int32)) => (gL ((x27_3 + 1)) (fun (v13 : Int32) => (fl_X7_battery_27 p1 R4 v6 n v13 z11))))))
def okl_X7_battery_27  : Nat → Int32 → (Nat → Int32) → Prop
  | 0, _, _ => False
  | n + 1, x27_3, w27_1 => ((42 ≤ x27_3 → True) ∧ (¬ 42 ≤ x27_3 → (vp_in x27_3 112) ∧ (gL (upd w27_1 ((x27_3).toNatClampNeg) 0) (fun (z11 : (Nat → Int32)) => (gL ((x27_3 + 1)) (fun (v13 : Int32) => (okl_X7_battery_27 n v13 z11)))))))
def f_X7_battery (o : (Nat → Int32)) (f : (Nat → Int32)) (fw : (Nat → Int32)) (p1 : Int32) : Int32 × (Nat → Int32) × (Nat → Int32) × (Nat → Int32) := (gL (f_X7_in p1 1 6) (fun (R1 : Int32) => (if R1 = 0 then ((-2), o, f, fw) else (gL (f_X7_records o f fw) (fun (R4 : (Nat → Int32) × (Nat → Int32)) => (gL (f 71) (fun (v6 : Int32) => (fl_X7_battery_27 p1 R4 v6 43 0 f))))))))
def ok_X7_battery (o : (Nat → Int32)) (f : (Nat → Int32)) (fw : (Nat → Int32)) (p1 : Int32) : Prop := (gL (f_X7_in p1 1 6) (fun (R1 : Int32) => ((R1 = 0 → True) ∧ (¬ R1 = 0 → (ok_X7_records o f fw) ∧ (gL (f_X7_records o f fw) (fun (R4 : (Nat → Int32) × (Nat → Int32)) => (gL (f 71) (fun (v6 : Int32) => (okl_X7_battery_27 43 0 f)))))))))
set_option maxHeartbeats 4000000 in
set_option maxRecDepth 100000 in
theorem c_X7_battery (l : Launch) (G : gG) (mm : Nat → Nat) (o : (Nat → Int32)) (f : (Nat → Int32)) (fw : (Nat → Int32)) (p1 : Int32) (R : Int32 × (Nat → Int32) × (Nat → Int32) × (Nat → Int32)) (hR : R = f_X7_battery o f fw p1) (hok : ok_X7_battery o f fw p1) : CT l G yX7_battery wsX7_battery 2 44 [.ref (mm 0), .int p1] [MO G mm o, AW G (mm 1) 112 f, AW G (mm 3) 448 fw] (some (.int R.1)) [MO G mm R.2.1, AW G (mm 1) 112 R.2.2.1, AW G (mm 3) 448 R.2.2.2] := by
  unfold f_X7_battery at hR
  unfold ok_X7_battery at hok
  refine CT.of (cc := cX7_battery) (maxL := 4) (ret := (some .int)) (plainFor_of_name (by decide +kernel)) rfl rfl (Nat.le_of_ble_eq_true rfl) ?_
  intro p e s m below meth c A ls hx hb hml hr hts hown hlocks hK hP hD hA hS hl
  have hown : s.vm.findClass RX7 = some m.cls := hown
  have hl : lv_has ls 4 [(0, .ref (mm 0)), (1, .int p1)] := hl
  have hinX7 : ∀ w ∈ wsX70, w ∈ wsX7_battery := fun w h => List.mem_cons_of_mem _ (List.mem_append_right _ h)
  refine lv_iload_n hx hb dX7_battery_0 rfl (lv_at hl 1 rfl) ?_
  refine lv_iconst (v := 1) hx hb dX7_battery_1 (by decide) ?_
  refine lv_bipush (v := 6) hx hb dX7_battery_2 (by decide) ?_
  obtain ⟨R1, eR1, hR, hok⟩ := g_let2 hR hok
  refine g_callS (c_X7_in l G p1 1 6 R1 eR1) hx hb hml hown hts hK hP hD hS hA gX7_battery_X7_in rfl (n := 3) (by decide +kernel) rfl ⟨Nat.le_of_ble_eq_true rfl, Nat.le_of_ble_eq_true rfl⟩ [] rfl (by decide) hl.1 rfl (Nat.le_of_ble_eq_true rfl) ⟨Nat.zero_le _, Nat.zero_le _⟩ dX7_battery_4 (fun H locs hP hD hS => ?_)
  have hP : va_P G.1 vwCl (List.flatten [MO G mm o, AW G (mm 1) 112 f, AW G (mm 3) 448 fw]) H := hP
  have hD : va_D A (List.flatten [MO G mm o, AW G (mm 1) 112 f, AW G (mm 3) 448 fw]) := hD
  refine lv_if_ne (tgt := 13) hx hb dX7_battery_7 (by decide) (fun c3 => ?_) (fun c3 => ?_)
  · rw [if_neg c3] at hR
    have hok := hok.2 c3
    refine lv_aload_n hx hb dX7_battery_13 rfl (lv_at hl 0 rfl) ?_
    obtain ⟨k5, hok⟩ := hok
    obtain ⟨R4, eR4, hR, hok⟩ := g_let2 hR hok
    refine g_callV (c_X7_records l G mm o f fw R4 eR4 k5) hx hb hml hown hts hK hP hD hS hA gX7_battery_X7_records rfl (n := 0) (by decide +kernel) rfl ⟨Nat.le_of_ble_eq_true rfl, Nat.le_of_ble_eq_true rfl⟩ [0, 1, 2] rfl (by decide) 0 rfl (ci := 7) rfl hl.1 rfl (Nat.le_of_ble_eq_true rfl) ⟨Nat.zero_le _, Nat.zero_le _⟩ dX7_battery_14 (fun H locs hP hD hS => ?_)
    have hP : va_P G.1 vwCl (List.flatten [MO G mm R4.1, AW G (mm 1) 112 f, AW G (mm 3) 448 R4.2]) H := hP
    have hD : va_D A (List.flatten [MO G mm R4.1, AW G (mm 1) 112 f, AW G (mm 3) 448 R4.2]) := hD
    refine lv_aload_n hx hb dX7_battery_17 rfl (lv_at hl 0 rfl) ?_
    refine g_get (ci := 7) (v := .ref (mm 1)) (C := RX7) (T := TX7) (N := 12) hx hb hts hinX7 hown hK hP 0 rfl rfl 0 (by decide) (hts (.fieldLink RX7 7 "ChargeStagesModel" "s" "[I") (List.mem_of_getElem? (i := 1) rfl)) rfl dX7_battery_18 ?_
    refine lv_bipush (v := 71) hx hb dX7_battery_21 (by decide) ?_
    refine g_ld (n := 112) (f := f) (v := f 71) (k := 71) hx hb hK hP 1 rfl (by decide) (by unfold vp_in; decide) rfl dX7_battery_23 ?_
    obtain ⟨v6, ev6, hR, hok⟩ := g_let2 hR hok
    refine g_topE ev6.symm ?_
    refine lv_istore_n (lv' := [(2, .int v6), (0, .ref (mm 0)), (1, .int p1)]) hx hb dX7_battery_24 rfl hl (by decide) rfl (fun ls hl => ?_)
    refine lv_iconst (v := 0) hx hb dX7_battery_25 (by decide) ?_
    refine lv_istore_n (lv' := [(3, .int 0), (2, .int v6), (0, .ref (mm 0)), (1, .int p1)]) hx hb dX7_battery_26 rfl hl (by decide) rfl (fun ls hl => ?_)
    have lp27 : ∀ (n : Nat) (x27_3 : Int32) (w27_1 : (Nat → Int32)) (H : Heap) (locs : List Loc) (ls : Array Slot), R = fl_X7_battery_27 p1 R4 v6 n x27_3 w27_1 → okl_X7_battery_27 n x27_3 w27_1 → va_P G.1 vwCl (List.flatten [MO G mm R4.1, AW G (mm 1) 112 w27_1, AW G (mm 3) 448 R4.2]) H → va_D A (List.flatten [MO G mm R4.1, AW G (mm 1) 112 w27_1, AW G (mm 3) 448 R4.2]) → va_S A s.heap H locs → lv_has ls 4 [(0, .ref (mm 0)), (1, .int p1), (2, .int v6), (3, .int x27_3)] → W p l e { frames := 2, cells := 0, slots := 0, locals := 44 } s m (List.toArray [.ref (mm 0), .int p1]) below meth c H locs 0 0 (gQ G below (List.toArray [.ref (mm 0), .int p1]) s (some (.int R.1)) [MO G mm R.2.1, AW G (mm 1) 112 R.2.2.1, AW G (mm 3) 448 R.2.2.2] A) (F0 m 27 ls []) := by
      intro n
      induction n with
      | zero =>
        intro x27_3 w27_1 H locs ls hR hok hP hD hS hl
        rw [okl_X7_battery_27] at hok
        exact hok.elim
      | succ n ih =>
        intro x27_3 w27_1 H locs ls hR hok hP hD hS hl
        rw [fl_X7_battery_27] at hR
        rw [okl_X7_battery_27] at hok
        refine lv_iload_n hx hb dX7_battery_27 rfl (lv_at hl 3 rfl) ?_
        refine lv_bipush (v := 42) hx hb dX7_battery_28 (by decide) ?_
        refine lv_icmp_ge (tgt := 46) hx hb dX7_battery_30 (by decide) (fun c8 => ?_) (fun c8 => ?_)
        · rw [if_pos c8] at hR
          have hok := hok.1 c8
          refine lv_aload_n hx hb dX7_battery_46 rfl (lv_at hl 0 rfl) ?_
          refine g_get (ci := 7) (v := .ref (mm 1)) (C := RX7) (T := TX7) (N := 12) hx hb hts hinX7 hown hK hP 0 rfl rfl 0 (by decide) (hts (.fieldLink RX7 7 "ChargeStagesModel" "s" "[I") (List.mem_of_getElem? (i := 1) rfl)) rfl dX7_battery_47 ?_
          refine lv_bipush (v := 71) hx hb dX7_battery_50 (by decide) ?_
          refine lv_iload_n hx hb dX7_battery_52 rfl (lv_at hl 1 rfl) ?_
          obtain ⟨z9, ez9, hR⟩ := g_let hR
          refine g_st (n := 112) (f := w27_1) (k := 71) (B2 := [MO G mm R4.1, AW G (mm 1) 112 z9, AW G (mm 3) 448 R4.2]) hx hb hK hP hD hS 1 rfl (by decide) (by unfold vp_in; decide) (by subst ez9; rfl) dX7_battery_53 (fun H locs hP hD hS => ?_)
          refine lv_aload_n hx hb dX7_battery_54 rfl (lv_at hl 0 rfl) ?_
          refine g_get (ci := 7) (v := .ref (mm 1)) (C := RX7) (T := TX7) (N := 12) hx hb hts hinX7 hown hK hP 0 rfl rfl 0 (by decide) (hts (.fieldLink RX7 7 "ChargeStagesModel" "s" "[I") (List.mem_of_getElem? (i := 1) rfl)) rfl dX7_battery_55 ?_
          refine lv_bipush (v := 73) hx hb dX7_battery_58 (by decide) ?_
          refine lv_iconst (v := 0) hx hb dX7_battery_60 (by decide) ?_
          obtain ⟨z10, ez10, hR⟩ := g_let hR
          refine g_st (n := 112) (f := z9) (k := 73) (B2 := [MO G mm R4.1, AW G (mm 1) 112 z10, AW G (mm 3) 448 R4.2]) hx hb hK hP hD hS 1 rfl (by decide) (by unfold vp_in; decide) (by subst ez10; rfl) dX7_battery_61 (fun H locs hP hD hS => ?_)
          refine lv_iload_n hx hb dX7_battery_62 rfl (lv_at hl 2 rfl) ?_
          subst hR
          exact g_ret hx hb hr hlocks hS dX7_battery_63 rfl hP
        · rw [if_neg c8] at hR
          have hok := hok.2 c8
          refine lv_aload_n hx hb dX7_battery_33 rfl (lv_at hl 0 rfl) ?_
          refine g_get (ci := 7) (v := .ref (mm 1)) (C := RX7) (T := TX7) (N := 12) hx hb hts hinX7 hown hK hP 0 rfl rfl 0 (by decide) (hts (.fieldLink RX7 7 "ChargeStagesModel" "s" "[I") (List.mem_of_getElem? (i := 1) rfl)) rfl dX7_battery_34 ?_
          refine lv_iload_n hx hb dX7_battery_37 rfl (lv_at hl 3 rfl) ?_
          refine lv_iconst (v := 0) hx hb dX7_battery_38 (by decide) ?_
          obtain ⟨k12, hok⟩ := hok
          obtain ⟨z11, ez11, hR, hok⟩ := g_let2 hR hok
          refine g_st (n := 112) (f := w27_1) (k := ((x27_3).toNatClampNeg)) (B2 := [MO G mm R4.1, AW G (mm 1) 112 z11, AW G (mm 3) 448 R4.2]) hx hb hK hP hD hS 1 rfl rfl k12 (by subst ez11; rfl) dX7_battery_39 (fun H locs hP hD hS => ?_)
          obtain ⟨v13, ev13, hR, hok⟩ := g_let2 hR hok
          refine lv_iinc (v := v13) (lv' := [(3, .int v13), (0, .ref (mm 0)), (1, .int p1), (2, .int v6)]) hx hb dX7_battery_40 hl (k := 3) rfl (by subst ev13; rfl) (by decide) rfl (fun ls hl => ?_)
          refine lv_goto (tgt := 27) hx hb dX7_battery_43 (by decide) ?_
          exact ih v13 z11 _ _ _ hR hok hP hD hS (lv_sub hl [1, 2, 3, 0] rfl)
    exact lp27 43 0 f _ _ _ hR hok hP hD hS (lv_sub hl [2, 3, 1, 0] rfl)
  · rw [if_pos c3] at hR
    have hok := hok.1 c3
    refine lv_bipush (v := (-2)) hx hb dX7_battery_10 (by decide) ?_
    subst hR
    exact g_ret hx hb hr hlocks hS dX7_battery_12 rfl hP
def f_X7_setCharge (o : (Nat → Int32)) (f : (Nat → Int32)) (fw : (Nat → Int32)) (p1 : Int32) (p2 : Int32) : Int32 × (Nat → Int32) × (Nat → Int32) × (Nat → Int32) := (gL (f_X7_isCell f p1) (fun (R1 : Int32) => (if R1 = 0 then ((-1), o, f, fw) else (gL (f_X7_in p2 0 (f 42)) (fun (R4 : Int32) => (if R4 = 0 then ((-2), o, f, fw) else (gL (f_X7_of f p1 0) (fun (R7 : Int32) => (if R7 = p2 then (gL (f_X7_of f p1 1) (fun (R16 : Int32) => (if R16 = 0 then ((-5), o, f, fw) else (gL (f_X7_records o f fw) (fun (R19 : (Nat → Int32) × (Nat → Int32)) => (gL (upd f (((7 * p1) + 0).toNatClampNeg) p2) (fun (z21 : (Nat → Int32)) => (gL (upd z21 (((7 * p1) + 1).toNatClampNeg) 0) (fun (z23 : (Nat → Int32)) => (R7, R19.1, z23, R19.2)))))))))) else (gL (f_X7_records o f fw) (fun (R10 : (Nat → Int32) × (Nat → Int32)) => (gL (upd f (((7 * p1) + 0).toNatClampNeg) p2) (fun (z12 : (Nat → Int32)) => (gL (upd z12 (((7 * p1) + 1).toNatClampNeg) 0) (fun (z14 : (Nat → Int32)) => (R7, R10.1, z14, R10.2))))))))))))))))
def ok_X7_setCharge (o : (Nat → Int32)) (f : (Nat → Int32)) (fw : (Nat → Int32)) (p1 : Int32) (p2 : Int32) : Prop := (ok_X7_isCell f p1) ∧ (gL (f_X7_isCell f p1) (fun (R1 : Int32) => ((R1 = 0 → True) ∧ (¬ R1 = 0 → (gL (f_X7_in p2 0 (f 42)) (fun (R4 : Int32) => ((R4 = 0 → True) ∧ (¬ R4 = 0 → (ok_X7_of p1 0) ∧ (gL (f_X7_of f p1 0) (fun (R7 : Int32) => ((R7 = p2 → (ok_X7_of p1 1) ∧ (gL (f_X7_of f p1 1) (fun (R16 : Int32) => ((R16 = 0 → True) ∧ (¬ R16 = 0 → (ok_X7_records o f fw) ∧ (gL (f_X7_records o f fw) (fun (R19 : (Nat → Int32) × (Nat → Int32)) => (vp_in ((7 * p1) + 0) 112) ∧ (gL (upd f (((7 * p1) + 0).toNatClampNeg) p2) (fun (z21 : (Nat → Int32)) => (vp_in ((7 * p1) + 1) 112) ∧ True))))))))) ∧ (¬ R7 = p2 → (ok_X7_records o f fw) ∧ (gL (f_X7_records o f fw) (fun (R10 : (Nat → Int32) × (Nat → Int32)) => (vp_in ((7 * p1) + 0) 112) ∧ (gL (upd f (((7 * p1) + 0).toNatClampNeg) p2) (fun (z12 : (Nat → Int32)) => (vp_in ((7 * p1) + 1) 112) ∧ True))))))))))))))))
set_option maxHeartbeats 4000000 in
set_option maxRecDepth 100000 in
theorem c_X7_setCharge (l : Launch) (G : gG) (mm : Nat → Nat) (o : (Nat → Int32)) (f : (Nat → Int32)) (fw : (Nat → Int32)) (p1 : Int32) (p2 : Int32) (R : Int32 × (Nat → Int32) × (Nat → Int32) × (Nat → Int32)) (hR : R = f_X7_setCharge o f fw p1 p2) (hok : ok_X7_setCharge o f fw p1 p2) : CT l G yX7_setCharge wsX7_setCharge 2 44 [.ref (mm 0), .int p1, .int p2] [MO G mm o, AW G (mm 1) 112 f, AW G (mm 3) 448 fw] (some (.int R.1)) [MO G mm R.2.1, AW G (mm 1) 112 R.2.2.1, AW G (mm 3) 448 R.2.2.2] := by
  unfold f_X7_setCharge at hR
  unfold ok_X7_setCharge at hok
  refine CT.of (cc := cX7_setCharge) (maxL := 4) (ret := (some .int)) (plainFor_of_name (by decide +kernel)) rfl rfl (Nat.le_of_ble_eq_true rfl) ?_
  intro p e s m below meth c A ls hx hb hml hr hts hown hlocks hK hP hD hA hS hl
  have hown : s.vm.findClass RX7 = some m.cls := hown
  have hl : lv_has ls 4 [(0, .ref (mm 0)), (1, .int p1), (2, .int p2)] := hl
  have hinX7 : ∀ w ∈ wsX70, w ∈ wsX7_setCharge := fun w h => List.mem_cons_of_mem _ (List.mem_append_right _ h)
  refine lv_aload_n hx hb dX7_setCharge_0 rfl (lv_at hl 0 rfl) ?_
  refine lv_iload_n hx hb dX7_setCharge_1 rfl (lv_at hl 1 rfl) ?_
  obtain ⟨k2, hok⟩ := hok
  obtain ⟨R1, eR1, hR, hok⟩ := g_let2 hR hok
  refine g_callV (c_X7_isCell l G mm o f p1 R1 eR1 k2) hx hb hml hown hts hK hP hD hS hA gX7_setCharge_X7_isCell rfl (n := 1) (by decide +kernel) rfl ⟨Nat.le_of_ble_eq_true rfl, Nat.le_of_ble_eq_true rfl⟩ [0, 1] rfl (by decide) 0 rfl (ci := 7) rfl hl.1 rfl (Nat.le_of_ble_eq_true rfl) ⟨Nat.zero_le _, Nat.zero_le _⟩ dX7_setCharge_2 (fun H locs hP hD hS => ?_)
  have hP : va_P G.1 vwCl (List.flatten [MO G mm o, AW G (mm 1) 112 f, AW G (mm 3) 448 fw]) H := hP
  have hD : va_D A (List.flatten [MO G mm o, AW G (mm 1) 112 f, AW G (mm 3) 448 fw]) := hD
  refine lv_if_ne (tgt := 10) hx hb dX7_setCharge_5 (by decide) (fun c3 => ?_) (fun c3 => ?_)
  · rw [if_neg c3] at hR
    have hok := hok.2 c3
    refine lv_iload_n hx hb dX7_setCharge_10 rfl (lv_at hl 2 rfl) ?_
    refine lv_iconst (v := 0) hx hb dX7_setCharge_11 (by decide) ?_
    refine lv_aload_n hx hb dX7_setCharge_12 rfl (lv_at hl 0 rfl) ?_
    refine g_get (ci := 7) (v := .ref (mm 1)) (C := RX7) (T := TX7) (N := 12) hx hb hts hinX7 hown hK hP 0 rfl rfl 0 (by decide) (hts (.fieldLink RX7 7 "ChargeStagesModel" "s" "[I") (List.mem_of_getElem? (i := 1) rfl)) rfl dX7_setCharge_13 ?_
    refine lv_bipush (v := 42) hx hb dX7_setCharge_16 (by decide) ?_
    refine g_ld (n := 112) (f := f) (v := f 42) (k := 42) hx hb hK hP 1 rfl (by decide) (by unfold vp_in; decide) rfl dX7_setCharge_18 ?_
    obtain ⟨R4, eR4, hR, hok⟩ := g_let2 hR hok
    refine g_callS (c_X7_in l G p2 0 (f 42) R4 eR4) hx hb hml hown hts hK hP hD hS hA gX7_setCharge_X7_in rfl (n := 3) (by decide +kernel) rfl ⟨Nat.le_of_ble_eq_true rfl, Nat.le_of_ble_eq_true rfl⟩ [] rfl (by decide) hl.1 rfl (Nat.le_of_ble_eq_true rfl) ⟨Nat.zero_le _, Nat.zero_le _⟩ dX7_setCharge_19 (fun H locs hP hD hS => ?_)
    have hP : va_P G.1 vwCl (List.flatten [MO G mm o, AW G (mm 1) 112 f, AW G (mm 3) 448 fw]) H := hP
    have hD : va_D A (List.flatten [MO G mm o, AW G (mm 1) 112 f, AW G (mm 3) 448 fw]) := hD
    refine lv_if_ne (tgt := 28) hx hb dX7_setCharge_22 (by decide) (fun c6 => ?_) (fun c6 => ?_)
    · rw [if_neg c6] at hR
      have hok := hok.2 c6
      refine lv_aload_n hx hb dX7_setCharge_28 rfl (lv_at hl 0 rfl) ?_
      refine g_get (ci := 7) (v := .ref (mm 1)) (C := RX7) (T := TX7) (N := 12) hx hb hts hinX7 hown hK hP 0 rfl rfl 0 (by decide) (hts (.fieldLink RX7 7 "ChargeStagesModel" "s" "[I") (List.mem_of_getElem? (i := 1) rfl)) rfl dX7_setCharge_29 ?_
      refine lv_iload_n hx hb dX7_setCharge_32 rfl (lv_at hl 1 rfl) ?_
      refine lv_iconst (v := 0) hx hb dX7_setCharge_33 (by decide) ?_
      obtain ⟨k8, hok⟩ := hok
      obtain ⟨R7, eR7, hR, hok⟩ := g_let2 hR hok
      refine g_callS (c_X7_of l G (mm 1) f p1 0 R7 eR7 k8) hx hb hml hown hts hK hP hD hS hA gX7_setCharge_X7_of rfl (n := 3) (by decide +kernel) rfl ⟨Nat.le_of_ble_eq_true rfl, Nat.le_of_ble_eq_true rfl⟩ [1] rfl (by decide) hl.1 rfl (Nat.le_of_ble_eq_true rfl) ⟨Nat.zero_le _, Nat.zero_le _⟩ dX7_setCharge_34 (fun H locs hP hD hS => ?_)
      have hP : va_P G.1 vwCl (List.flatten [MO G mm o, AW G (mm 1) 112 f, AW G (mm 3) 448 fw]) H := hP
      have hD : va_D A (List.flatten [MO G mm o, AW G (mm 1) 112 f, AW G (mm 3) 448 fw]) := hD
      refine lv_istore_n (lv' := [(3, .int R7), (0, .ref (mm 0)), (1, .int p1), (2, .int p2)]) hx hb dX7_setCharge_37 rfl hl (by decide) rfl (fun ls hl => ?_)
      refine lv_iload_n hx hb dX7_setCharge_38 rfl (lv_at hl 0 rfl) ?_
      refine lv_iload_n hx hb dX7_setCharge_39 rfl (lv_at hl 3 rfl) ?_
      refine lv_icmp_ne (tgt := 58) hx hb dX7_setCharge_40 (by decide) (fun c9 => ?_) (fun c9 => ?_)
      · rw [if_neg c9] at hR
        have hok := hok.2 c9
        refine lv_aload_n hx hb dX7_setCharge_58 rfl (lv_at hl 1 rfl) ?_
        obtain ⟨k11, hok⟩ := hok
        obtain ⟨R10, eR10, hR, hok⟩ := g_let2 hR hok
        refine g_callV (c_X7_records l G mm o f fw R10 eR10 k11) hx hb hml hown hts hK hP hD hS hA gX7_setCharge_X7_records rfl (n := 0) (by decide +kernel) rfl ⟨Nat.le_of_ble_eq_true rfl, Nat.le_of_ble_eq_true rfl⟩ [0, 1, 2] rfl (by decide) 0 rfl (ci := 7) rfl hl.1 rfl (Nat.le_of_ble_eq_true rfl) ⟨Nat.zero_le _, Nat.zero_le _⟩ dX7_setCharge_59 (fun H locs hP hD hS => ?_)
        have hP : va_P G.1 vwCl (List.flatten [MO G mm R10.1, AW G (mm 1) 112 f, AW G (mm 3) 448 R10.2]) H := hP
        have hD : va_D A (List.flatten [MO G mm R10.1, AW G (mm 1) 112 f, AW G (mm 3) 448 R10.2]) := hD
        refine lv_aload_n hx hb dX7_setCharge_62 rfl (lv_at hl 1 rfl) ?_
        refine g_get (ci := 7) (v := .ref (mm 1)) (C := RX7) (T := TX7) (N := 12) hx hb hts hinX7 hown hK hP 0 rfl rfl 0 (by decide) (hts (.fieldLink RX7 7 "ChargeStagesModel" "s" "[I") (List.mem_of_getElem? (i := 1) rfl)) rfl dX7_setCharge_63 ?_
        refine lv_bipush (v := 7) hx hb dX7_setCharge_66 (by decide) ?_
        refine lv_iload_n hx hb dX7_setCharge_68 rfl (lv_at hl 2 rfl) ?_
        refine lv_imul hx hb dX7_setCharge_69 ?_
        refine lv_iconst (v := 0) hx hb dX7_setCharge_70 (by decide) ?_
        refine lv_iadd hx hb dX7_setCharge_71 ?_
        refine lv_iload_n hx hb dX7_setCharge_72 rfl (lv_at hl 3 rfl) ?_
        obtain ⟨k13, hok⟩ := hok
        obtain ⟨z12, ez12, hR, hok⟩ := g_let2 hR hok
        refine g_st (n := 112) (f := f) (k := (((7 * p1) + 0).toNatClampNeg)) (B2 := [MO G mm R10.1, AW G (mm 1) 112 z12, AW G (mm 3) 448 R10.2]) hx hb hK hP hD hS 1 rfl rfl k13 (by subst ez12; rfl) dX7_setCharge_73 (fun H locs hP hD hS => ?_)
        refine lv_aload_n hx hb dX7_setCharge_74 rfl (lv_at hl 1 rfl) ?_
        refine g_get (ci := 7) (v := .ref (mm 1)) (C := RX7) (T := TX7) (N := 12) hx hb hts hinX7 hown hK hP 0 rfl rfl 0 (by decide) (hts (.fieldLink RX7 7 "ChargeStagesModel" "s" "[I") (List.mem_of_getElem? (i := 1) rfl)) rfl dX7_setCharge_75 ?_
        refine lv_bipush (v := 7) hx hb dX7_setCharge_78 (by decide) ?_
        refine lv_iload_n hx hb dX7_setCharge_80 rfl (lv_at hl 2 rfl) ?_
        refine lv_imul hx hb dX7_setCharge_81 ?_
        refine lv_iconst (v := 1) hx hb dX7_setCharge_82 (by decide) ?_
        refine lv_iadd hx hb dX7_setCharge_83 ?_
        refine lv_iconst (v := 0) hx hb dX7_setCharge_84 (by decide) ?_
        obtain ⟨k15, hok⟩ := hok
        obtain ⟨z14, ez14, hR⟩ := g_let hR
        refine g_st (n := 112) (f := z12) (k := (((7 * p1) + 1).toNatClampNeg)) (B2 := [MO G mm R10.1, AW G (mm 1) 112 z14, AW G (mm 3) 448 R10.2]) hx hb hK hP hD hS 1 rfl rfl k15 (by subst ez14; rfl) dX7_setCharge_85 (fun H locs hP hD hS => ?_)
        refine lv_iload_n hx hb dX7_setCharge_86 rfl (lv_at hl 0 rfl) ?_
        subst hR
        exact g_ret hx hb hr hlocks hS dX7_setCharge_87 rfl hP
      · rw [if_pos c9] at hR
        have hok := hok.1 c9
        refine lv_aload_n hx hb dX7_setCharge_43 rfl (lv_at hl 1 rfl) ?_
        refine g_get (ci := 7) (v := .ref (mm 1)) (C := RX7) (T := TX7) (N := 12) hx hb hts hinX7 hown hK hP 0 rfl rfl 0 (by decide) (hts (.fieldLink RX7 7 "ChargeStagesModel" "s" "[I") (List.mem_of_getElem? (i := 1) rfl)) rfl dX7_setCharge_44 ?_
        refine lv_iload_n hx hb dX7_setCharge_47 rfl (lv_at hl 2 rfl) ?_
        refine lv_iconst (v := 1) hx hb dX7_setCharge_48 (by decide) ?_
        obtain ⟨k17, hok⟩ := hok
        obtain ⟨R16, eR16, hR, hok⟩ := g_let2 hR hok
        refine g_callS (c_X7_of l G (mm 1) f p1 1 R16 eR16 k17) hx hb hml hown hts hK hP hD hS hA gX7_setCharge_X7_of rfl (n := 3) (by decide +kernel) rfl ⟨Nat.le_of_ble_eq_true rfl, Nat.le_of_ble_eq_true rfl⟩ [1] rfl (by decide) hl.1 rfl (Nat.le_of_ble_eq_true rfl) ⟨Nat.zero_le _, Nat.zero_le _⟩ dX7_setCharge_49 (fun H locs hP hD hS => ?_)
        have hP : va_P G.1 vwCl (List.flatten [MO G mm o, AW G (mm 1) 112 f, AW G (mm 3) 448 fw]) H := hP
        have hD : va_D A (List.flatten [MO G mm o, AW G (mm 1) 112 f, AW G (mm 3) 448 fw]) := hD
        refine lv_if_ne (tgt := 58) hx hb dX7_setCharge_52 (by decide) (fun c18 => ?_) (fun c18 => ?_)
        · rw [if_neg c18] at hR
          have hok := hok.2 c18
          refine lv_aload_n hx hb dX7_setCharge_58 rfl (lv_at hl 1 rfl) ?_
          obtain ⟨k20, hok⟩ := hok
          obtain ⟨R19, eR19, hR, hok⟩ := g_let2 hR hok
          refine g_callV (c_X7_records l G mm o f fw R19 eR19 k20) hx hb hml hown hts hK hP hD hS hA gX7_setCharge_X7_records rfl (n := 0) (by decide +kernel) rfl ⟨Nat.le_of_ble_eq_true rfl, Nat.le_of_ble_eq_true rfl⟩ [0, 1, 2] rfl (by decide) 0 rfl (ci := 7) rfl hl.1 rfl (Nat.le_of_ble_eq_true rfl) ⟨Nat.zero_le _, Nat.zero_le _⟩ dX7_setCharge_59 (fun H locs hP hD hS => ?_)
          have hP : va_P G.1 vwCl (List.flatten [MO G mm R19.1, AW G (mm 1) 112 f, AW G (mm 3) 448 R19.2]) H := hP
          have hD : va_D A (List.flatten [MO G mm R19.1, AW G (mm 1) 112 f, AW G (mm 3) 448 R19.2]) := hD
          refine lv_aload_n hx hb dX7_setCharge_62 rfl (lv_at hl 1 rfl) ?_
          refine g_get (ci := 7) (v := .ref (mm 1)) (C := RX7) (T := TX7) (N := 12) hx hb hts hinX7 hown hK hP 0 rfl rfl 0 (by decide) (hts (.fieldLink RX7 7 "ChargeStagesModel" "s" "[I") (List.mem_of_getElem? (i := 1) rfl)) rfl dX7_setCharge_63 ?_
          refine lv_bipush (v := 7) hx hb dX7_setCharge_66 (by decide) ?_
          refine lv_iload_n hx hb dX7_setCharge_68 rfl (lv_at hl 2 rfl) ?_
          refine lv_imul hx hb dX7_setCharge_69 ?_
          refine lv_iconst (v := 0) hx hb dX7_setCharge_70 (by decide) ?_
          refine lv_iadd hx hb dX7_setCharge_71 ?_
          refine lv_iload_n hx hb dX7_setCharge_72 rfl (lv_at hl 3 rfl) ?_
          obtain ⟨k22, hok⟩ := hok
          obtain ⟨z21, ez21, hR, hok⟩ := g_let2 hR hok
          refine g_st (n := 112) (f := f) (k := (((7 * p1) + 0).toNatClampNeg)) (B2 := [MO G mm R19.1, AW G (mm 1) 112 z21, AW G (mm 3) 448 R19.2]) hx hb hK hP hD hS 1 rfl rfl k22 (by subst ez21; rfl) dX7_setCharge_73 (fun H locs hP hD hS => ?_)
          refine lv_aload_n hx hb dX7_setCharge_74 rfl (lv_at hl 1 rfl) ?_
          refine g_get (ci := 7) (v := .ref (mm 1)) (C := RX7) (T := TX7) (N := 12) hx hb hts hinX7 hown hK hP 0 rfl rfl 0 (by decide) (hts (.fieldLink RX7 7 "ChargeStagesModel" "s" "[I") (List.mem_of_getElem? (i := 1) rfl)) rfl dX7_setCharge_75 ?_
          refine lv_bipush (v := 7) hx hb dX7_setCharge_78 (by decide) ?_
          refine lv_iload_n hx hb dX7_setCharge_80 rfl (lv_at hl 2 rfl) ?_
          refine lv_imul hx hb dX7_setCharge_81 ?_
          refine lv_iconst (v := 1) hx hb dX7_setCharge_82 (by decide) ?_
          refine lv_iadd hx hb dX7_setCharge_83 ?_
          refine lv_iconst (v := 0) hx hb dX7_setCharge_84 (by decide) ?_
          obtain ⟨k24, hok⟩ := hok
          obtain ⟨z23, ez23, hR⟩ := g_let hR
          refine g_st (n := 112) (f := z21) (k := (((7 * p1) + 1).toNatClampNeg)) (B2 := [MO G mm R19.1, AW G (mm 1) 112 z23, AW G (mm 3) 448 R19.2]) hx hb hK hP hD hS 1 rfl rfl k24 (by subst ez23; rfl) dX7_setCharge_85 (fun H locs hP hD hS => ?_)
          refine lv_iload_n hx hb dX7_setCharge_86 rfl (lv_at hl 0 rfl) ?_
          subst hR
          exact g_ret hx hb hr hlocks hS dX7_setCharge_87 rfl hP
        · rw [if_pos c18] at hR
          have hok := hok.1 c18
          refine lv_bipush (v := (-5)) hx hb dX7_setCharge_55 (by decide) ?_
          subst hR
          exact g_ret hx hb hr hlocks hS dX7_setCharge_57 rfl hP
    · rw [if_pos c6] at hR
      have hok := hok.1 c6
      refine lv_bipush (v := (-2)) hx hb dX7_setCharge_25 (by decide) ?_
      subst hR
      exact g_ret hx hb hr hlocks hS dX7_setCharge_27 rfl hP
  · rw [if_pos c3] at hR
    have hok := hok.1 c3
    refine lv_iconst (v := (-1)) hx hb dX7_setCharge_8 (by decide) ?_
    subst hR
    exact g_ret hx hb hr hlocks hS dX7_setCharge_9 rfl hP
def fl_X7_use_46 (p1 : Int32) (R8 : (Nat → Int32) × (Nat → Int32)) : Nat → Int32 → (Nat → Int32) → Int32 × (Nat → Int32) × (Nat → Int32) × (Nat → Int32)
  | 0, _, _ => ((0 : Int32), (fun _ => 0), (fun _ => 0), (fun _ => 0))
  | n + 1, x46_2, w46_1 => (if (w46_1 71) ≤ x46_2 then (gL (f_X7_charged w46_1 0) (fun (R16 : Int32) => (R16, R8.1, w46_1, R8.2))) else (gL (upd w46_1 (((7 * x46_2) + 0).toNatClampNeg) ((w46_1 (((7 * x46_2) + 0).toNatClampNeg)) - p1)) (fun (z19 : (Nat → Int32)) => (gL (upd z19 (((7 * x46_2) + 6).toNatClampNeg) ((z19 (((7 * x46_2) + 6).toNatClampNeg)) + p1)) (fun (z22 : (Nat → Int32)) => (gL ((x46_2 + 1)) (fun (v24 : Int32) => (fl_X7_use_46 p1 R8 n v24 z22))))))))
def okl_X7_use_46 (p1 : Int32) : Nat → Int32 → (Nat → Int32) → Prop
  | 0, _, _ => False
  | n + 1, x46_2, w46_1 => (((w46_1 71) ≤ x46_2 → (ok_X7_charged w46_1 0) ∧ True) ∧ (¬ (w46_1 71) ≤ x46_2 → (vp_in ((7 * x46_2) + 0) 112) ∧ (vp_in ((7 * x46_2) + 0) 112) ∧ (gL (upd w46_1 (((7 * x46_2) + 0).toNatClampNeg) ((w46_1 (((7 * x46_2) + 0).toNatClampNeg)) - p1)) (fun (z19 : (Nat → Int32)) => (vp_in ((7 * x46_2) + 6) 112) ∧ (vp_in ((7 * x46_2) + 6) 112) ∧ (gL (upd z19 (((7 * x46_2) + 6).toNatClampNeg) ((z19 (((7 * x46_2) + 6).toNatClampNeg)) + p1)) (fun (z22 : (Nat → Int32)) => (gL ((x46_2 + 1)) (fun (v24 : Int32) => (okl_X7_use_46 p1 n v24 z22)))))))))
def f_X7_use (o : (Nat → Int32)) (f : (Nat → Int32)) (fw : (Nat → Int32)) (p1 : Int32) : Int32 × (Nat → Int32) × (Nat → Int32) × (Nat → Int32) := (gL (f_X7_in p1 1 5000) (fun (R1 : Int32) => (if R1 = 0 then ((-2), o, f, fw) else (if (f 73) = 1 then ((-4), o, f, fw) else (gL (f_X7_charged f 0) (fun (R5 : Int32) => (if p1 ≤ R5 then (gL (f_X7_records o f fw) (fun (R8 : (Nat → Int32) × (Nat → Int32)) => (fl_X7_use_46 p1 R8 7 0 f))) else ((-4), o, f, fw))))))))
def ok_X7_use (o : (Nat → Int32)) (f : (Nat → Int32)) (fw : (Nat → Int32)) (p1 : Int32) : Prop := (gL (f_X7_in p1 1 5000) (fun (R1 : Int32) => ((R1 = 0 → True) ∧ (¬ R1 = 0 → (((f 73) = 1 → True) ∧ (¬ (f 73) = 1 → (ok_X7_charged f 0) ∧ (gL (f_X7_charged f 0) (fun (R5 : Int32) => ((p1 ≤ R5 → (ok_X7_records o f fw) ∧ (gL (f_X7_records o f fw) (fun (R8 : (Nat → Int32) × (Nat → Int32)) => (okl_X7_use_46 p1 7 0 f)))) ∧ (¬ p1 ≤ R5 → True))))))))))
set_option maxHeartbeats 4000000 in
set_option maxRecDepth 100000 in
theorem c_X7_use (l : Launch) (G : gG) (mm : Nat → Nat) (o : (Nat → Int32)) (f : (Nat → Int32)) (fw : (Nat → Int32)) (p1 : Int32) (R : Int32 × (Nat → Int32) × (Nat → Int32) × (Nat → Int32)) (hR : R = f_X7_use o f fw p1) (hok : ok_X7_use o f fw p1) : CT l G yX7_use wsX7_use 2 46 [.ref (mm 0), .int p1] [MO G mm o, AW G (mm 1) 112 f, AW G (mm 3) 448 fw] (some (.int R.1)) [MO G mm R.2.1, AW G (mm 1) 112 R.2.2.1, AW G (mm 3) 448 R.2.2.2] := by
  unfold f_X7_use at hR
  unfold ok_X7_use at hok
  refine CT.of (cc := cX7_use) (maxL := 3) (ret := (some .int)) (plainFor_of_name (by decide +kernel)) rfl rfl (Nat.le_of_ble_eq_true rfl) ?_
  intro p e s m below meth c A ls hx hb hml hr hts hown hlocks hK hP hD hA hS hl
  have hown : s.vm.findClass RX7 = some m.cls := hown
  have hl : lv_has ls 3 [(0, .ref (mm 0)), (1, .int p1)] := hl
  have hinX7 : ∀ w ∈ wsX70, w ∈ wsX7_use := fun w h => List.mem_cons_of_mem _ (List.mem_append_right _ h)
  refine lv_iload_n hx hb dX7_use_0 rfl (lv_at hl 1 rfl) ?_
  refine lv_iconst (v := 1) hx hb dX7_use_1 (by decide) ?_
  refine lv_sipush (v := 5000) hx hb dX7_use_2 (by decide) ?_
  obtain ⟨R1, eR1, hR, hok⟩ := g_let2 hR hok
  refine g_callS (c_X7_in l G p1 1 5000 R1 eR1) hx hb hml hown hts hK hP hD hS hA gX7_use_X7_in rfl (n := 3) (by decide +kernel) rfl ⟨Nat.le_of_ble_eq_true rfl, Nat.le_of_ble_eq_true rfl⟩ [] rfl (by decide) hl.1 rfl (Nat.le_of_ble_eq_true rfl) ⟨Nat.zero_le _, Nat.zero_le _⟩ dX7_use_5 (fun H locs hP hD hS => ?_)
  have hP : va_P G.1 vwCl (List.flatten [MO G mm o, AW G (mm 1) 112 f, AW G (mm 3) 448 fw]) H := hP
  have hD : va_D A (List.flatten [MO G mm o, AW G (mm 1) 112 f, AW G (mm 3) 448 fw]) := hD
  refine lv_if_ne (tgt := 14) hx hb dX7_use_8 (by decide) (fun c3 => ?_) (fun c3 => ?_)
  · rw [if_neg c3] at hR
    have hok := hok.2 c3
    refine lv_aload_n hx hb dX7_use_14 rfl (lv_at hl 0 rfl) ?_
    refine g_get (ci := 7) (v := .ref (mm 1)) (C := RX7) (T := TX7) (N := 12) hx hb hts hinX7 hown hK hP 0 rfl rfl 0 (by decide) (hts (.fieldLink RX7 7 "ChargeStagesModel" "s" "[I") (List.mem_of_getElem? (i := 1) rfl)) rfl dX7_use_15 ?_
    refine lv_bipush (v := 73) hx hb dX7_use_18 (by decide) ?_
    refine g_ld (n := 112) (f := f) (v := f 73) (k := 73) hx hb hK hP 1 rfl (by decide) (by unfold vp_in; decide) rfl dX7_use_20 ?_
    refine lv_iconst (v := 1) hx hb dX7_use_21 (by decide) ?_
    refine lv_icmp_eq (tgt := 37) hx hb dX7_use_22 (by decide) (fun c4 => ?_) (fun c4 => ?_)
    · rw [if_pos c4] at hR
      have hok := hok.1 c4
      refine lv_bipush (v := (-4)) hx hb dX7_use_37 (by decide) ?_
      subst hR
      exact g_ret hx hb hr hlocks hS dX7_use_39 rfl hP
    · rw [if_neg c4] at hR
      have hok := hok.2 c4
      refine lv_aload_n hx hb dX7_use_25 rfl (lv_at hl 0 rfl) ?_
      refine g_get (ci := 7) (v := .ref (mm 1)) (C := RX7) (T := TX7) (N := 12) hx hb hts hinX7 hown hK hP 0 rfl rfl 0 (by decide) (hts (.fieldLink RX7 7 "ChargeStagesModel" "s" "[I") (List.mem_of_getElem? (i := 1) rfl)) rfl dX7_use_26 ?_
      refine lv_iconst (v := 0) hx hb dX7_use_29 (by decide) ?_
      obtain ⟨k6, hok⟩ := hok
      obtain ⟨R5, eR5, hR, hok⟩ := g_let2 hR hok
      refine g_callS (c_X7_charged l G (mm 1) f 0 R5 eR5 k6) hx hb hml hown hts hK hP hD hS hA gX7_use_X7_charged rfl (n := 2) (by decide +kernel) rfl ⟨Nat.le_of_ble_eq_true rfl, Nat.le_of_ble_eq_true rfl⟩ [1] rfl (by decide) hl.1 rfl (Nat.le_of_ble_eq_true rfl) ⟨Nat.zero_le _, Nat.zero_le _⟩ dX7_use_30 (fun H locs hP hD hS => ?_)
      have hP : va_P G.1 vwCl (List.flatten [MO G mm o, AW G (mm 1) 112 f, AW G (mm 3) 448 fw]) H := hP
      have hD : va_D A (List.flatten [MO G mm o, AW G (mm 1) 112 f, AW G (mm 3) 448 fw]) := hD
      refine lv_iload_n hx hb dX7_use_33 rfl (lv_at hl 1 rfl) ?_
      refine lv_icmp_ge (tgt := 40) hx hb dX7_use_34 (by decide) (fun c7 => ?_) (fun c7 => ?_)
      · rw [if_pos c7] at hR
        have hok := hok.1 c7
        refine lv_aload_n hx hb dX7_use_40 rfl (lv_at hl 0 rfl) ?_
        obtain ⟨k9, hok⟩ := hok
        obtain ⟨R8, eR8, hR, hok⟩ := g_let2 hR hok
        refine g_callV (c_X7_records l G mm o f fw R8 eR8 k9) hx hb hml hown hts hK hP hD hS hA gX7_use_X7_records rfl (n := 0) (by decide +kernel) rfl ⟨Nat.le_of_ble_eq_true rfl, Nat.le_of_ble_eq_true rfl⟩ [0, 1, 2] rfl (by decide) 0 rfl (ci := 7) rfl hl.1 rfl (Nat.le_of_ble_eq_true rfl) ⟨Nat.zero_le _, Nat.zero_le _⟩ dX7_use_41 (fun H locs hP hD hS => ?_)
        have hP : va_P G.1 vwCl (List.flatten [MO G mm R8.1, AW G (mm 1) 112 f, AW G (mm 3) 448 R8.2]) H := hP
        have hD : va_D A (List.flatten [MO G mm R8.1, AW G (mm 1) 112 f, AW G (mm 3) 448 R8.2]) := hD
        refine lv_iconst (v := 0) hx hb dX7_use_44 (by decide) ?_
        refine lv_istore_n (lv' := [(2, .int 0), (0, .ref (mm 0)), (1, .int p1)]) hx hb dX7_use_45 rfl hl (by decide) rfl (fun ls hl => ?_)
        have lp46 : ∀ (n : Nat) (x46_2 : Int32) (w46_1 : (Nat → Int32)) (H : Heap) (locs : List Loc) (ls : Array Slot), R = fl_X7_use_46 p1 R8 n x46_2 w46_1 → okl_X7_use_46 p1 n x46_2 w46_1 → va_P G.1 vwCl (List.flatten [MO G mm R8.1, AW G (mm 1) 112 w46_1, AW G (mm 3) 448 R8.2]) H → va_D A (List.flatten [MO G mm R8.1, AW G (mm 1) 112 w46_1, AW G (mm 3) 448 R8.2]) → va_S A s.heap H locs → lv_has ls 3 [(0, .ref (mm 0)), (1, .int p1), (2, .int x46_2)] → W p l e { frames := 2, cells := 0, slots := 0, locals := 46 } s m (List.toArray [.ref (mm 0), .int p1]) below meth c H locs 0 0 (gQ G below (List.toArray [.ref (mm 0), .int p1]) s (some (.int R.1)) [MO G mm R.2.1, AW G (mm 1) 112 R.2.2.1, AW G (mm 3) 448 R.2.2.2] A) (F0 m 46 ls []) := by
          intro n
          induction n with
          | zero =>
            intro x46_2 w46_1 H locs ls hR hok hP hD hS hl
            rw [okl_X7_use_46] at hok
            exact hok.elim
          | succ n ih =>
            intro x46_2 w46_1 H locs ls hR hok hP hD hS hl
            rw [fl_X7_use_46] at hR
            rw [okl_X7_use_46] at hok
            refine lv_iload_n hx hb dX7_use_46 rfl (lv_at hl 2 rfl) ?_
            refine lv_aload_n hx hb dX7_use_47 rfl (lv_at hl 0 rfl) ?_
            refine g_get (ci := 7) (v := .ref (mm 1)) (C := RX7) (T := TX7) (N := 12) hx hb hts hinX7 hown hK hP 0 rfl rfl 0 (by decide) (hts (.fieldLink RX7 7 "ChargeStagesModel" "s" "[I") (List.mem_of_getElem? (i := 1) rfl)) rfl dX7_use_48 ?_
            refine lv_bipush (v := 71) hx hb dX7_use_51 (by decide) ?_
            refine g_ld (n := 112) (f := w46_1) (v := w46_1 71) (k := 71) hx hb hK hP 1 rfl (by decide) (by unfold vp_in; decide) rfl dX7_use_53 ?_
            refine lv_icmp_ge (tgt := 94) hx hb dX7_use_54 (by decide) (fun c15 => ?_) (fun c15 => ?_)
            · rw [if_pos c15] at hR
              have hok := hok.1 c15
              refine lv_aload_n hx hb dX7_use_94 rfl (lv_at hl 0 rfl) ?_
              refine g_get (ci := 7) (v := .ref (mm 1)) (C := RX7) (T := TX7) (N := 12) hx hb hts hinX7 hown hK hP 0 rfl rfl 0 (by decide) (hts (.fieldLink RX7 7 "ChargeStagesModel" "s" "[I") (List.mem_of_getElem? (i := 1) rfl)) rfl dX7_use_95 ?_
              refine lv_iconst (v := 0) hx hb dX7_use_98 (by decide) ?_
              obtain ⟨k17, hok⟩ := hok
              obtain ⟨R16, eR16, hR⟩ := g_let hR
              refine g_callS (c_X7_charged l G (mm 1) w46_1 0 R16 eR16 k17) hx hb hml hown hts hK hP hD hS hA gX7_use_X7_charged rfl (n := 2) (by decide +kernel) rfl ⟨Nat.le_of_ble_eq_true rfl, Nat.le_of_ble_eq_true rfl⟩ [1] rfl (by decide) hl.1 rfl (Nat.le_of_ble_eq_true rfl) ⟨Nat.zero_le _, Nat.zero_le _⟩ dX7_use_99 (fun H locs hP hD hS => ?_)
              have hP : va_P G.1 vwCl (List.flatten [MO G mm R8.1, AW G (mm 1) 112 w46_1, AW G (mm 3) 448 R8.2]) H := hP
              have hD : va_D A (List.flatten [MO G mm R8.1, AW G (mm 1) 112 w46_1, AW G (mm 3) 448 R8.2]) := hD
              subst hR
              exact g_ret hx hb hr hlocks hS dX7_use_102 rfl hP
            · rw [if_neg c15] at hR
              have hok := hok.2 c15
              refine lv_aload_n hx hb dX7_use_57 rfl (lv_at hl 0 rfl) ?_
              refine g_get (ci := 7) (v := .ref (mm 1)) (C := RX7) (T := TX7) (N := 12) hx hb hts hinX7 hown hK hP 0 rfl rfl 0 (by decide) (hts (.fieldLink RX7 7 "ChargeStagesModel" "s" "[I") (List.mem_of_getElem? (i := 1) rfl)) rfl dX7_use_58 ?_
              refine lv_bipush (v := 7) hx hb dX7_use_61 (by decide) ?_
              refine lv_iload_n hx hb dX7_use_63 rfl (lv_at hl 2 rfl) ?_
              refine lv_imul hx hb dX7_use_64 ?_
              refine lv_iconst (v := 0) hx hb dX7_use_65 (by decide) ?_
              refine lv_iadd hx hb dX7_use_66 ?_
              refine lv_dup2_11 hx hb dX7_use_67 rfl rfl ?_
              obtain ⟨k18, hok⟩ := hok
              refine g_ld (n := 112) (f := w46_1) (v := w46_1 (((7 * x46_2) + 0).toNatClampNeg)) (k := (((7 * x46_2) + 0).toNatClampNeg)) hx hb hK hP 1 rfl rfl k18 rfl dX7_use_68 ?_
              refine lv_iload_n hx hb dX7_use_69 rfl (lv_at hl 1 rfl) ?_
              refine lv_isub hx hb dX7_use_70 ?_
              obtain ⟨k20, hok⟩ := hok
              obtain ⟨z19, ez19, hR, hok⟩ := g_let2 hR hok
              refine g_st (n := 112) (f := w46_1) (k := (((7 * x46_2) + 0).toNatClampNeg)) (B2 := [MO G mm R8.1, AW G (mm 1) 112 z19, AW G (mm 3) 448 R8.2]) hx hb hK hP hD hS 1 rfl rfl k20 (by subst ez19; rfl) dX7_use_71 (fun H locs hP hD hS => ?_)
              refine lv_aload_n hx hb dX7_use_72 rfl (lv_at hl 0 rfl) ?_
              refine g_get (ci := 7) (v := .ref (mm 1)) (C := RX7) (T := TX7) (N := 12) hx hb hts hinX7 hown hK hP 0 rfl rfl 0 (by decide) (hts (.fieldLink RX7 7 "ChargeStagesModel" "s" "[I") (List.mem_of_getElem? (i := 1) rfl)) rfl dX7_use_73 ?_
              refine lv_bipush (v := 7) hx hb dX7_use_76 (by decide) ?_
              refine lv_iload_n hx hb dX7_use_78 rfl (lv_at hl 2 rfl) ?_
              refine lv_imul hx hb dX7_use_79 ?_
              refine lv_bipush (v := 6) hx hb dX7_use_80 (by decide) ?_
              refine lv_iadd hx hb dX7_use_82 ?_
              refine lv_dup2_11 hx hb dX7_use_83 rfl rfl ?_
              obtain ⟨k21, hok⟩ := hok
              refine g_ld (n := 112) (f := z19) (v := z19 (((7 * x46_2) + 6).toNatClampNeg)) (k := (((7 * x46_2) + 6).toNatClampNeg)) hx hb hK hP 1 rfl rfl k21 rfl dX7_use_84 ?_
              refine lv_iload_n hx hb dX7_use_85 rfl (lv_at hl 1 rfl) ?_
              refine lv_iadd hx hb dX7_use_86 ?_
              obtain ⟨k23, hok⟩ := hok
              obtain ⟨z22, ez22, hR, hok⟩ := g_let2 hR hok
              refine g_st (n := 112) (f := z19) (k := (((7 * x46_2) + 6).toNatClampNeg)) (B2 := [MO G mm R8.1, AW G (mm 1) 112 z22, AW G (mm 3) 448 R8.2]) hx hb hK hP hD hS 1 rfl rfl k23 (by subst ez22; rfl) dX7_use_87 (fun H locs hP hD hS => ?_)
              obtain ⟨v24, ev24, hR, hok⟩ := g_let2 hR hok
              refine lv_iinc (v := v24) (lv' := [(2, .int v24), (0, .ref (mm 0)), (1, .int p1)]) hx hb dX7_use_88 hl (k := 2) rfl (by subst ev24; rfl) (by decide) rfl (fun ls hl => ?_)
              refine lv_goto (tgt := 46) hx hb dX7_use_91 (by decide) ?_
              exact ih v24 z22 _ _ _ hR hok hP hD hS (lv_sub hl [1, 2, 0] rfl)
        exact lp46 7 0 f _ _ _ hR hok hP hD hS (lv_sub hl [1, 2, 0] rfl)
      · rw [if_neg c7] at hR
        have hok := hok.2 c7
        refine lv_bipush (v := (-4)) hx hb dX7_use_37 (by decide) ?_
        subst hR
        exact g_ret hx hb hr hlocks hS dX7_use_39 rfl hP
  · rw [if_pos c3] at hR
    have hok := hok.1 c3
    refine lv_bipush (v := (-2)) hx hb dX7_use_11 (by decide) ?_
    subst hR
    exact g_ret hx hb hr hlocks hS dX7_use_13 rfl hP
def f_X7_set (o : (Nat → Int32)) (f : (Nat → Int32)) (fw : (Nat → Int32)) (p1 : Int32) (p2 : Int32) : Int32 × (Nat → Int32) × (Nat → Int32) × (Nat → Int32) := (gL (f_X7_in p1 0 8) (fun (R1 : Int32) => (if R1 = 0 then ((-1), o, f, fw) else (gL (f_X7_isInRange p1 p2) (fun (R4 : Int32) => (if R4 = 0 then ((-2), o, f, fw) else (gL (f_X7_cannotBe f p1 p2) (fun (R7 : Int32) => (if R7 = 0 then (gL (f ((42 + p1).toNatClampNeg)) (fun (v11 : Int32) => (if v11 = p2 then ((-5), o, f, fw) else (gL (f_X7_records o f fw) (fun (R13 : (Nat → Int32) × (Nat → Int32)) => (gL (upd f ((42 + p1).toNatClampNeg) p2) (fun (z15 : (Nat → Int32)) => ((v11 + 1000), R13.1, z15, R13.2)))))))) else ((-4), o, f, fw))))))))))
def ok_X7_set (o : (Nat → Int32)) (f : (Nat → Int32)) (fw : (Nat → Int32)) (p1 : Int32) (p2 : Int32) : Prop := (gL (f_X7_in p1 0 8) (fun (R1 : Int32) => ((R1 = 0 → True) ∧ (¬ R1 = 0 → (ok_X7_isInRange p1 p2) ∧ (gL (f_X7_isInRange p1 p2) (fun (R4 : Int32) => ((R4 = 0 → True) ∧ (¬ R4 = 0 → (ok_X7_cannotBe f p1) ∧ (gL (f_X7_cannotBe f p1 p2) (fun (R7 : Int32) => ((R7 = 0 → (vp_in (42 + p1) 112) ∧ (gL (f ((42 + p1).toNatClampNeg)) (fun (v11 : Int32) => ((v11 = p2 → True) ∧ (¬ v11 = p2 → (ok_X7_records o f fw) ∧ (gL (f_X7_records o f fw) (fun (R13 : (Nat → Int32) × (Nat → Int32)) => (vp_in (42 + p1) 112) ∧ True))))))) ∧ (¬ R7 = 0 → True))))))))))))
set_option maxHeartbeats 4000000 in
set_option maxRecDepth 100000 in
theorem c_X7_set (l : Launch) (G : gG) (mm : Nat → Nat) (o : (Nat → Int32)) (f : (Nat → Int32)) (fw : (Nat → Int32)) (p1 : Int32) (p2 : Int32) (R : Int32 × (Nat → Int32) × (Nat → Int32) × (Nat → Int32)) (hR : R = f_X7_set o f fw p1 p2) (hok : ok_X7_set o f fw p1 p2) : CT l G yX7_set wsX7_set 3 68 [.ref (mm 0), .int p1, .int p2] [MO G mm o, AW G (mm 1) 112 f, AW G (mm 3) 448 fw] (some (.int R.1)) [MO G mm R.2.1, AW G (mm 1) 112 R.2.2.1, AW G (mm 3) 448 R.2.2.2] := by
  unfold f_X7_set at hR
  unfold ok_X7_set at hok
  refine CT.of (cc := cX7_set) (maxL := 4) (ret := (some .int)) (plainFor_of_name (by decide +kernel)) rfl rfl (Nat.le_of_ble_eq_true rfl) ?_
  intro p e s m below meth c A ls hx hb hml hr hts hown hlocks hK hP hD hA hS hl
  have hown : s.vm.findClass RX7 = some m.cls := hown
  have hl : lv_has ls 4 [(0, .ref (mm 0)), (1, .int p1), (2, .int p2)] := hl
  have hinX7 : ∀ w ∈ wsX70, w ∈ wsX7_set := fun w h => List.mem_cons_of_mem _ (List.mem_append_right _ h)
  refine lv_iload_n hx hb dX7_set_0 rfl (lv_at hl 1 rfl) ?_
  refine lv_iconst (v := 0) hx hb dX7_set_1 (by decide) ?_
  refine lv_bipush (v := 8) hx hb dX7_set_2 (by decide) ?_
  obtain ⟨R1, eR1, hR, hok⟩ := g_let2 hR hok
  refine g_callS (c_X7_in l G p1 0 8 R1 eR1) hx hb hml hown hts hK hP hD hS hA gX7_set_X7_in rfl (n := 3) (by decide +kernel) rfl ⟨Nat.le_of_ble_eq_true rfl, Nat.le_of_ble_eq_true rfl⟩ [] rfl (by decide) hl.1 rfl (Nat.le_of_ble_eq_true rfl) ⟨Nat.zero_le _, Nat.zero_le _⟩ dX7_set_4 (fun H locs hP hD hS => ?_)
  have hP : va_P G.1 vwCl (List.flatten [MO G mm o, AW G (mm 1) 112 f, AW G (mm 3) 448 fw]) H := hP
  have hD : va_D A (List.flatten [MO G mm o, AW G (mm 1) 112 f, AW G (mm 3) 448 fw]) := hD
  refine lv_if_ne (tgt := 12) hx hb dX7_set_7 (by decide) (fun c3 => ?_) (fun c3 => ?_)
  · rw [if_neg c3] at hR
    have hok := hok.2 c3
    refine lv_iload_n hx hb dX7_set_12 rfl (lv_at hl 1 rfl) ?_
    refine lv_iload_n hx hb dX7_set_13 rfl (lv_at hl 2 rfl) ?_
    obtain ⟨k5, hok⟩ := hok
    obtain ⟨R4, eR4, hR, hok⟩ := g_let2 hR hok
    refine g_callS (c_X7_isInRange l G p1 p2 R4 eR4 k5) hx hb hml hown hts hK hP hD hS hA gX7_set_X7_isInRange rfl (n := 2) (by decide +kernel) rfl ⟨Nat.le_of_ble_eq_true rfl, Nat.le_of_ble_eq_true rfl⟩ [] rfl (by decide) hl.1 rfl (Nat.le_of_ble_eq_true rfl) ⟨Nat.zero_le _, Nat.zero_le _⟩ dX7_set_14 (fun H locs hP hD hS => ?_)
    have hP : va_P G.1 vwCl (List.flatten [MO G mm o, AW G (mm 1) 112 f, AW G (mm 3) 448 fw]) H := hP
    have hD : va_D A (List.flatten [MO G mm o, AW G (mm 1) 112 f, AW G (mm 3) 448 fw]) := hD
    refine lv_if_ne (tgt := 23) hx hb dX7_set_17 (by decide) (fun c6 => ?_) (fun c6 => ?_)
    · rw [if_neg c6] at hR
      have hok := hok.2 c6
      refine lv_aload_n hx hb dX7_set_23 rfl (lv_at hl 0 rfl) ?_
      refine lv_iload_n hx hb dX7_set_24 rfl (lv_at hl 1 rfl) ?_
      refine lv_iload_n hx hb dX7_set_25 rfl (lv_at hl 2 rfl) ?_
      obtain ⟨k8, hok⟩ := hok
      obtain ⟨R7, eR7, hR, hok⟩ := g_let2 hR hok
      refine g_callV (c_X7_cannotBe l G mm o f p1 p2 R7 eR7 k8) hx hb hml hown hts hK hP hD hS hA gX7_set_X7_cannotBe rfl (n := 2) (by decide +kernel) rfl ⟨Nat.le_of_ble_eq_true rfl, Nat.le_of_ble_eq_true rfl⟩ [0, 1] rfl (by decide) 0 rfl (ci := 7) rfl hl.1 rfl (Nat.le_of_ble_eq_true rfl) ⟨Nat.zero_le _, Nat.zero_le _⟩ dX7_set_26 (fun H locs hP hD hS => ?_)
      have hP : va_P G.1 vwCl (List.flatten [MO G mm o, AW G (mm 1) 112 f, AW G (mm 3) 448 fw]) H := hP
      have hD : va_D A (List.flatten [MO G mm o, AW G (mm 1) 112 f, AW G (mm 3) 448 fw]) := hD
      refine lv_if_eq (tgt := 35) hx hb dX7_set_29 (by decide) (fun c9 => ?_) (fun c9 => ?_)
      · rw [if_pos c9] at hR
        have hok := hok.1 c9
        refine lv_aload_n hx hb dX7_set_35 rfl (lv_at hl 0 rfl) ?_
        refine g_get (ci := 7) (v := .ref (mm 1)) (C := RX7) (T := TX7) (N := 12) hx hb hts hinX7 hown hK hP 0 rfl rfl 0 (by decide) (hts (.fieldLink RX7 7 "ChargeStagesModel" "s" "[I") (List.mem_of_getElem? (i := 1) rfl)) rfl dX7_set_36 ?_
        refine lv_bipush (v := 42) hx hb dX7_set_39 (by decide) ?_
        refine lv_iload_n hx hb dX7_set_41 rfl (lv_at hl 1 rfl) ?_
        refine lv_iadd hx hb dX7_set_42 ?_
        obtain ⟨k10, hok⟩ := hok
        refine g_ld (n := 112) (f := f) (v := f ((42 + p1).toNatClampNeg)) (k := ((42 + p1).toNatClampNeg)) hx hb hK hP 1 rfl rfl k10 rfl dX7_set_43 ?_
        obtain ⟨v11, ev11, hR, hok⟩ := g_let2 hR hok
        refine g_topE ev11.symm ?_
        refine lv_istore_n (lv' := [(3, .int v11), (0, .ref (mm 0)), (1, .int p1), (2, .int p2)]) hx hb dX7_set_44 rfl hl (by decide) rfl (fun ls hl => ?_)
        refine lv_iload_n hx hb dX7_set_45 rfl (lv_at hl 0 rfl) ?_
        refine lv_iload_n hx hb dX7_set_46 rfl (lv_at hl 3 rfl) ?_
        refine lv_icmp_ne (tgt := 53) hx hb dX7_set_47 (by decide) (fun c12 => ?_) (fun c12 => ?_)
        · rw [if_neg c12] at hR
          have hok := hok.2 c12
          refine lv_aload_n hx hb dX7_set_53 rfl (lv_at hl 1 rfl) ?_
          obtain ⟨k14, hok⟩ := hok
          obtain ⟨R13, eR13, hR, hok⟩ := g_let2 hR hok
          refine g_callV (c_X7_records l G mm o f fw R13 eR13 k14) hx hb hml hown hts hK hP hD hS hA gX7_set_X7_records rfl (n := 0) (by decide +kernel) rfl ⟨Nat.le_of_ble_eq_true rfl, Nat.le_of_ble_eq_true rfl⟩ [0, 1, 2] rfl (by decide) 0 rfl (ci := 7) rfl hl.1 rfl (Nat.le_of_ble_eq_true rfl) ⟨Nat.zero_le _, Nat.zero_le _⟩ dX7_set_54 (fun H locs hP hD hS => ?_)
          have hP : va_P G.1 vwCl (List.flatten [MO G mm R13.1, AW G (mm 1) 112 f, AW G (mm 3) 448 R13.2]) H := hP
          have hD : va_D A (List.flatten [MO G mm R13.1, AW G (mm 1) 112 f, AW G (mm 3) 448 R13.2]) := hD
          refine lv_aload_n hx hb dX7_set_57 rfl (lv_at hl 1 rfl) ?_
          refine g_get (ci := 7) (v := .ref (mm 1)) (C := RX7) (T := TX7) (N := 12) hx hb hts hinX7 hown hK hP 0 rfl rfl 0 (by decide) (hts (.fieldLink RX7 7 "ChargeStagesModel" "s" "[I") (List.mem_of_getElem? (i := 1) rfl)) rfl dX7_set_58 ?_
          refine lv_bipush (v := 42) hx hb dX7_set_61 (by decide) ?_
          refine lv_iload_n hx hb dX7_set_63 rfl (lv_at hl 2 rfl) ?_
          refine lv_iadd hx hb dX7_set_64 ?_
          refine lv_iload_n hx hb dX7_set_65 rfl (lv_at hl 3 rfl) ?_
          obtain ⟨k16, hok⟩ := hok
          obtain ⟨z15, ez15, hR⟩ := g_let hR
          refine g_st (n := 112) (f := f) (k := ((42 + p1).toNatClampNeg)) (B2 := [MO G mm R13.1, AW G (mm 1) 112 z15, AW G (mm 3) 448 R13.2]) hx hb hK hP hD hS 1 rfl rfl k16 (by subst ez15; rfl) dX7_set_66 (fun H locs hP hD hS => ?_)
          refine lv_iload_n hx hb dX7_set_67 rfl (lv_at hl 0 rfl) ?_
          refine lv_sipush (v := 1000) hx hb dX7_set_68 (by decide) ?_
          refine lv_iadd hx hb dX7_set_71 ?_
          subst hR
          exact g_ret hx hb hr hlocks hS dX7_set_72 rfl hP
        · rw [if_pos c12] at hR
          have hok := hok.1 c12
          refine lv_bipush (v := (-5)) hx hb dX7_set_50 (by decide) ?_
          subst hR
          exact g_ret hx hb hr hlocks hS dX7_set_52 rfl hP
      · rw [if_neg c9] at hR
        have hok := hok.2 c9
        refine lv_bipush (v := (-4)) hx hb dX7_set_32 (by decide) ?_
        subst hR
        exact g_ret hx hb hr hlocks hS dX7_set_34 rfl hP
    · rw [if_pos c6] at hR
      have hok := hok.1 c6
      refine lv_bipush (v := (-2)) hx hb dX7_set_20 (by decide) ?_
      subst hR
      exact g_ret hx hb hr hlocks hS dX7_set_22 rfl hP
  · rw [if_pos c3] at hR
    have hok := hok.1 c3
    refine lv_iconst (v := (-1)) hx hb dX7_set_10 (by decide) ?_
    subst hR
    exact g_ret hx hb hr hlocks hS dX7_set_11 rfl hP
def f_X7_start (o : (Nat → Int32)) (f : (Nat → Int32)) (fw : (Nat → Int32)) : Int32 × (Nat → Int32) × (Nat → Int32) × (Nat → Int32) := (if (f 73) = 1 then ((-4), o, f, fw) else (if (f 72) = 0 then ((-4), o, f, fw) else (gL (f_X7_records o f fw) (fun (R3 : (Nat → Int32) × (Nat → Int32)) => (gL (f 73) (fun (v5 : Int32) => (gL (upd f 73 1) (fun (z6 : (Nat → Int32)) => (gL (upd z6 74 0) (fun (z7 : (Nat → Int32)) => (gL (upd z7 75 0) (fun (z8 : (Nat → Int32)) => (gL (upd z8 80 0) (fun (z9 : (Nat → Int32)) => (gL (f_X7_logs z9 0) (fun (R10 : (Nat → Int32)) => (v5, R3.1, R10, R3.2)))))))))))))))))
def ok_X7_start (o : (Nat → Int32)) (f : (Nat → Int32)) (fw : (Nat → Int32)) : Prop := (((f 73) = 1 → True) ∧ (¬ (f 73) = 1 → (((f 72) = 0 → True) ∧ (¬ (f 72) = 0 → (ok_X7_records o f fw) ∧ (gL (f_X7_records o f fw) (fun (R3 : (Nat → Int32) × (Nat → Int32)) => (gL (f 73) (fun (v5 : Int32) => (gL (upd f 73 1) (fun (z6 : (Nat → Int32)) => (gL (upd z6 74 0) (fun (z7 : (Nat → Int32)) => (gL (upd z7 75 0) (fun (z8 : (Nat → Int32)) => (gL (upd z8 80 0) (fun (z9 : (Nat → Int32)) => (ok_X7_logs z9 0) ∧ True))))))))))))))))
set_option maxHeartbeats 4000000 in
set_option maxRecDepth 100000 in
theorem c_X7_start (l : Launch) (G : gG) (mm : Nat → Nat) (o : (Nat → Int32)) (f : (Nat → Int32)) (fw : (Nat → Int32)) (R : Int32 × (Nat → Int32) × (Nat → Int32) × (Nat → Int32)) (hR : R = f_X7_start o f fw) (hok : ok_X7_start o f fw) : CT l G yX7_start wsX7_start 2 44 [.ref (mm 0)] [MO G mm o, AW G (mm 1) 112 f, AW G (mm 3) 448 fw] (some (.int R.1)) [MO G mm R.2.1, AW G (mm 1) 112 R.2.2.1, AW G (mm 3) 448 R.2.2.2] := by
  unfold f_X7_start at hR
  unfold ok_X7_start at hok
  refine CT.of (cc := cX7_start) (maxL := 2) (ret := (some .int)) (plainFor_of_name (by decide +kernel)) rfl rfl (Nat.le_of_ble_eq_true rfl) ?_
  intro p e s m below meth c A ls hx hb hml hr hts hown hlocks hK hP hD hA hS hl
  have hown : s.vm.findClass RX7 = some m.cls := hown
  have hl : lv_has ls 2 [(0, .ref (mm 0))] := hl
  have hinX7 : ∀ w ∈ wsX70, w ∈ wsX7_start := fun w h => List.mem_cons_of_mem _ (List.mem_append_right _ h)
  refine lv_aload_n hx hb dX7_start_0 rfl (lv_at hl 0 rfl) ?_
  refine g_get (ci := 7) (v := .ref (mm 1)) (C := RX7) (T := TX7) (N := 12) hx hb hts hinX7 hown hK hP 0 rfl rfl 0 (by decide) (hts (.fieldLink RX7 7 "ChargeStagesModel" "s" "[I") (List.mem_of_getElem? (i := 1) rfl)) rfl dX7_start_1 ?_
  refine lv_bipush (v := 73) hx hb dX7_start_4 (by decide) ?_
  refine g_ld (n := 112) (f := f) (v := f 73) (k := 73) hx hb hK hP 1 rfl (by decide) (by unfold vp_in; decide) rfl dX7_start_6 ?_
  refine lv_iconst (v := 1) hx hb dX7_start_7 (by decide) ?_
  refine lv_icmp_eq (tgt := 21) hx hb dX7_start_8 (by decide) (fun c1 => ?_) (fun c1 => ?_)
  · rw [if_pos c1] at hR
    have hok := hok.1 c1
    refine lv_bipush (v := (-4)) hx hb dX7_start_21 (by decide) ?_
    subst hR
    exact g_ret hx hb hr hlocks hS dX7_start_23 rfl hP
  · rw [if_neg c1] at hR
    have hok := hok.2 c1
    refine lv_aload_n hx hb dX7_start_11 rfl (lv_at hl 0 rfl) ?_
    refine g_get (ci := 7) (v := .ref (mm 1)) (C := RX7) (T := TX7) (N := 12) hx hb hts hinX7 hown hK hP 0 rfl rfl 0 (by decide) (hts (.fieldLink RX7 7 "ChargeStagesModel" "s" "[I") (List.mem_of_getElem? (i := 1) rfl)) rfl dX7_start_12 ?_
    refine lv_bipush (v := 72) hx hb dX7_start_15 (by decide) ?_
    refine g_ld (n := 112) (f := f) (v := f 72) (k := 72) hx hb hK hP 1 rfl (by decide) (by unfold vp_in; decide) rfl dX7_start_17 ?_
    refine lv_if_ne (tgt := 24) hx hb dX7_start_18 (by decide) (fun c2 => ?_) (fun c2 => ?_)
    · rw [if_neg c2] at hR
      have hok := hok.2 c2
      refine lv_aload_n hx hb dX7_start_24 rfl (lv_at hl 0 rfl) ?_
      obtain ⟨k4, hok⟩ := hok
      obtain ⟨R3, eR3, hR, hok⟩ := g_let2 hR hok
      refine g_callV (c_X7_records l G mm o f fw R3 eR3 k4) hx hb hml hown hts hK hP hD hS hA gX7_start_X7_records rfl (n := 0) (by decide +kernel) rfl ⟨Nat.le_of_ble_eq_true rfl, Nat.le_of_ble_eq_true rfl⟩ [0, 1, 2] rfl (by decide) 0 rfl (ci := 7) rfl hl.1 rfl (Nat.le_of_ble_eq_true rfl) ⟨Nat.zero_le _, Nat.zero_le _⟩ dX7_start_25 (fun H locs hP hD hS => ?_)
      have hP : va_P G.1 vwCl (List.flatten [MO G mm R3.1, AW G (mm 1) 112 f, AW G (mm 3) 448 R3.2]) H := hP
      have hD : va_D A (List.flatten [MO G mm R3.1, AW G (mm 1) 112 f, AW G (mm 3) 448 R3.2]) := hD
      refine lv_aload_n hx hb dX7_start_28 rfl (lv_at hl 0 rfl) ?_
      refine g_get (ci := 7) (v := .ref (mm 1)) (C := RX7) (T := TX7) (N := 12) hx hb hts hinX7 hown hK hP 0 rfl rfl 0 (by decide) (hts (.fieldLink RX7 7 "ChargeStagesModel" "s" "[I") (List.mem_of_getElem? (i := 1) rfl)) rfl dX7_start_29 ?_
      refine lv_bipush (v := 73) hx hb dX7_start_32 (by decide) ?_
      refine g_ld (n := 112) (f := f) (v := f 73) (k := 73) hx hb hK hP 1 rfl (by decide) (by unfold vp_in; decide) rfl dX7_start_34 ?_
      obtain ⟨v5, ev5, hR, hok⟩ := g_let2 hR hok
      refine g_topE ev5.symm ?_
      refine lv_istore_n (lv' := [(1, .int v5), (0, .ref (mm 0))]) hx hb dX7_start_35 rfl hl (by decide) rfl (fun ls hl => ?_)
      refine lv_aload_n hx hb dX7_start_36 rfl (lv_at hl 1 rfl) ?_
      refine g_get (ci := 7) (v := .ref (mm 1)) (C := RX7) (T := TX7) (N := 12) hx hb hts hinX7 hown hK hP 0 rfl rfl 0 (by decide) (hts (.fieldLink RX7 7 "ChargeStagesModel" "s" "[I") (List.mem_of_getElem? (i := 1) rfl)) rfl dX7_start_37 ?_
      refine lv_bipush (v := 73) hx hb dX7_start_40 (by decide) ?_
      refine lv_iconst (v := 1) hx hb dX7_start_42 (by decide) ?_
      obtain ⟨z6, ez6, hR, hok⟩ := g_let2 hR hok
      refine g_st (n := 112) (f := f) (k := 73) (B2 := [MO G mm R3.1, AW G (mm 1) 112 z6, AW G (mm 3) 448 R3.2]) hx hb hK hP hD hS 1 rfl (by decide) (by unfold vp_in; decide) (by subst ez6; rfl) dX7_start_43 (fun H locs hP hD hS => ?_)
      refine lv_aload_n hx hb dX7_start_44 rfl (lv_at hl 1 rfl) ?_
      refine g_get (ci := 7) (v := .ref (mm 1)) (C := RX7) (T := TX7) (N := 12) hx hb hts hinX7 hown hK hP 0 rfl rfl 0 (by decide) (hts (.fieldLink RX7 7 "ChargeStagesModel" "s" "[I") (List.mem_of_getElem? (i := 1) rfl)) rfl dX7_start_45 ?_
      refine lv_bipush (v := 74) hx hb dX7_start_48 (by decide) ?_
      refine lv_iconst (v := 0) hx hb dX7_start_50 (by decide) ?_
      obtain ⟨z7, ez7, hR, hok⟩ := g_let2 hR hok
      refine g_st (n := 112) (f := z6) (k := 74) (B2 := [MO G mm R3.1, AW G (mm 1) 112 z7, AW G (mm 3) 448 R3.2]) hx hb hK hP hD hS 1 rfl (by decide) (by unfold vp_in; decide) (by subst ez7; rfl) dX7_start_51 (fun H locs hP hD hS => ?_)
      refine lv_aload_n hx hb dX7_start_52 rfl (lv_at hl 1 rfl) ?_
      refine g_get (ci := 7) (v := .ref (mm 1)) (C := RX7) (T := TX7) (N := 12) hx hb hts hinX7 hown hK hP 0 rfl rfl 0 (by decide) (hts (.fieldLink RX7 7 "ChargeStagesModel" "s" "[I") (List.mem_of_getElem? (i := 1) rfl)) rfl dX7_start_53 ?_
      refine lv_bipush (v := 75) hx hb dX7_start_56 (by decide) ?_
      refine lv_iconst (v := 0) hx hb dX7_start_58 (by decide) ?_
      obtain ⟨z8, ez8, hR, hok⟩ := g_let2 hR hok
      refine g_st (n := 112) (f := z7) (k := 75) (B2 := [MO G mm R3.1, AW G (mm 1) 112 z8, AW G (mm 3) 448 R3.2]) hx hb hK hP hD hS 1 rfl (by decide) (by unfold vp_in; decide) (by subst ez8; rfl) dX7_start_59 (fun H locs hP hD hS => ?_)
      refine lv_aload_n hx hb dX7_start_60 rfl (lv_at hl 1 rfl) ?_
      refine g_get (ci := 7) (v := .ref (mm 1)) (C := RX7) (T := TX7) (N := 12) hx hb hts hinX7 hown hK hP 0 rfl rfl 0 (by decide) (hts (.fieldLink RX7 7 "ChargeStagesModel" "s" "[I") (List.mem_of_getElem? (i := 1) rfl)) rfl dX7_start_61 ?_
      refine lv_bipush (v := 80) hx hb dX7_start_64 (by decide) ?_
      refine lv_iconst (v := 0) hx hb dX7_start_66 (by decide) ?_
      obtain ⟨z9, ez9, hR, hok⟩ := g_let2 hR hok
      refine g_st (n := 112) (f := z8) (k := 80) (B2 := [MO G mm R3.1, AW G (mm 1) 112 z9, AW G (mm 3) 448 R3.2]) hx hb hK hP hD hS 1 rfl (by decide) (by unfold vp_in; decide) (by subst ez9; rfl) dX7_start_67 (fun H locs hP hD hS => ?_)
      refine lv_aload_n hx hb dX7_start_68 rfl (lv_at hl 1 rfl) ?_
      refine g_get (ci := 7) (v := .ref (mm 1)) (C := RX7) (T := TX7) (N := 12) hx hb hts hinX7 hown hK hP 0 rfl rfl 0 (by decide) (hts (.fieldLink RX7 7 "ChargeStagesModel" "s" "[I") (List.mem_of_getElem? (i := 1) rfl)) rfl dX7_start_69 ?_
      refine lv_iconst (v := 0) hx hb dX7_start_72 (by decide) ?_
      obtain ⟨k11, hok⟩ := hok
      obtain ⟨R10, eR10, hR⟩ := g_let hR
      refine g_callS (c_X7_logs l G (mm 1) z9 0 R10 eR10 k11) hx hb hml hown hts hK hP hD hS hA gX7_start_X7_logs rfl (n := 2) (by decide +kernel) rfl ⟨Nat.le_of_ble_eq_true rfl, Nat.le_of_ble_eq_true rfl⟩ [1] rfl (by decide) hl.1 rfl (Nat.le_of_ble_eq_true rfl) ⟨Nat.zero_le _, Nat.zero_le _⟩ dX7_start_73 (fun H locs hP hD hS => ?_)
      have hP : va_P G.1 vwCl (List.flatten [MO G mm R3.1, AW G (mm 1) 112 R10, AW G (mm 3) 448 R3.2]) H := hP
      have hD : va_D A (List.flatten [MO G mm R3.1, AW G (mm 1) 112 R10, AW G (mm 3) 448 R3.2]) := hD
      refine lv_iload_n hx hb dX7_start_76 rfl (lv_at hl 0 rfl) ?_
      subst hR
      exact g_ret hx hb hr hlocks hS dX7_start_77 rfl hP
    · rw [if_pos c2] at hR
      have hok := hok.1 c2
      refine lv_bipush (v := (-4)) hx hb dX7_start_21 (by decide) ?_
      subst hR
      exact g_ret hx hb hr hlocks hS dX7_start_23 rfl hP
def f_X7_stop (o : (Nat → Int32)) (f : (Nat → Int32)) (fw : (Nat → Int32)) : Int32 × (Nat → Int32) × (Nat → Int32) × (Nat → Int32) := (gL (f 73) (fun (v1 : Int32) => (if v1 = 0 then ((-5), o, f, fw) else (gL (f_X7_records o f fw) (fun (R3 : (Nat → Int32) × (Nat → Int32)) => (gL (upd f 73 0) (fun (z5 : (Nat → Int32)) => (v1, R3.1, z5, R3.2))))))))
def ok_X7_stop (o : (Nat → Int32)) (f : (Nat → Int32)) (fw : (Nat → Int32)) : Prop := (gL (f 73) (fun (v1 : Int32) => ((v1 = 0 → True) ∧ (¬ v1 = 0 → (ok_X7_records o f fw) ∧ True))))
set_option maxHeartbeats 4000000 in
set_option maxRecDepth 100000 in
theorem c_X7_stop (l : Launch) (G : gG) (mm : Nat → Nat) (o : (Nat → Int32)) (f : (Nat → Int32)) (fw : (Nat → Int32)) (R : Int32 × (Nat → Int32) × (Nat → Int32) × (Nat → Int32)) (hR : R = f_X7_stop o f fw) (hok : ok_X7_stop o f fw) : CT l G yX7_stop wsX7_stop 2 44 [.ref (mm 0)] [MO G mm o, AW G (mm 1) 112 f, AW G (mm 3) 448 fw] (some (.int R.1)) [MO G mm R.2.1, AW G (mm 1) 112 R.2.2.1, AW G (mm 3) 448 R.2.2.2] := by
  unfold f_X7_stop at hR
  unfold ok_X7_stop at hok
  refine CT.of (cc := cX7_stop) (maxL := 2) (ret := (some .int)) (plainFor_of_name (by decide +kernel)) rfl rfl (Nat.le_of_ble_eq_true rfl) ?_
  intro p e s m below meth c A ls hx hb hml hr hts hown hlocks hK hP hD hA hS hl
  have hown : s.vm.findClass RX7 = some m.cls := hown
  have hl : lv_has ls 2 [(0, .ref (mm 0))] := hl
  have hinX7 : ∀ w ∈ wsX70, w ∈ wsX7_stop := fun w h => List.mem_cons_of_mem _ (List.mem_append_right _ h)
  refine lv_aload_n hx hb dX7_stop_0 rfl (lv_at hl 0 rfl) ?_
  refine g_get (ci := 7) (v := .ref (mm 1)) (C := RX7) (T := TX7) (N := 12) hx hb hts hinX7 hown hK hP 0 rfl rfl 0 (by decide) (hts (.fieldLink RX7 7 "ChargeStagesModel" "s" "[I") (List.mem_of_getElem? (i := 1) rfl)) rfl dX7_stop_1 ?_
  refine lv_bipush (v := 73) hx hb dX7_stop_4 (by decide) ?_
  refine g_ld (n := 112) (f := f) (v := f 73) (k := 73) hx hb hK hP 1 rfl (by decide) (by unfold vp_in; decide) rfl dX7_stop_6 ?_
  obtain ⟨v1, ev1, hR, hok⟩ := g_let2 hR hok
  refine g_topE ev1.symm ?_
  refine lv_istore_n (lv' := [(1, .int v1), (0, .ref (mm 0))]) hx hb dX7_stop_7 rfl hl (by decide) rfl (fun ls hl => ?_)
  refine lv_iload_n hx hb dX7_stop_8 rfl (lv_at hl 0 rfl) ?_
  refine lv_if_ne (tgt := 15) hx hb dX7_stop_9 (by decide) (fun c2 => ?_) (fun c2 => ?_)
  · rw [if_neg c2] at hR
    have hok := hok.2 c2
    refine lv_aload_n hx hb dX7_stop_15 rfl (lv_at hl 1 rfl) ?_
    obtain ⟨k4, hok⟩ := hok
    obtain ⟨R3, eR3, hR⟩ := g_let hR
    refine g_callV (c_X7_records l G mm o f fw R3 eR3 k4) hx hb hml hown hts hK hP hD hS hA gX7_stop_X7_records rfl (n := 0) (by decide +kernel) rfl ⟨Nat.le_of_ble_eq_true rfl, Nat.le_of_ble_eq_true rfl⟩ [0, 1, 2] rfl (by decide) 0 rfl (ci := 7) rfl hl.1 rfl (Nat.le_of_ble_eq_true rfl) ⟨Nat.zero_le _, Nat.zero_le _⟩ dX7_stop_16 (fun H locs hP hD hS => ?_)
    have hP : va_P G.1 vwCl (List.flatten [MO G mm R3.1, AW G (mm 1) 112 f, AW G (mm 3) 448 R3.2]) H := hP
    have hD : va_D A (List.flatten [MO G mm R3.1, AW G (mm 1) 112 f, AW G (mm 3) 448 R3.2]) := hD
    refine lv_aload_n hx hb dX7_stop_19 rfl (lv_at hl 1 rfl) ?_
    refine g_get (ci := 7) (v := .ref (mm 1)) (C := RX7) (T := TX7) (N := 12) hx hb hts hinX7 hown hK hP 0 rfl rfl 0 (by decide) (hts (.fieldLink RX7 7 "ChargeStagesModel" "s" "[I") (List.mem_of_getElem? (i := 1) rfl)) rfl dX7_stop_20 ?_
    refine lv_bipush (v := 73) hx hb dX7_stop_23 (by decide) ?_
    refine lv_iconst (v := 0) hx hb dX7_stop_25 (by decide) ?_
    obtain ⟨z5, ez5, hR⟩ := g_let hR
    refine g_st (n := 112) (f := f) (k := 73) (B2 := [MO G mm R3.1, AW G (mm 1) 112 z5, AW G (mm 3) 448 R3.2]) hx hb hK hP hD hS 1 rfl (by decide) (by unfold vp_in; decide) (by subst ez5; rfl) dX7_stop_26 (fun H locs hP hD hS => ?_)
    refine lv_iload_n hx hb dX7_stop_27 rfl (lv_at hl 0 rfl) ?_
    subst hR
    exact g_ret hx hb hr hlocks hS dX7_stop_28 rfl hP
  · rw [if_pos c2] at hR
    have hok := hok.1 c2
    refine lv_bipush (v := (-5)) hx hb dX7_stop_12 (by decide) ?_
    subst hR
    exact g_ret hx hb hr hlocks hS dX7_stop_14 rfl hP
def fl_X7_pass_37 (p1 : Int32) (R5 : (Nat → Int32) × (Nat → Int32)) : Nat → Int32 → (Nat → Int32) → Int32 × (Nat → Int32) × (Nat → Int32) × (Nat → Int32)
  | 0, _, _ => ((0 : Int32), (fun _ => 0), (fun _ => 0), (fun _ => 0))
  | n + 1, x37_2, w37_1 => (if p1 ≤ x37_2 then (w37_1 73, R5.1, w37_1, R5.2) else (gL (f_X7_tick w37_1) (fun (R11 : (Nat → Int32)) => (gL ((x37_2 + 1)) (fun (v13 : Int32) => (fl_X7_pass_37 p1 R5 n v13 R11))))))
def okl_X7_pass_37 (p1 : Int32) : Nat → Int32 → (Nat → Int32) → Prop
  | 0, _, _ => False
  | n + 1, x37_2, w37_1 => ((p1 ≤ x37_2 → True) ∧ (¬ p1 ≤ x37_2 → (ok_X7_tick w37_1) ∧ (gL (f_X7_tick w37_1) (fun (R11 : (Nat → Int32)) => (gL ((x37_2 + 1)) (fun (v13 : Int32) => (okl_X7_pass_37 p1 n v13 R11)))))))
def f_X7_pass (o : (Nat → Int32)) (f : (Nat → Int32)) (fw : (Nat → Int32)) (p1 : Int32) : Int32 × (Nat → Int32) × (Nat → Int32) × (Nat → Int32) := (gL (f_X7_in p1 1 200) (fun (R1 : Int32) => (if R1 = 0 then ((-2), o, f, fw) else (if ((f 76) + p1) ≤ 99999 then (gL (f_X7_records o f fw) (fun (R5 : (Nat → Int32) × (Nat → Int32)) => (fl_X7_pass_37 p1 R5 201 0 f))) else ((-3), o, f, fw)))))
def ok_X7_pass (o : (Nat → Int32)) (f : (Nat → Int32)) (fw : (Nat → Int32)) (p1 : Int32) : Prop := (gL (f_X7_in p1 1 200) (fun (R1 : Int32) => ((R1 = 0 → True) ∧ (¬ R1 = 0 → ((((f 76) + p1) ≤ 99999 → (ok_X7_records o f fw) ∧ (gL (f_X7_records o f fw) (fun (R5 : (Nat → Int32) × (Nat → Int32)) => (okl_X7_pass_37 p1 201 0 f)))) ∧ (¬ ((f 76) + p1) ≤ 99999 → True))))))
set_option maxHeartbeats 4000000 in
set_option maxRecDepth 100000 in
theorem c_X7_pass (l : Launch) (G : gG) (mm : Nat → Nat) (o : (Nat → Int32)) (f : (Nat → Int32)) (fw : (Nat → Int32)) (p1 : Int32) (R : Int32 × (Nat → Int32) × (Nat → Int32) × (Nat → Int32)) (hR : R = f_X7_pass o f fw p1) (hok : ok_X7_pass o f fw p1) : CT l G yX7_pass wsX7_pass 7 152 [.ref (mm 0), .int p1] [MO G mm o, AW G (mm 1) 112 f, AW G (mm 3) 448 fw] (some (.int R.1)) [MO G mm R.2.1, AW G (mm 1) 112 R.2.2.1, AW G (mm 3) 448 R.2.2.2] := by
  unfold f_X7_pass at hR
  unfold ok_X7_pass at hok
  refine CT.of (cc := cX7_pass) (maxL := 3) (ret := (some .int)) (plainFor_of_name (by decide +kernel)) rfl rfl (Nat.le_of_ble_eq_true rfl) ?_
  intro p e s m below meth c A ls hx hb hml hr hts hown hlocks hK hP hD hA hS hl
  have hown : s.vm.findClass RX7 = some m.cls := hown
  have hl : lv_has ls 3 [(0, .ref (mm 0)), (1, .int p1)] := hl
  have hinX7 : ∀ w ∈ wsX70, w ∈ wsX7_pass := fun w h => List.mem_cons_of_mem _ (List.mem_append_right _ h)
  refine lv_iload_n hx hb dX7_pass_0 rfl (lv_at hl 1 rfl) ?_
  refine lv_iconst (v := 1) hx hb dX7_pass_1 (by decide) ?_
  refine lv_sipush (v := 200) hx hb dX7_pass_2 (by decide) ?_
  obtain ⟨R1, eR1, hR, hok⟩ := g_let2 hR hok
  refine g_callS (c_X7_in l G p1 1 200 R1 eR1) hx hb hml hown hts hK hP hD hS hA gX7_pass_X7_in rfl (n := 3) (by decide +kernel) rfl ⟨Nat.le_of_ble_eq_true rfl, Nat.le_of_ble_eq_true rfl⟩ [] rfl (by decide) hl.1 rfl (Nat.le_of_ble_eq_true rfl) ⟨Nat.zero_le _, Nat.zero_le _⟩ dX7_pass_5 (fun H locs hP hD hS => ?_)
  have hP : va_P G.1 vwCl (List.flatten [MO G mm o, AW G (mm 1) 112 f, AW G (mm 3) 448 fw]) H := hP
  have hD : va_D A (List.flatten [MO G mm o, AW G (mm 1) 112 f, AW G (mm 3) 448 fw]) := hD
  refine lv_if_ne (tgt := 14) hx hb dX7_pass_8 (by decide) (fun c3 => ?_) (fun c3 => ?_)
  · rw [if_neg c3] at hR
    have hok := hok.2 c3
    refine lv_aload_n hx hb dX7_pass_14 rfl (lv_at hl 0 rfl) ?_
    refine g_get (ci := 7) (v := .ref (mm 1)) (C := RX7) (T := TX7) (N := 12) hx hb hts hinX7 hown hK hP 0 rfl rfl 0 (by decide) (hts (.fieldLink RX7 7 "ChargeStagesModel" "s" "[I") (List.mem_of_getElem? (i := 1) rfl)) rfl dX7_pass_15 ?_
    refine lv_bipush (v := 76) hx hb dX7_pass_18 (by decide) ?_
    refine g_ld (n := 112) (f := f) (v := f 76) (k := 76) hx hb hK hP 1 rfl (by decide) (by unfold vp_in; decide) rfl dX7_pass_20 ?_
    refine lv_iload_n hx hb dX7_pass_21 rfl (lv_at hl 1 rfl) ?_
    refine lv_iadd hx hb dX7_pass_22 ?_
    refine lv_ldc (v := 99999) hx hb hown (hts (.constant RX7 122 99999) (by decide +kernel)) dX7_pass_23 ?_
    refine lv_icmp_le (tgt := 31) hx hb dX7_pass_25 (by decide) (fun c4 => ?_) (fun c4 => ?_)
    · rw [if_pos c4] at hR
      have hok := hok.1 c4
      refine lv_aload_n hx hb dX7_pass_31 rfl (lv_at hl 0 rfl) ?_
      obtain ⟨k6, hok⟩ := hok
      obtain ⟨R5, eR5, hR, hok⟩ := g_let2 hR hok
      refine g_callV (c_X7_records l G mm o f fw R5 eR5 k6) hx hb hml hown hts hK hP hD hS hA gX7_pass_X7_records rfl (n := 0) (by decide +kernel) rfl ⟨Nat.le_of_ble_eq_true rfl, Nat.le_of_ble_eq_true rfl⟩ [0, 1, 2] rfl (by decide) 0 rfl (ci := 7) rfl hl.1 rfl (Nat.le_of_ble_eq_true rfl) ⟨Nat.zero_le _, Nat.zero_le _⟩ dX7_pass_32 (fun H locs hP hD hS => ?_)
      have hP : va_P G.1 vwCl (List.flatten [MO G mm R5.1, AW G (mm 1) 112 f, AW G (mm 3) 448 R5.2]) H := hP
      have hD : va_D A (List.flatten [MO G mm R5.1, AW G (mm 1) 112 f, AW G (mm 3) 448 R5.2]) := hD
      refine lv_iconst (v := 0) hx hb dX7_pass_35 (by decide) ?_
      refine lv_istore_n (lv' := [(2, .int 0), (0, .ref (mm 0)), (1, .int p1)]) hx hb dX7_pass_36 rfl hl (by decide) rfl (fun ls hl => ?_)
      have lp37 : ∀ (n : Nat) (x37_2 : Int32) (w37_1 : (Nat → Int32)) (H : Heap) (locs : List Loc) (ls : Array Slot), R = fl_X7_pass_37 p1 R5 n x37_2 w37_1 → okl_X7_pass_37 p1 n x37_2 w37_1 → va_P G.1 vwCl (List.flatten [MO G mm R5.1, AW G (mm 1) 112 w37_1, AW G (mm 3) 448 R5.2]) H → va_D A (List.flatten [MO G mm R5.1, AW G (mm 1) 112 w37_1, AW G (mm 3) 448 R5.2]) → va_S A s.heap H locs → lv_has ls 3 [(0, .ref (mm 0)), (1, .int p1), (2, .int x37_2)] → W p l e { frames := 7, cells := 0, slots := 0, locals := 152 } s m (List.toArray [.ref (mm 0), .int p1]) below meth c H locs 0 0 (gQ G below (List.toArray [.ref (mm 0), .int p1]) s (some (.int R.1)) [MO G mm R.2.1, AW G (mm 1) 112 R.2.2.1, AW G (mm 3) 448 R.2.2.2] A) (F0 m 37 ls []) := by
        intro n
        induction n with
        | zero =>
          intro x37_2 w37_1 H locs ls hR hok hP hD hS hl
          rw [okl_X7_pass_37] at hok
          exact hok.elim
        | succ n ih =>
          intro x37_2 w37_1 H locs ls hR hok hP hD hS hl
          rw [fl_X7_pass_37] at hR
          rw [okl_X7_pass_37] at hok
          refine lv_iload_n hx hb dX7_pass_37 rfl (lv_at hl 2 rfl) ?_
          refine lv_iload_n hx hb dX7_pass_38 rfl (lv_at hl 1 rfl) ?_
          refine lv_icmp_ge (tgt := 55) hx hb dX7_pass_39 (by decide) (fun c10 => ?_) (fun c10 => ?_)
          · rw [if_pos c10] at hR
            have hok := hok.1 c10
            refine lv_aload_n hx hb dX7_pass_55 rfl (lv_at hl 0 rfl) ?_
            refine g_get (ci := 7) (v := .ref (mm 1)) (C := RX7) (T := TX7) (N := 12) hx hb hts hinX7 hown hK hP 0 rfl rfl 0 (by decide) (hts (.fieldLink RX7 7 "ChargeStagesModel" "s" "[I") (List.mem_of_getElem? (i := 1) rfl)) rfl dX7_pass_56 ?_
            refine lv_bipush (v := 73) hx hb dX7_pass_59 (by decide) ?_
            refine g_ld (n := 112) (f := w37_1) (v := w37_1 73) (k := 73) hx hb hK hP 1 rfl (by decide) (by unfold vp_in; decide) rfl dX7_pass_61 ?_
            subst hR
            exact g_ret hx hb hr hlocks hS dX7_pass_62 rfl hP
          · rw [if_neg c10] at hR
            have hok := hok.2 c10
            refine lv_aload_n hx hb dX7_pass_42 rfl (lv_at hl 0 rfl) ?_
            refine g_get (ci := 7) (v := .ref (mm 1)) (C := RX7) (T := TX7) (N := 12) hx hb hts hinX7 hown hK hP 0 rfl rfl 0 (by decide) (hts (.fieldLink RX7 7 "ChargeStagesModel" "s" "[I") (List.mem_of_getElem? (i := 1) rfl)) rfl dX7_pass_43 ?_
            obtain ⟨k12, hok⟩ := hok
            obtain ⟨R11, eR11, hR, hok⟩ := g_let2 hR hok
            refine g_callS (c_X7_tick l G (mm 1) w37_1 R11 eR11 k12) hx hb hml hown hts hK hP hD hS hA gX7_pass_X7_tick rfl (n := 1) (by decide +kernel) rfl ⟨Nat.le_of_ble_eq_true rfl, Nat.le_of_ble_eq_true rfl⟩ [1] rfl (by decide) hl.1 rfl (Nat.le_of_ble_eq_true rfl) ⟨Nat.zero_le _, Nat.zero_le _⟩ dX7_pass_46 (fun H locs hP hD hS => ?_)
            have hP : va_P G.1 vwCl (List.flatten [MO G mm R5.1, AW G (mm 1) 112 R11, AW G (mm 3) 448 R5.2]) H := hP
            have hD : va_D A (List.flatten [MO G mm R5.1, AW G (mm 1) 112 R11, AW G (mm 3) 448 R5.2]) := hD
            obtain ⟨v13, ev13, hR, hok⟩ := g_let2 hR hok
            refine lv_iinc (v := v13) (lv' := [(2, .int v13), (0, .ref (mm 0)), (1, .int p1)]) hx hb dX7_pass_49 hl (k := 2) rfl (by subst ev13; rfl) (by decide) rfl (fun ls hl => ?_)
            refine lv_goto (tgt := 37) hx hb dX7_pass_52 (by decide) ?_
            exact ih v13 R11 _ _ _ hR hok hP hD hS (lv_sub hl [1, 2, 0] rfl)
      exact lp37 201 0 f _ _ _ hR hok hP hD hS (lv_sub hl [1, 2, 0] rfl)
    · rw [if_neg c4] at hR
      have hok := hok.2 c4
      refine lv_bipush (v := (-3)) hx hb dX7_pass_28 (by decide) ?_
      subst hR
      exact g_ret hx hb hr hlocks hS dX7_pass_30 rfl hP
  · rw [if_pos c3] at hR
    have hok := hok.1 c3
    refine lv_bipush (v := (-2)) hx hb dX7_pass_11 (by decide) ?_
    subst hR
    exact g_ret hx hb hr hlocks hS dX7_pass_13 rfl hP
def f_X7_type (o : (Nat → Int32)) (tx : (Nat → Int32)) (p1 : Int32) : Int32 × (Nat → Int32) × (Nat → Int32) := (if (o 2) = 60 then ((-3), o, tx) else (gL (upd tx ((o 2).toNatClampNeg) (vp_nar .char p1)) (fun (z2 : (Nat → Int32)) => (((o 2) + 1), (upd o 2 ((o 2) + 1)), z2))))
def ok_X7_type (o : (Nat → Int32)) : Prop := (((o 2) = 60 → True) ∧ (¬ (o 2) = 60 → (vp_in (o 2) 60) ∧ True))
set_option maxHeartbeats 4000000 in
set_option maxRecDepth 100000 in
theorem c_X7_type (l : Launch) (G : gG) (mm : Nat → Nat) (o : (Nat → Int32)) (tx : (Nat → Int32)) (p1 : Int32) (R : Int32 × (Nat → Int32) × (Nat → Int32)) (hR : R = f_X7_type o tx p1) (hok : ok_X7_type o) : CT l G yX7_type wsX7_type 0 0 [.ref (mm 0), .int p1] [MO G mm o, CX G (mm 5) tx] (some (.int R.1)) [MO G mm R.2.1, CX G (mm 5) R.2.2] := by
  unfold f_X7_type at hR
  unfold ok_X7_type at hok
  refine CT.of (cc := cX7_type) (maxL := 2) (ret := (some .int)) (plainFor_of_name (by decide +kernel)) rfl rfl (Nat.le_of_ble_eq_true rfl) ?_
  intro p e s m below meth c A ls hx hb hml hr hts hown hlocks hK hP hD hA hS hl
  have hown : s.vm.findClass RX7 = some m.cls := hown
  have hl : lv_has ls 2 [(0, .ref (mm 0)), (1, .int p1)] := hl
  have hinX7 : ∀ w ∈ wsX70, w ∈ wsX7_type := fun w h => List.mem_cons_of_mem _ (List.mem_append_right _ h)
  refine lv_aload_n hx hb dX7_type_0 rfl (lv_at hl 0 rfl) ?_
  refine g_get (ci := 7) (v := .int (o 2)) (C := RX7) (T := TX7) (N := 12) hx hb hts hinX7 hown hK hP 0 rfl rfl 7 (by decide) (hts (.fieldLink RX7 126 "ChargeStagesModel" "length" "I") (List.mem_of_getElem? (i := 1) rfl)) rfl dX7_type_1 ?_
  refine lv_bipush (v := 60) hx hb dX7_type_4 (by decide) ?_
  refine lv_icmp_ne (tgt := 12) hx hb dX7_type_6 (by decide) (fun c1 => ?_) (fun c1 => ?_)
  · rw [if_neg c1] at hR
    have hok := hok.2 c1
    refine lv_aload_n hx hb dX7_type_12 rfl (lv_at hl 0 rfl) ?_
    refine g_get (ci := 7) (v := .ref (mm 5)) (C := RX7) (T := TX7) (N := 12) hx hb hts hinX7 hown hK hP 0 rfl rfl 6 (by decide) (hts (.fieldLink RX7 22 "ChargeStagesModel" "text" "[C") (List.mem_of_getElem? (i := 2) rfl)) rfl dX7_type_13 ?_
    refine lv_aload_n hx hb dX7_type_16 rfl (lv_at hl 0 rfl) ?_
    refine g_get (ci := 7) (v := .int (o 2)) (C := RX7) (T := TX7) (N := 12) hx hb hts hinX7 hown hK hP 0 rfl rfl 7 (by decide) (hts (.fieldLink RX7 126 "ChargeStagesModel" "length" "I") (List.mem_of_getElem? (i := 1) rfl)) rfl dX7_type_17 ?_
    refine lv_iload_n hx hb dX7_type_20 rfl (lv_at hl 1 rfl) ?_
    obtain ⟨k3, hok⟩ := hok
    obtain ⟨z2, ez2, hR⟩ := g_let hR
    refine g_stc (n := 60) (f := tx) (k := ((o 2).toNatClampNeg)) (B2 := [MO G mm o, CX G (mm 5) z2]) hx hb hK hP hD hS 1 rfl rfl k3 (by subst ez2; rfl) dX7_type_21 (fun H locs hP hD hS => ?_)
    refine lv_aload_n hx hb dX7_type_22 rfl (lv_at hl 0 rfl) ?_
    refine lv_dup hx hb dX7_type_23 rfl ?_
    refine g_get (ci := 7) (v := .int (o 2)) (C := RX7) (T := TX7) (N := 12) hx hb hts hinX7 hown hK hP 0 rfl rfl 7 (by decide) (hts (.fieldLink RX7 126 "ChargeStagesModel" "length" "I") (List.mem_of_getElem? (i := 1) rfl)) rfl dX7_type_24 ?_
    refine lv_iconst (v := 1) hx hb dX7_type_27 (by decide) ?_
    refine lv_iadd hx hb dX7_type_28 ?_
    refine g_put (ci := 7) (v := .int ((o 2) + 1)) (ty := .int) (C := RX7) (T := TX7) (N := 12) (B2 := [MO G mm (upd o 2 ((o 2) + 1)), CX G (mm 5) z2]) hx hb hts hinX7 tyX7 tyX7_ok nmX7 hown hK hP hD hS 0 rfl rfl 7 (by decide) (hts (.fieldLink RX7 126 "ChargeStagesModel" "length" "I") (List.mem_of_getElem? (i := 1) rfl)) rfl (by decide +kernel) rfl rfl (Nat.le_of_ble_eq_true rfl) rfl dX7_type_29 (fun H locs hP hD hS => ?_)
    refine lv_aload_n hx hb dX7_type_32 rfl (lv_at hl 0 rfl) ?_
    refine g_get (ci := 7) (v := .int ((o 2) + 1)) (C := RX7) (T := TX7) (N := 12) hx hb hts hinX7 hown hK hP 0 rfl rfl 7 (by decide) (hts (.fieldLink RX7 126 "ChargeStagesModel" "length" "I") (List.mem_of_getElem? (i := 1) rfl)) rfl dX7_type_33 ?_
    subst hR
    exact g_ret hx hb hr hlocks hS dX7_type_36 rfl hP
  · rw [if_pos c1] at hR
    have hok := hok.1 c1
    refine lv_bipush (v := (-3)) hx hb dX7_type_9 (by decide) ?_
    subst hR
    exact g_ret hx hb hr hlocks hS dX7_type_11 rfl hP
def f_X7_clearText (o : (Nat → Int32)) : Int32 × (Nat → Int32) := (gL (o 2) (fun (v1 : Int32) => (v1, (upd o 2 0))))
set_option maxHeartbeats 4000000 in
set_option maxRecDepth 100000 in
theorem c_X7_clearText (l : Launch) (G : gG) (mm : Nat → Nat) (o : (Nat → Int32)) (R : Int32 × (Nat → Int32)) (hR : R = f_X7_clearText o) : CT l G yX7_clearText wsX7_clearText 0 0 [.ref (mm 0)] [MO G mm o] (some (.int R.1)) [MO G mm R.2] := by
  unfold f_X7_clearText at hR
  refine CT.of (cc := cX7_clearText) (maxL := 2) (ret := (some .int)) (plainFor_of_name (by decide +kernel)) rfl rfl (Nat.le_of_ble_eq_true rfl) ?_
  intro p e s m below meth c A ls hx hb hml hr hts hown hlocks hK hP hD hA hS hl
  have hown : s.vm.findClass RX7 = some m.cls := hown
  have hl : lv_has ls 2 [(0, .ref (mm 0))] := hl
  have hinX7 : ∀ w ∈ wsX70, w ∈ wsX7_clearText := fun w h => List.mem_cons_of_mem _ (List.mem_append_right _ h)
  refine lv_aload_n hx hb dX7_clearText_0 rfl (lv_at hl 0 rfl) ?_
  refine g_get (ci := 7) (v := .int (o 2)) (C := RX7) (T := TX7) (N := 12) hx hb hts hinX7 hown hK hP 0 rfl rfl 7 (by decide) (hts (.fieldLink RX7 126 "ChargeStagesModel" "length" "I") (List.mem_of_getElem? (i := 1) rfl)) rfl dX7_clearText_1 ?_
  obtain ⟨v1, ev1, hR⟩ := g_let hR
  refine g_topE ev1.symm ?_
  refine lv_istore_n (lv' := [(1, .int v1), (0, .ref (mm 0))]) hx hb dX7_clearText_4 rfl hl (by decide) rfl (fun ls hl => ?_)
  refine lv_aload_n hx hb dX7_clearText_5 rfl (lv_at hl 1 rfl) ?_
  refine lv_iconst (v := 0) hx hb dX7_clearText_6 (by decide) ?_
  refine g_put (ci := 7) (v := .int 0) (ty := .int) (C := RX7) (T := TX7) (N := 12) (B2 := [MO G mm (upd o 2 0)]) hx hb hts hinX7 tyX7 tyX7_ok nmX7 hown hK hP hD hS 0 rfl rfl 7 (by decide) (hts (.fieldLink RX7 126 "ChargeStagesModel" "length" "I") (List.mem_of_getElem? (i := 1) rfl)) rfl (by decide +kernel) rfl rfl (Nat.le_of_ble_eq_true rfl) rfl dX7_clearText_7 (fun H locs hP hD hS => ?_)
  refine lv_iload_n hx hb dX7_clearText_10 rfl (lv_at hl 0 rfl) ?_
  subst hR
  exact g_ret hx hb hr hlocks hS dX7_clearText_11 rfl hP
def fl_X7_readProfile_62 (R1 : Int32 × (Nat → Int32) × (Nat → Int32)) (R26 : (Nat → Int32) × (Nat → Int32)) : Nat → Int32 → (Nat → Int32) → Int32 × (Nat → Int32) × (Nat → Int32) × (Nat → Int32) × (Nat → Int32)
  | 0, _, _ => ((0 : Int32), (fun _ => 0), (fun _ => 0), (fun _ => 0), (fun _ => 0))
  | n + 1, x62_1, w62_1 => (if 20 ≤ x62_1 then (gL (upd w62_1 72 (R26.1 5)) (fun (z29 : (Nat → Int32)) => (R26.1 5, R26.1, z29, R26.2, R1.2.2))) else (if (4 * (R26.1 5)) ≤ x62_1 then (gL (upd w62_1 ((51 + x62_1).toNatClampNeg) 0) (fun (z31 : (Nat → Int32)) => (gL ((x62_1 + 1)) (fun (v33 : Int32) => (fl_X7_readProfile_62 R1 R26 n v33 z31))))) else (gL (upd w62_1 ((51 + x62_1).toNatClampNeg) (R1.2.2 ((x62_1).toNatClampNeg))) (fun (z35 : (Nat → Int32)) => (gL ((x62_1 + 1)) (fun (v37 : Int32) => (fl_X7_readProfile_62 R1 R26 n v37 z35)))))))
def okl_X7_readProfile_62 (R1 : Int32 × (Nat → Int32) × (Nat → Int32)) (R26 : (Nat → Int32) × (Nat → Int32)) : Nat → Int32 → (Nat → Int32) → Prop
  | 0, _, _ => False
  | n + 1, x62_1, w62_1 => ((20 ≤ x62_1 → True) ∧ (¬ 20 ≤ x62_1 → (((4 * (R26.1 5)) ≤ x62_1 → (vp_in (51 + x62_1) 112) ∧ (gL (upd w62_1 ((51 + x62_1).toNatClampNeg) 0) (fun (z31 : (Nat → Int32)) => (gL ((x62_1 + 1)) (fun (v33 : Int32) => (okl_X7_readProfile_62 R1 R26 n v33 z31)))))) ∧ (¬ (4 * (R26.1 5)) ≤ x62_1 → (vp_in x62_1 20) ∧ (vp_in (51 + x62_1) 112) ∧ (gL (upd w62_1 ((51 + x62_1).toNatClampNeg) (R1.2.2 ((x62_1).toNatClampNeg))) (fun (z35 : (Nat → Int32)) => (gL ((x62_1 + 1)) (fun (v37 : Int32) => (okl_X7_readProfile_62 R1 R26 n v37 z35)))))))))
def fl_X7_readProfile_17 (f : (Nat → Int32)) (fw : (Nat → Int32)) (R1 : Int32 × (Nat → Int32) × (Nat → Int32)) : Nat → Int32 → Int32 × (Nat → Int32) × (Nat → Int32) × (Nat → Int32) × (Nat → Int32)
  | 0, _ => ((0 : Int32), (fun _ => 0), (fun _ => 0), (fun _ => 0), (fun _ => 0))
  | n + 1, x17_1 => (if (R1.2.1 5) ≤ x17_1 then (if (f 73) = 1 then ((-4), R1.2.1, f, fw, R1.2.2) else (gL (f_X7_records R1.2.1 f fw) (fun (R26 : (Nat → Int32) × (Nat → Int32)) => (fl_X7_readProfile_62 R1 R26 21 0 f)))) else (gL (f_X7_isGood R1.2.2 x17_1) (fun (R38 : Int32) => (if R38 = 0 then ((-2), R1.2.1, f, fw, R1.2.2) else (gL ((x17_1 + 1)) (fun (v41 : Int32) => (fl_X7_readProfile_17 f fw R1 n v41)))))))
def okl_X7_readProfile_17 (f : (Nat → Int32)) (fw : (Nat → Int32)) (R1 : Int32 × (Nat → Int32) × (Nat → Int32)) : Nat → Int32 → Prop
  | 0, _ => False
  | n + 1, x17_1 => (((R1.2.1 5) ≤ x17_1 → (((f 73) = 1 → True) ∧ (¬ (f 73) = 1 → (ok_X7_records R1.2.1 f fw) ∧ (gL (f_X7_records R1.2.1 f fw) (fun (R26 : (Nat → Int32) × (Nat → Int32)) => (okl_X7_readProfile_62 R1 R26 21 0 f)))))) ∧ (¬ (R1.2.1 5) ≤ x17_1 → (ok_X7_isGood R1.2.2 x17_1) ∧ (gL (f_X7_isGood R1.2.2 x17_1) (fun (R38 : Int32) => ((R38 = 0 → True) ∧ (¬ R38 = 0 → (gL ((x17_1 + 1)) (fun (v41 : Int32) => (okl_X7_readProfile_17 f fw R1 n v41)))))))))
def f_X7_readProfile (o : (Nat → Int32)) (f : (Nat → Int32)) (fw : (Nat → Int32)) (tx : (Nat → Int32)) (fr : (Nat → Int32)) : Int32 × (Nat → Int32) × (Nat → Int32) × (Nat → Int32) × (Nat → Int32) := (gL (f_X7_readsText o tx fr) (fun (R1 : Int32 × (Nat → Int32) × (Nat → Int32)) => (if R1.1 = 0 then (((-100) - (R1.2.1 3)), R1.2.1, f, fw, R1.2.2) else (fl_X7_readProfile_17 f fw R1 21 0))))
def ok_X7_readProfile (o : (Nat → Int32)) (f : (Nat → Int32)) (fw : (Nat → Int32)) (tx : (Nat → Int32)) (fr : (Nat → Int32)) : Prop := (ok_X7_readsText o tx fr) ∧ (gL (f_X7_readsText o tx fr) (fun (R1 : Int32 × (Nat → Int32) × (Nat → Int32)) => ((R1.1 = 0 → True) ∧ (¬ R1.1 = 0 → (okl_X7_readProfile_17 f fw R1 21 0)))))
set_option maxHeartbeats 4000000 in
set_option maxRecDepth 100000 in
theorem c_X7_readProfile (l : Launch) (G : gG) (mm : Nat → Nat) (o : (Nat → Int32)) (f : (Nat → Int32)) (fw : (Nat → Int32)) (tx : (Nat → Int32)) (fr : (Nat → Int32)) (R : Int32 × (Nat → Int32) × (Nat → Int32) × (Nat → Int32) × (Nat → Int32)) (hR : R = f_X7_readProfile o f fw tx fr) (hok : ok_X7_readProfile o f fw tx fr) : CT l G yX7_readProfile wsX7_readProfile 5 109 [.ref (mm 0)] [MO G mm o, AW G (mm 1) 112 f, AW G (mm 3) 448 fw, CX G (mm 5) tx, AW G (mm 6) 20 fr] (some (.int R.1)) [MO G mm R.2.1, AW G (mm 1) 112 R.2.2.1, AW G (mm 3) 448 R.2.2.2.1, CX G (mm 5) tx, AW G (mm 6) 20 R.2.2.2.2] := by
  unfold f_X7_readProfile at hR
  unfold ok_X7_readProfile at hok
  refine CT.of (cc := cX7_readProfile) (maxL := 2) (ret := (some .int)) (plainFor_of_name (by decide +kernel)) rfl rfl (Nat.le_of_ble_eq_true rfl) ?_
  intro p e s m below meth c A ls hx hb hml hr hts hown hlocks hK hP hD hA hS hl
  have hown : s.vm.findClass RX7 = some m.cls := hown
  have hl : lv_has ls 2 [(0, .ref (mm 0))] := hl
  have hinX7 : ∀ w ∈ wsX70, w ∈ wsX7_readProfile := fun w h => List.mem_cons_of_mem _ (List.mem_append_right _ h)
  refine lv_aload_n hx hb dX7_readProfile_0 rfl (lv_at hl 0 rfl) ?_
  obtain ⟨k2, hok⟩ := hok
  obtain ⟨R1, eR1, hR, hok⟩ := g_let2 hR hok
  refine g_callV (c_X7_readsText l G mm o tx fr R1 eR1 k2) hx hb hml hown hts hK hP hD hS hA gX7_readProfile_X7_readsText rfl (n := 0) (by decide +kernel) rfl ⟨Nat.le_of_ble_eq_true rfl, Nat.le_of_ble_eq_true rfl⟩ [0, 3, 4] rfl (by decide) 0 rfl (ci := 7) rfl hl.1 rfl (Nat.le_of_ble_eq_true rfl) ⟨Nat.zero_le _, Nat.zero_le _⟩ dX7_readProfile_1 (fun H locs hP hD hS => ?_)
  have hP : va_P G.1 vwCl (List.flatten [MO G mm R1.2.1, AW G (mm 1) 112 f, AW G (mm 3) 448 fw, CX G (mm 5) tx, AW G (mm 6) 20 R1.2.2]) H := hP
  have hD : va_D A (List.flatten [MO G mm R1.2.1, AW G (mm 1) 112 f, AW G (mm 3) 448 fw, CX G (mm 5) tx, AW G (mm 6) 20 R1.2.2]) := hD
  refine lv_if_ne (tgt := 15) hx hb dX7_readProfile_4 (by decide) (fun c3 => ?_) (fun c3 => ?_)
  · rw [if_neg c3] at hR
    have hok := hok.2 c3
    refine lv_iconst (v := 0) hx hb dX7_readProfile_15 (by decide) ?_
    refine lv_istore_n (lv' := [(1, .int 0), (0, .ref (mm 0))]) hx hb dX7_readProfile_16 rfl hl (by decide) rfl (fun ls hl => ?_)
    have lp17 : ∀ (n : Nat) (x17_1 : Int32) (H : Heap) (locs : List Loc) (ls : Array Slot), R = fl_X7_readProfile_17 f fw R1 n x17_1 → okl_X7_readProfile_17 f fw R1 n x17_1 → va_P G.1 vwCl (List.flatten [MO G mm R1.2.1, AW G (mm 1) 112 f, AW G (mm 3) 448 fw, CX G (mm 5) tx, AW G (mm 6) 20 R1.2.2]) H → va_D A (List.flatten [MO G mm R1.2.1, AW G (mm 1) 112 f, AW G (mm 3) 448 fw, CX G (mm 5) tx, AW G (mm 6) 20 R1.2.2]) → va_S A s.heap H locs → lv_has ls 2 [(0, .ref (mm 0)), (1, .int x17_1)] → W p l e { frames := 5, cells := 0, slots := 0, locals := 109 } s m (List.toArray [.ref (mm 0)]) below meth c H locs 0 0 (gQ G below (List.toArray [.ref (mm 0)]) s (some (.int R.1)) [MO G mm R.2.1, AW G (mm 1) 112 R.2.2.1, AW G (mm 3) 448 R.2.2.2.1, CX G (mm 5) tx, AW G (mm 6) 20 R.2.2.2.2] A) (F0 m 17 ls []) := by
      intro n
      induction n with
      | zero =>
        intro x17_1 H locs ls hR hok hP hD hS hl
        rw [okl_X7_readProfile_17] at hok
        exact hok.elim
      | succ n ih =>
        intro x17_1 H locs ls hR hok hP hD hS hl
        rw [fl_X7_readProfile_17] at hR
        rw [okl_X7_readProfile_17] at hok
        refine lv_iload_n hx hb dX7_readProfile_17 rfl (lv_at hl 1 rfl) ?_
        refine lv_aload_n hx hb dX7_readProfile_18 rfl (lv_at hl 0 rfl) ?_
        refine g_get (ci := 7) (v := .int (R1.2.1 5)) (C := RX7) (T := TX7) (N := 12) hx hb hts hinX7 hown hK hP 0 rfl rfl 11 (by decide) (hts (.fieldLink RX7 138 "ChargeStagesModel" "reads" "I") (List.mem_of_getElem? (i := 2) rfl)) rfl dX7_readProfile_19 ?_
        refine lv_icmp_ge (tgt := 42) hx hb dX7_readProfile_22 (by decide) (fun c24 => ?_) (fun c24 => ?_)
        · rw [if_pos c24] at hR
          have hok := hok.1 c24
          refine lv_aload_n hx hb dX7_readProfile_42 rfl (lv_at hl 0 rfl) ?_
          refine g_get (ci := 7) (v := .ref (mm 1)) (C := RX7) (T := TX7) (N := 12) hx hb hts hinX7 hown hK hP 0 rfl rfl 0 (by decide) (hts (.fieldLink RX7 7 "ChargeStagesModel" "s" "[I") (List.mem_of_getElem? (i := 3) rfl)) rfl dX7_readProfile_43 ?_
          refine lv_bipush (v := 73) hx hb dX7_readProfile_46 (by decide) ?_
          refine g_ld (n := 112) (f := f) (v := f 73) (k := 73) hx hb hK hP 1 rfl (by decide) (by unfold vp_in; decide) rfl dX7_readProfile_48 ?_
          refine lv_iconst (v := 1) hx hb dX7_readProfile_49 (by decide) ?_
          refine lv_icmp_ne (tgt := 56) hx hb dX7_readProfile_50 (by decide) (fun c25 => ?_) (fun c25 => ?_)
          · rw [if_neg c25] at hR
            have hok := hok.2 c25
            refine lv_aload_n hx hb dX7_readProfile_56 rfl (lv_at hl 0 rfl) ?_
            obtain ⟨k27, hok⟩ := hok
            obtain ⟨R26, eR26, hR, hok⟩ := g_let2 hR hok
            refine g_callV (c_X7_records l G mm R1.2.1 f fw R26 eR26 k27) hx hb hml hown hts hK hP hD hS hA gX7_readProfile_X7_records rfl (n := 0) (by decide +kernel) rfl ⟨Nat.le_of_ble_eq_true rfl, Nat.le_of_ble_eq_true rfl⟩ [0, 1, 2] rfl (by decide) 0 rfl (ci := 7) rfl hl.1 rfl (Nat.le_of_ble_eq_true rfl) ⟨Nat.zero_le _, Nat.zero_le _⟩ dX7_readProfile_57 (fun H locs hP hD hS => ?_)
            have hP : va_P G.1 vwCl (List.flatten [MO G mm R26.1, AW G (mm 1) 112 f, AW G (mm 3) 448 R26.2, CX G (mm 5) tx, AW G (mm 6) 20 R1.2.2]) H := hP
            have hD : va_D A (List.flatten [MO G mm R26.1, AW G (mm 1) 112 f, AW G (mm 3) 448 R26.2, CX G (mm 5) tx, AW G (mm 6) 20 R1.2.2]) := hD
            refine lv_iconst (v := 0) hx hb dX7_readProfile_60 (by decide) ?_
            refine lv_istore_n (lv' := [(1, .int 0), (0, .ref (mm 0))]) hx hb dX7_readProfile_61 rfl hl (by decide) rfl (fun ls hl => ?_)
            have lp62 : ∀ (n : Nat) (x62_1 : Int32) (w62_1 : (Nat → Int32)) (H : Heap) (locs : List Loc) (ls : Array Slot), R = fl_X7_readProfile_62 R1 R26 n x62_1 w62_1 → okl_X7_readProfile_62 R1 R26 n x62_1 w62_1 → va_P G.1 vwCl (List.flatten [MO G mm R26.1, AW G (mm 1) 112 w62_1, AW G (mm 3) 448 R26.2, CX G (mm 5) tx, AW G (mm 6) 20 R1.2.2]) H → va_D A (List.flatten [MO G mm R26.1, AW G (mm 1) 112 w62_1, AW G (mm 3) 448 R26.2, CX G (mm 5) tx, AW G (mm 6) 20 R1.2.2]) → va_S A s.heap H locs → lv_has ls 2 [(0, .ref (mm 0)), (1, .int x62_1)] → W p l e { frames := 5, cells := 0, slots := 0, locals := 109 } s m (List.toArray [.ref (mm 0)]) below meth c H locs 0 0 (gQ G below (List.toArray [.ref (mm 0)]) s (some (.int R.1)) [MO G mm R.2.1, AW G (mm 1) 112 R.2.2.1, AW G (mm 3) 448 R.2.2.2.1, CX G (mm 5) tx, AW G (mm 6) 20 R.2.2.2.2] A) (F0 m 62 ls []) := by
              intro n
              induction n with
              | zero =>
                intro x62_1 w62_1 H locs ls hR hok hP hD hS hl
                rw [okl_X7_readProfile_62] at hok
                exact hok.elim
              | succ n ih =>
                intro x62_1 w62_1 H locs ls hR hok hP hD hS hl
                rw [fl_X7_readProfile_62] at hR
                rw [okl_X7_readProfile_62] at hok
                refine lv_iload_n hx hb dX7_readProfile_62 rfl (lv_at hl 1 rfl) ?_
                refine lv_bipush (v := 20) hx hb dX7_readProfile_63 (by decide) ?_
                refine lv_icmp_ge (tgt := 103) hx hb dX7_readProfile_65 (by decide) (fun c28 => ?_) (fun c28 => ?_)
                · rw [if_pos c28] at hR
                  have hok := hok.1 c28
                  refine lv_aload_n hx hb dX7_readProfile_103 rfl (lv_at hl 0 rfl) ?_
                  refine g_get (ci := 7) (v := .ref (mm 1)) (C := RX7) (T := TX7) (N := 12) hx hb hts hinX7 hown hK hP 0 rfl rfl 0 (by decide) (hts (.fieldLink RX7 7 "ChargeStagesModel" "s" "[I") (List.mem_of_getElem? (i := 3) rfl)) rfl dX7_readProfile_104 ?_
                  refine lv_bipush (v := 72) hx hb dX7_readProfile_107 (by decide) ?_
                  refine lv_aload_n hx hb dX7_readProfile_109 rfl (lv_at hl 0 rfl) ?_
                  refine g_get (ci := 7) (v := .int (R26.1 5)) (C := RX7) (T := TX7) (N := 12) hx hb hts hinX7 hown hK hP 0 rfl rfl 11 (by decide) (hts (.fieldLink RX7 138 "ChargeStagesModel" "reads" "I") (List.mem_of_getElem? (i := 2) rfl)) rfl dX7_readProfile_110 ?_
                  obtain ⟨z29, ez29, hR⟩ := g_let hR
                  refine g_st (n := 112) (f := w62_1) (k := 72) (B2 := [MO G mm R26.1, AW G (mm 1) 112 z29, AW G (mm 3) 448 R26.2, CX G (mm 5) tx, AW G (mm 6) 20 R1.2.2]) hx hb hK hP hD hS 1 rfl (by decide) (by unfold vp_in; decide) (by subst ez29; rfl) dX7_readProfile_113 (fun H locs hP hD hS => ?_)
                  refine lv_aload_n hx hb dX7_readProfile_114 rfl (lv_at hl 0 rfl) ?_
                  refine g_get (ci := 7) (v := .int (R26.1 5)) (C := RX7) (T := TX7) (N := 12) hx hb hts hinX7 hown hK hP 0 rfl rfl 11 (by decide) (hts (.fieldLink RX7 138 "ChargeStagesModel" "reads" "I") (List.mem_of_getElem? (i := 2) rfl)) rfl dX7_readProfile_115 ?_
                  subst hR
                  exact g_ret hx hb hr hlocks hS dX7_readProfile_118 rfl hP
                · rw [if_neg c28] at hR
                  have hok := hok.2 c28
                  refine lv_aload_n hx hb dX7_readProfile_68 rfl (lv_at hl 0 rfl) ?_
                  refine g_get (ci := 7) (v := .ref (mm 1)) (C := RX7) (T := TX7) (N := 12) hx hb hts hinX7 hown hK hP 0 rfl rfl 0 (by decide) (hts (.fieldLink RX7 7 "ChargeStagesModel" "s" "[I") (List.mem_of_getElem? (i := 3) rfl)) rfl dX7_readProfile_69 ?_
                  refine lv_bipush (v := 51) hx hb dX7_readProfile_72 (by decide) ?_
                  refine lv_iload_n hx hb dX7_readProfile_74 rfl (lv_at hl 1 rfl) ?_
                  refine lv_iadd hx hb dX7_readProfile_75 ?_
                  refine lv_iload_n hx hb dX7_readProfile_76 rfl (lv_at hl 1 rfl) ?_
                  refine lv_iconst (v := 4) hx hb dX7_readProfile_77 (by decide) ?_
                  refine lv_aload_n hx hb dX7_readProfile_78 rfl (lv_at hl 0 rfl) ?_
                  refine g_get (ci := 7) (v := .int (R26.1 5)) (C := RX7) (T := TX7) (N := 12) hx hb hts hinX7 hown hK hP 0 rfl rfl 11 (by decide) (hts (.fieldLink RX7 138 "ChargeStagesModel" "reads" "I") (List.mem_of_getElem? (i := 2) rfl)) rfl dX7_readProfile_79 ?_
                  refine lv_imul hx hb dX7_readProfile_82 ?_
                  refine lv_icmp_ge (tgt := 95) hx hb dX7_readProfile_83 (by decide) (fun c30 => ?_) (fun c30 => ?_)
                  · rw [if_pos c30] at hR
                    have hok := hok.1 c30
                    refine lv_iconst (v := 0) hx hb dX7_readProfile_95 (by decide) ?_
                    obtain ⟨k32, hok⟩ := hok
                    obtain ⟨z31, ez31, hR, hok⟩ := g_let2 hR hok
                    refine g_st (n := 112) (f := w62_1) (k := ((51 + x62_1).toNatClampNeg)) (B2 := [MO G mm R26.1, AW G (mm 1) 112 z31, AW G (mm 3) 448 R26.2, CX G (mm 5) tx, AW G (mm 6) 20 R1.2.2]) hx hb hK hP hD hS 1 rfl rfl k32 (by subst ez31; rfl) dX7_readProfile_96 (fun H locs hP hD hS => ?_)
                    obtain ⟨v33, ev33, hR, hok⟩ := g_let2 hR hok
                    refine lv_iinc (v := v33) (lv' := [(1, .int v33), (0, .ref (mm 0))]) hx hb dX7_readProfile_97 hl (k := 1) rfl (by subst ev33; rfl) (by decide) rfl (fun ls hl => ?_)
                    refine lv_goto (tgt := 62) hx hb dX7_readProfile_100 (by decide) ?_
                    exact ih v33 z31 _ _ _ hR hok hP hD hS (lv_sub hl [1, 0] rfl)
                  · rw [if_neg c30] at hR
                    have hok := hok.2 c30
                    refine lv_aload_n hx hb dX7_readProfile_86 rfl (lv_at hl 0 rfl) ?_
                    refine g_get (ci := 7) (v := .ref (mm 6)) (C := RX7) (T := TX7) (N := 12) hx hb hts hinX7 hown hK hP 0 rfl rfl 10 (by decide) (hts (.fieldLink RX7 26 "ChargeStagesModel" "read" "[I") (List.mem_of_getElem? (i := 4) rfl)) rfl dX7_readProfile_87 ?_
                    refine lv_iload_n hx hb dX7_readProfile_90 rfl (lv_at hl 1 rfl) ?_
                    obtain ⟨k34, hok⟩ := hok
                    refine g_ld (n := 20) (f := R1.2.2) (v := R1.2.2 ((x62_1).toNatClampNeg)) (k := ((x62_1).toNatClampNeg)) hx hb hK hP 4 rfl rfl k34 rfl dX7_readProfile_91 ?_
                    refine lv_goto (tgt := 96) hx hb dX7_readProfile_92 (by decide) ?_
                    obtain ⟨k36, hok⟩ := hok
                    obtain ⟨z35, ez35, hR, hok⟩ := g_let2 hR hok
                    refine g_st (n := 112) (f := w62_1) (k := ((51 + x62_1).toNatClampNeg)) (B2 := [MO G mm R26.1, AW G (mm 1) 112 z35, AW G (mm 3) 448 R26.2, CX G (mm 5) tx, AW G (mm 6) 20 R1.2.2]) hx hb hK hP hD hS 1 rfl rfl k36 (by subst ez35; rfl) dX7_readProfile_96 (fun H locs hP hD hS => ?_)
                    obtain ⟨v37, ev37, hR, hok⟩ := g_let2 hR hok
                    refine lv_iinc (v := v37) (lv' := [(1, .int v37), (0, .ref (mm 0))]) hx hb dX7_readProfile_97 hl (k := 1) rfl (by subst ev37; rfl) (by decide) rfl (fun ls hl => ?_)
                    refine lv_goto (tgt := 62) hx hb dX7_readProfile_100 (by decide) ?_
                    exact ih v37 z35 _ _ _ hR hok hP hD hS (lv_sub hl [1, 0] rfl)
            exact lp62 21 0 f _ _ _ hR hok hP hD hS (lv_sub hl [1, 0] rfl)
          · rw [if_pos c25] at hR
            have hok := hok.1 c25
            refine lv_bipush (v := (-4)) hx hb dX7_readProfile_53 (by decide) ?_
            subst hR
            exact g_ret hx hb hr hlocks hS dX7_readProfile_55 rfl hP
        · rw [if_neg c24] at hR
          have hok := hok.2 c24
          refine lv_aload_n hx hb dX7_readProfile_25 rfl (lv_at hl 0 rfl) ?_
          refine lv_iload_n hx hb dX7_readProfile_26 rfl (lv_at hl 1 rfl) ?_
          obtain ⟨k39, hok⟩ := hok
          obtain ⟨R38, eR38, hR, hok⟩ := g_let2 hR hok
          refine g_callV (c_X7_isGood l G mm R1.2.1 R1.2.2 x17_1 R38 eR38 k39) hx hb hml hown hts hK hP hD hS hA gX7_readProfile_X7_isGood rfl (n := 1) (by decide +kernel) rfl ⟨Nat.le_of_ble_eq_true rfl, Nat.le_of_ble_eq_true rfl⟩ [0, 4] rfl (by decide) 0 rfl (ci := 7) rfl hl.1 rfl (Nat.le_of_ble_eq_true rfl) ⟨Nat.zero_le _, Nat.zero_le _⟩ dX7_readProfile_27 (fun H locs hP hD hS => ?_)
          have hP : va_P G.1 vwCl (List.flatten [MO G mm R1.2.1, AW G (mm 1) 112 f, AW G (mm 3) 448 fw, CX G (mm 5) tx, AW G (mm 6) 20 R1.2.2]) H := hP
          have hD : va_D A (List.flatten [MO G mm R1.2.1, AW G (mm 1) 112 f, AW G (mm 3) 448 fw, CX G (mm 5) tx, AW G (mm 6) 20 R1.2.2]) := hD
          refine lv_if_ne (tgt := 36) hx hb dX7_readProfile_30 (by decide) (fun c40 => ?_) (fun c40 => ?_)
          · rw [if_neg c40] at hR
            have hok := hok.2 c40
            obtain ⟨v41, ev41, hR, hok⟩ := g_let2 hR hok
            refine lv_iinc (v := v41) (lv' := [(1, .int v41), (0, .ref (mm 0))]) hx hb dX7_readProfile_36 hl (k := 1) rfl (by subst ev41; rfl) (by decide) rfl (fun ls hl => ?_)
            refine lv_goto (tgt := 17) hx hb dX7_readProfile_39 (by decide) ?_
            exact ih v41 _ _ _ hR hok hP hD hS (lv_sub hl [1, 0] rfl)
          · rw [if_pos c40] at hR
            have hok := hok.1 c40
            refine lv_bipush (v := (-2)) hx hb dX7_readProfile_33 (by decide) ?_
            subst hR
            exact g_ret hx hb hr hlocks hS dX7_readProfile_35 rfl hP
    exact lp17 21 0 _ _ _ hR hok hP hD hS (lv_sub hl [1, 0] rfl)
  · rw [if_pos c3] at hR
    have hok := hok.1 c3
    refine lv_bipush (v := (-100)) hx hb dX7_readProfile_7 (by decide) ?_
    refine lv_aload_n hx hb dX7_readProfile_9 rfl (lv_at hl 0 rfl) ?_
    refine g_get (ci := 7) (v := .int (R1.2.1 3)) (C := RX7) (T := TX7) (N := 12) hx hb hts hinX7 hown hK hP 0 rfl rfl 8 (by decide) (hts (.fieldLink RX7 129 "ChargeStagesModel" "at" "I") (List.mem_of_getElem? (i := 1) rfl)) rfl dX7_readProfile_10 ?_
    refine lv_isub hx hb dX7_readProfile_13 ?_
    subst hR
    exact g_ret hx hb hr hlocks hS dX7_readProfile_14 rfl hP
