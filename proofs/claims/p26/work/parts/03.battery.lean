def f_X0_has (b : (Nat → Nat → Int32)) (p1 : Int32) : Int32 := (if p1 < 0 then 0 else (if ((b 0) 0) ≤ p1 then 0 else 1))
set_option maxHeartbeats 4000000 in
set_option maxRecDepth 100000 in
theorem c_X0_has (l : Launch) (G : gG) (a : Nat → Nat) (b : (Nat → Nat → Int32)) (p1 : Int32) (R : Int32) (hR : R = f_X0_has b p1) : CT l G yX0_has wsX0_has 0 0 [.ref (a 0), .int p1] [BW G a b] (some (.int R)) [BW G a b] := by
  unfold f_X0_has at hR
  refine CT.of (cc := cX0_has) (maxL := 2) (ret := (some .boolean)) (plainFor_of_name (by decide +kernel)) rfl rfl (Nat.le_of_ble_eq_true rfl) ?_
  intro p e s m below meth c A ls hx hb hml hr hts hown hlocks hK hP hD hA hS hl
  have hown : s.vm.findClass RX0 = some m.cls := hown
  have hl : lv_has ls 2 [(0, .ref (a 0)), (1, .int p1)] := hl
  have hinX0 : ∀ w ∈ wsX00, w ∈ wsX0_has := fun w h => List.mem_cons_of_mem _ (List.mem_append_right _ h)
  refine lv_iload_n hx hb dX0_has_0 rfl (lv_at hl 1 rfl) ?_
  refine lv_if_lt (tgt := 16) hx hb dX0_has_1 (by decide) (fun c1 => ?_) (fun c1 => ?_)
  · rw [if_pos c1] at hR
    refine lv_iconst (v := 0) hx hb dX0_has_16 (by decide) ?_
    subst hR
    exact g_retz hx hb hr hlocks hS rfl dX0_has_17 rfl hP
  · rw [if_neg c1] at hR
    refine lv_iload_n hx hb dX0_has_4 rfl (lv_at hl 1 rfl) ?_
    refine lv_aload_n hx hb dX0_has_5 rfl (lv_at hl 0 rfl) ?_
    refine g_get (ci := 0) (v := .int ((b 0) 0)) (C := RX0) (T := TX0) (N := 8) hx hb hts hinX0 hown hK hP 0 rfl rfl 0 (by decide) (hts (.fieldLink RX0 9 "ChargeStages$Battery" "cells" "I") (List.mem_of_getElem? (i := 1) rfl)) rfl dX0_has_6 ?_
    refine lv_icmp_ge (tgt := 16) hx hb dX0_has_9 (by decide) (fun c2 => ?_) (fun c2 => ?_)
    · rw [if_pos c2] at hR
      refine lv_iconst (v := 0) hx hb dX0_has_16 (by decide) ?_
      subst hR
      exact g_retz hx hb hr hlocks hS rfl dX0_has_17 rfl hP
    · rw [if_neg c2] at hR
      refine lv_iconst (v := 1) hx hb dX0_has_12 (by decide) ?_
      refine lv_goto (tgt := 17) hx hb dX0_has_13 (by decide) ?_
      subst hR
      exact g_retz hx hb hr hlocks hS rfl dX0_has_17 rfl hP
def fl_X0_putEmpty_16  : Nat → Int32 → (Nat → Nat → Int32) → (Nat → Nat → Int32)
  | 0, _, _ => (fun _ _ => 0)
  | n + 1, x16_2, w16_0 => (if 6 ≤ x16_2 then w16_0 else (gL (upd (w16_0 1) ((x16_2).toNatClampNeg) 0) (fun (z9 : (Nat → Int32)) => (gL (upd (w16_0 2) ((x16_2).toNatClampNeg) 0) (fun (z11 : (Nat → Int32)) => (gL (upd (w16_0 3) ((x16_2).toNatClampNeg) 0) (fun (z13 : (Nat → Int32)) => (gL (upd (w16_0 4) ((x16_2).toNatClampNeg) 0) (fun (z15 : (Nat → Int32)) => (gL (upd (w16_0 5) ((x16_2).toNatClampNeg) 0) (fun (z17 : (Nat → Int32)) => (gL (upd (w16_0 6) ((x16_2).toNatClampNeg) 0) (fun (z19 : (Nat → Int32)) => (gL (upd (w16_0 7) ((x16_2).toNatClampNeg) 0) (fun (z21 : (Nat → Int32)) => (gL ((x16_2 + 1)) (fun (v23 : Int32) => (fl_X0_putEmpty_16 n v23 (sF (sF (sF (sF (sF (sF (sF w16_0 1 z9) 2 z11) 3 z13) 4 z15) 5 z17) 6 z19) 7 z21)))))))))))))))))))
def okl_X0_putEmpty_16  : Nat → Int32 → (Nat → Nat → Int32) → Prop
  | 0, _, _ => False
  | n + 1, x16_2, w16_0 => ((6 ≤ x16_2 → True) ∧ (¬ 6 ≤ x16_2 → (vp_in x16_2 6) ∧ (gL (upd (w16_0 1) ((x16_2).toNatClampNeg) 0) (fun (z9 : (Nat → Int32)) => (vp_in x16_2 6) ∧ (gL (upd (w16_0 2) ((x16_2).toNatClampNeg) 0) (fun (z11 : (Nat → Int32)) => (vp_in x16_2 6) ∧ (gL (upd (w16_0 3) ((x16_2).toNatClampNeg) 0) (fun (z13 : (Nat → Int32)) => (vp_in x16_2 6) ∧ (gL (upd (w16_0 4) ((x16_2).toNatClampNeg) 0) (fun (z15 : (Nat → Int32)) => (vp_in x16_2 6) ∧ (gL (upd (w16_0 5) ((x16_2).toNatClampNeg) 0) (fun (z17 : (Nat → Int32)) => (vp_in x16_2 6) ∧ (gL (upd (w16_0 6) ((x16_2).toNatClampNeg) 0) (fun (z19 : (Nat → Int32)) => (vp_in x16_2 6) ∧ (gL (upd (w16_0 7) ((x16_2).toNatClampNeg) 0) (fun (z21 : (Nat → Int32)) => (gL ((x16_2 + 1)) (fun (v23 : Int32) => (okl_X0_putEmpty_16 n v23 (sF (sF (sF (sF (sF (sF (sF w16_0 1 z9) 2 z11) 3 z13) 4 z15) 5 z17) 6 z19) 7 z21))))))))))))))))))))
def f_X0_putEmpty (b : (Nat → Nat → Int32)) (p1 : Int32) : (Nat → Nat → Int32) := (fl_X0_putEmpty_16 7 0 (sF b 0 (upd (b 0) 0 (gmax 1 (gmin p1 6)))))
def ok_X0_putEmpty (b : (Nat → Nat → Int32)) (p1 : Int32) : Prop := (okl_X0_putEmpty_16 7 0 (sF b 0 (upd (b 0) 0 (gmax 1 (gmin p1 6)))))
set_option maxHeartbeats 4000000 in
set_option maxRecDepth 100000 in
theorem c_X0_putEmpty (l : Launch) (G : gG) (a : Nat → Nat) (b : (Nat → Nat → Int32)) (p1 : Int32) (R : (Nat → Nat → Int32)) (hR : R = f_X0_putEmpty b p1) (hok : ok_X0_putEmpty b p1) : CT l G yX0_putEmpty wsX0_putEmpty 1 15 [.ref (a 0), .int p1] [BW G a b] none [BW G a R] := by
  unfold f_X0_putEmpty at hR
  unfold ok_X0_putEmpty at hok
  refine CT.of (cc := cX0_putEmpty) (maxL := 3) (ret := none) (plainFor_of_name (by decide +kernel)) rfl rfl (Nat.le_of_ble_eq_true rfl) ?_
  intro p e s m below meth c A ls hx hb hml hr hts hown hlocks hK hP hD hA hS hl
  have hown : s.vm.findClass RX0 = some m.cls := hown
  have hl : lv_has ls 3 [(0, .ref (a 0)), (1, .int p1)] := hl
  have hinX0 : ∀ w ∈ wsX00, w ∈ wsX0_putEmpty := fun w h => List.mem_cons_of_mem _ (List.mem_append_right _ h)
  refine lv_aload_n hx hb dX0_putEmpty_0 rfl (lv_at hl 0 rfl) ?_
  refine lv_iconst (v := 1) hx hb dX0_putEmpty_1 (by decide) ?_
  refine lv_iload_n hx hb dX0_putEmpty_2 rfl (lv_at hl 1 rfl) ?_
  refine lv_bipush (v := 6) hx hb dX0_putEmpty_3 (by decide) ?_
  refine va_mmin hx hb (hml.trans hl.1.symm) hown (hts (.methodLink RX0 37 Lib.Math.min.name) (List.mem_of_getElem? (i := 1) rfl)) (hts (.static Lib.Math.min.name) (List.mem_of_getElem? (i := 2) rfl)) (hts (.initialized "java/lang/Math") (List.mem_of_getElem? (i := 3) rfl)) (hts (.code Lib.Math.min.name Lib.Math.min.code 2 (some .int)) (List.mem_of_getElem? (i := 4) rfl)) (Nat.le_of_ble_eq_true rfl) (Nat.le_of_ble_eq_true rfl) (Nat.zero_le _) (Nat.zero_le _) dX0_putEmpty_5 ?_
  refine g_topE (y := (gmin p1 6)) rfl ?_
  refine va_mmax hx hb (hml.trans hl.1.symm) hown (hts (.methodLink RX0 43 Lib.Math.max.name) (List.mem_of_getElem? (i := 5) rfl)) (hts (.static Lib.Math.max.name) (List.mem_of_getElem? (i := 6) rfl)) (hts (.initialized "java/lang/Math") (List.mem_of_getElem? (i := 3) rfl)) (hts (.code Lib.Math.max.name Lib.Math.max.code 2 (some .int)) (List.mem_of_getElem? (i := 7) rfl)) (Nat.le_of_ble_eq_true rfl) (Nat.le_of_ble_eq_true rfl) (Nat.zero_le _) (Nat.zero_le _) dX0_putEmpty_8 ?_
  refine g_topE (y := (gmax 1 (gmin p1 6))) rfl ?_
  refine g_put (ci := 0) (v := .int (gmax 1 (gmin p1 6))) (ty := .int) (C := RX0) (T := TX0) (N := 8) (B2 := [BW G a (sF b 0 (upd (b 0) 0 (gmax 1 (gmin p1 6))))]) hx hb hts hinX0 tyX0 tyX0_ok nmX0 hown hK hP hD hS 0 rfl rfl 0 (by decide) (hts (.fieldLink RX0 9 "ChargeStages$Battery" "cells" "I") (List.mem_of_getElem? (i := 8) rfl)) rfl (by decide +kernel) rfl rfl (Nat.le_of_ble_eq_true rfl) rfl dX0_putEmpty_11 (fun H locs hP hD hS => ?_)
  refine lv_iconst (v := 0) hx hb dX0_putEmpty_14 (by decide) ?_
  refine lv_istore_n (lv' := [(2, .int 0), (0, .ref (a 0)), (1, .int p1)]) hx hb dX0_putEmpty_15 rfl hl (by decide) rfl (fun ls hl => ?_)
  have lp16 : ∀ (n : Nat) (x16_2 : Int32) (w16_0 : (Nat → Nat → Int32)) (H : Heap) (locs : List Loc) (ls : Array Slot), R = fl_X0_putEmpty_16 n x16_2 w16_0 → okl_X0_putEmpty_16 n x16_2 w16_0 → va_P G.1 vwCl (List.flatten [BW G a w16_0]) H → va_D A (List.flatten [BW G a w16_0]) → va_S A s.heap H locs → lv_has ls 3 [(0, .ref (a 0)), (1, .int p1), (2, .int x16_2)] → W p l e { frames := 1, cells := 0, slots := 0, locals := 15 } s m (List.toArray [.ref (a 0), .int p1]) below meth c H locs 0 0 (gQ G below (List.toArray [.ref (a 0), .int p1]) s none [BW G a R] A) (F0 m 16 ls []) := by
    intro n
    induction n with
    | zero =>
      intro x16_2 w16_0 H locs ls hR hok hP hD hS hl
      rw [okl_X0_putEmpty_16] at hok
      exact hok.elim
    | succ n ih =>
      intro x16_2 w16_0 H locs ls hR hok hP hD hS hl
      rw [fl_X0_putEmpty_16] at hR
      rw [okl_X0_putEmpty_16] at hok
      refine lv_iload_n hx hb dX0_putEmpty_16 rfl (lv_at hl 2 rfl) ?_
      refine lv_bipush (v := 6) hx hb dX0_putEmpty_17 (by decide) ?_
      refine lv_icmp_ge (tgt := 77) hx hb dX0_putEmpty_19 (by decide) (fun c8 => ?_) (fun c8 => ?_)
      · rw [if_pos c8] at hR
        have hok := hok.1 c8
        subst hR
        exact g_retv hx hb hr hlocks hS dX0_putEmpty_77 rfl hP
      · rw [if_neg c8] at hR
        have hok := hok.2 c8
        refine lv_aload_n hx hb dX0_putEmpty_22 rfl (lv_at hl 0 rfl) ?_
        refine g_get (ci := 0) (v := .ref (a 1)) (C := RX0) (T := TX0) (N := 8) hx hb hts hinX0 hown hK hP 0 rfl rfl 1 (by decide) (hts (.fieldLink RX0 15 "ChargeStages$Battery" "charge" "[I") (List.mem_of_getElem? (i := 9) rfl)) rfl dX0_putEmpty_23 ?_
        refine lv_iload_n hx hb dX0_putEmpty_26 rfl (lv_at hl 2 rfl) ?_
        refine lv_iconst (v := 0) hx hb dX0_putEmpty_27 (by decide) ?_
        obtain ⟨k10, hok⟩ := hok
        obtain ⟨z9, ez9, hR, hok⟩ := g_let2 hR hok
        refine g_st (n := 6) (f := (w16_0 1)) (k := ((x16_2).toNatClampNeg)) (B2 := [BW G a (sF w16_0 1 z9)]) hx hb hK hP hD hS 1 rfl rfl k10 (by subst ez9; rfl) dX0_putEmpty_28 (fun H locs hP hD hS => ?_)
        refine lv_aload_n hx hb dX0_putEmpty_29 rfl (lv_at hl 0 rfl) ?_
        refine g_get (ci := 0) (v := .ref (a 2)) (C := RX0) (T := TX0) (N := 8) hx hb hts hinX0 hown hK hP 0 rfl rfl 2 (by decide) (hts (.fieldLink RX0 19 "ChargeStages$Battery" "rest" "[I") (List.mem_of_getElem? (i := 10) rfl)) rfl dX0_putEmpty_30 ?_
        refine lv_iload_n hx hb dX0_putEmpty_33 rfl (lv_at hl 2 rfl) ?_
        refine lv_iconst (v := 0) hx hb dX0_putEmpty_34 (by decide) ?_
        obtain ⟨k12, hok⟩ := hok
        obtain ⟨z11, ez11, hR, hok⟩ := g_let2 hR hok
        refine g_st (n := 6) (f := (w16_0 2)) (k := ((x16_2).toNatClampNeg)) (B2 := [BW G a (sF (sF w16_0 1 z9) 2 z11)]) hx hb hK hP hD hS 2 rfl rfl k12 (by subst ez11; rfl) dX0_putEmpty_35 (fun H locs hP hD hS => ?_)
        refine lv_aload_n hx hb dX0_putEmpty_36 rfl (lv_at hl 0 rfl) ?_
        refine g_get (ci := 0) (v := .ref (a 3)) (C := RX0) (T := TX0) (N := 8) hx hb hts hinX0 hown hK hP 0 rfl rfl 3 (by decide) (hts (.fieldLink RX0 22 "ChargeStages$Battery" "cameIn" "[I") (List.mem_of_getElem? (i := 11) rfl)) rfl dX0_putEmpty_37 ?_
        refine lv_iload_n hx hb dX0_putEmpty_40 rfl (lv_at hl 2 rfl) ?_
        refine lv_iconst (v := 0) hx hb dX0_putEmpty_41 (by decide) ?_
        obtain ⟨k14, hok⟩ := hok
        obtain ⟨z13, ez13, hR, hok⟩ := g_let2 hR hok
        refine g_st (n := 6) (f := (w16_0 3)) (k := ((x16_2).toNatClampNeg)) (B2 := [BW G a (sF (sF (sF w16_0 1 z9) 2 z11) 3 z13)]) hx hb hK hP hD hS 3 rfl rfl k14 (by subst ez13; rfl) dX0_putEmpty_42 (fun H locs hP hD hS => ?_)
        refine lv_aload_n hx hb dX0_putEmpty_43 rfl (lv_at hl 0 rfl) ?_
        refine g_get (ci := 0) (v := .ref (a 4)) (C := RX0) (T := TX0) (N := 8) hx hb hts hinX0 hown hK hP 0 rfl rfl 4 (by decide) (hts (.fieldLink RX0 25 "ChargeStages$Battery" "stored" "[I") (List.mem_of_getElem? (i := 12) rfl)) rfl dX0_putEmpty_44 ?_
        refine lv_iload_n hx hb dX0_putEmpty_47 rfl (lv_at hl 2 rfl) ?_
        refine lv_iconst (v := 0) hx hb dX0_putEmpty_48 (by decide) ?_
        obtain ⟨k16, hok⟩ := hok
        obtain ⟨z15, ez15, hR, hok⟩ := g_let2 hR hok
        refine g_st (n := 6) (f := (w16_0 4)) (k := ((x16_2).toNatClampNeg)) (B2 := [BW G a (sF (sF (sF (sF w16_0 1 z9) 2 z11) 3 z13) 4 z15)]) hx hb hK hP hD hS 4 rfl rfl k16 (by subst ez15; rfl) dX0_putEmpty_49 (fun H locs hP hD hS => ?_)
        refine lv_aload_n hx hb dX0_putEmpty_50 rfl (lv_at hl 0 rfl) ?_
        refine g_get (ci := 0) (v := .ref (a 5)) (C := RX0) (T := TX0) (N := 8) hx hb hts hinX0 hown hK hP 0 rfl rfl 5 (by decide) (hts (.fieldLink RX0 28 "ChargeStages$Battery" "spilled" "[I") (List.mem_of_getElem? (i := 13) rfl)) rfl dX0_putEmpty_51 ?_
        refine lv_iload_n hx hb dX0_putEmpty_54 rfl (lv_at hl 2 rfl) ?_
        refine lv_iconst (v := 0) hx hb dX0_putEmpty_55 (by decide) ?_
        obtain ⟨k18, hok⟩ := hok
        obtain ⟨z17, ez17, hR, hok⟩ := g_let2 hR hok
        refine g_st (n := 6) (f := (w16_0 5)) (k := ((x16_2).toNatClampNeg)) (B2 := [BW G a (sF (sF (sF (sF (sF w16_0 1 z9) 2 z11) 3 z13) 4 z15) 5 z17)]) hx hb hK hP hD hS 5 rfl rfl k18 (by subst ez17; rfl) dX0_putEmpty_56 (fun H locs hP hD hS => ?_)
        refine lv_aload_n hx hb dX0_putEmpty_57 rfl (lv_at hl 0 rfl) ?_
        refine g_get (ci := 0) (v := .ref (a 6)) (C := RX0) (T := TX0) (N := 8) hx hb hts hinX0 hown hK hP 0 rfl rfl 6 (by decide) (hts (.fieldLink RX0 31 "ChargeStages$Battery" "bled" "[I") (List.mem_of_getElem? (i := 14) rfl)) rfl dX0_putEmpty_58 ?_
        refine lv_iload_n hx hb dX0_putEmpty_61 rfl (lv_at hl 2 rfl) ?_
        refine lv_iconst (v := 0) hx hb dX0_putEmpty_62 (by decide) ?_
        obtain ⟨k20, hok⟩ := hok
        obtain ⟨z19, ez19, hR, hok⟩ := g_let2 hR hok
        refine g_st (n := 6) (f := (w16_0 6)) (k := ((x16_2).toNatClampNeg)) (B2 := [BW G a (sF (sF (sF (sF (sF (sF w16_0 1 z9) 2 z11) 3 z13) 4 z15) 5 z17) 6 z19)]) hx hb hK hP hD hS 6 rfl rfl k20 (by subst ez19; rfl) dX0_putEmpty_63 (fun H locs hP hD hS => ?_)
        refine lv_aload_n hx hb dX0_putEmpty_64 rfl (lv_at hl 0 rfl) ?_
        refine g_get (ci := 0) (v := .ref (a 7)) (C := RX0) (T := TX0) (N := 8) hx hb hts hinX0 hown hK hP 0 rfl rfl 7 (by decide) (hts (.fieldLink RX0 34 "ChargeStages$Battery" "used" "[I") (List.mem_of_getElem? (i := 15) rfl)) rfl dX0_putEmpty_65 ?_
        refine lv_iload_n hx hb dX0_putEmpty_68 rfl (lv_at hl 2 rfl) ?_
        refine lv_iconst (v := 0) hx hb dX0_putEmpty_69 (by decide) ?_
        obtain ⟨k22, hok⟩ := hok
        obtain ⟨z21, ez21, hR, hok⟩ := g_let2 hR hok
        refine g_st (n := 6) (f := (w16_0 7)) (k := ((x16_2).toNatClampNeg)) (B2 := [BW G a (sF (sF (sF (sF (sF (sF (sF w16_0 1 z9) 2 z11) 3 z13) 4 z15) 5 z17) 6 z19) 7 z21)]) hx hb hK hP hD hS 7 rfl rfl k22 (by subst ez21; rfl) dX0_putEmpty_70 (fun H locs hP hD hS => ?_)
        obtain ⟨v23, ev23, hR, hok⟩ := g_let2 hR hok
        refine lv_iinc (v := v23) (lv' := [(2, .int v23), (0, .ref (a 0)), (1, .int p1)]) hx hb dX0_putEmpty_71 hl (k := 2) rfl (by subst ev23; rfl) (by decide) rfl (fun ls hl => ?_)
        refine lv_goto (tgt := 16) hx hb dX0_putEmpty_74 (by decide) ?_
        exact ih v23 (sF (sF (sF (sF (sF (sF (sF w16_0 1 z9) 2 z11) 3 z13) 4 z15) 5 z17) 6 z19) 7 z21) _ _ _ hR hok hP hD hS (lv_sub hl [1, 2, 0] rfl)
  exact lp16 7 0 (sF b 0 (upd (b 0) 0 (gmax 1 (gmin p1 6)))) _ _ _ hR hok hP hD hS (lv_sub hl [1, 2, 0] rfl)
set_option maxHeartbeats 4000000 in
set_option maxRecDepth 100000 in
theorem c_X0_copyFrom (l : Launch) (G : gG) (a : Nat → Nat) (h : Nat → Nat) (b : (Nat → Nat → Int32)) (b2 : (Nat → Nat → Int32)) : CT l G yX0_copyFrom wsX0_copyFrom 1 18 [.ref (a 0), .ref (h 0)] [BW G a b, BW G h b2] none [BW G a b2, BW G h b2] := by
  refine CT.of (cc := cX0_copyFrom) (maxL := 2) (ret := none) (plainFor_of_name (by decide +kernel)) rfl rfl (Nat.le_of_ble_eq_true rfl) ?_
  intro p e s m below meth c A ls hx hb hml hr hts hown hlocks hK hP hD hA hS hl
  have hown : s.vm.findClass RX0 = some m.cls := hown
  have hl : lv_has ls 2 [(0, .ref (a 0)), (1, .ref (h 0))] := hl
  have hinX0 : ∀ w ∈ wsX00, w ∈ wsX0_copyFrom := fun w h => List.mem_cons_of_mem _ (List.mem_append_right _ h)
  refine lv_aload_n hx hb dX0_copyFrom_0 rfl (lv_at hl 0 rfl) ?_
  refine lv_aload_n hx hb dX0_copyFrom_1 rfl (lv_at hl 1 rfl) ?_
  refine g_get (ci := 0) (v := .int ((b2 0) 0)) (C := RX0) (T := TX0) (N := 8) hx hb hts hinX0 hown hK hP 8 rfl rfl 0 (by decide) (hts (.fieldLink RX0 9 "ChargeStages$Battery" "cells" "I") (List.mem_of_getElem? (i := 1) rfl)) rfl dX0_copyFrom_2 ?_
  refine g_put (ci := 0) (v := .int ((b2 0) 0)) (ty := .int) (C := RX0) (T := TX0) (N := 8) (B2 := [BW G a (sF b 0 (upd (b 0) 0 ((b2 0) 0))), BW G h b2]) hx hb hts hinX0 tyX0 tyX0_ok nmX0 hown hK hP hD hS 0 rfl rfl 0 (by decide) (hts (.fieldLink RX0 9 "ChargeStages$Battery" "cells" "I") (List.mem_of_getElem? (i := 1) rfl)) rfl (by decide +kernel) rfl rfl (Nat.le_of_ble_eq_true rfl) rfl dX0_copyFrom_5 (fun H locs hP hD hS => ?_)
  refine lv_aload_n hx hb dX0_copyFrom_8 rfl (lv_at hl 1 rfl) ?_
  refine g_get (ci := 0) (v := .ref (h 1)) (C := RX0) (T := TX0) (N := 8) hx hb hts hinX0 hown hK hP 8 rfl rfl 1 (by decide) (hts (.fieldLink RX0 15 "ChargeStages$Battery" "charge" "[I") (List.mem_of_getElem? (i := 2) rfl)) rfl dX0_copyFrom_9 ?_
  refine lv_iconst (v := 0) hx hb dX0_copyFrom_12 (by decide) ?_
  refine lv_aload_n hx hb dX0_copyFrom_13 rfl (lv_at hl 0 rfl) ?_
  refine g_get (ci := 0) (v := .ref (a 1)) (C := RX0) (T := TX0) (N := 8) hx hb hts hinX0 hown hK hP 0 rfl rfl 1 (by decide) (hts (.fieldLink RX0 15 "ChargeStages$Battery" "charge" "[I") (List.mem_of_getElem? (i := 2) rfl)) rfl dX0_copyFrom_14 ?_
  refine lv_iconst (v := 0) hx hb dX0_copyFrom_17 (by decide) ?_
  refine lv_bipush (v := 6) hx hb dX0_copyFrom_18 (by decide) ?_
  refine g_copy (N := 6) (B2 := [BW G a (sF (sF b 0 (upd (b 0) 0 ((b2 0) 0))) 1 (b2 1)), BW G h b2]) hx hb (hml.trans hl.1.symm) hown (hts (.methodLink RX0 46 arraycopyName) (List.mem_of_getElem? (i := 3) rfl)) (hts (.native arraycopyName) (List.mem_of_getElem? (i := 4) rfl)) (hts (.static arraycopyName) (List.mem_of_getElem? (i := 5) rfl)) (hts (.initialized "java/lang/System") (List.mem_of_getElem? (i := 6) rfl)) hK hP hD hS 9 1 rfl rfl (by decide) (by decide) rfl (Nat.le_of_ble_eq_true rfl) (Nat.le_of_ble_eq_true rfl) dX0_copyFrom_20 (fun H locs hP hD hS => ?_)
  refine lv_aload_n hx hb dX0_copyFrom_23 rfl (lv_at hl 1 rfl) ?_
  refine g_get (ci := 0) (v := .ref (h 2)) (C := RX0) (T := TX0) (N := 8) hx hb hts hinX0 hown hK hP 8 rfl rfl 2 (by decide) (hts (.fieldLink RX0 19 "ChargeStages$Battery" "rest" "[I") (List.mem_of_getElem? (i := 7) rfl)) rfl dX0_copyFrom_24 ?_
  refine lv_iconst (v := 0) hx hb dX0_copyFrom_27 (by decide) ?_
  refine lv_aload_n hx hb dX0_copyFrom_28 rfl (lv_at hl 0 rfl) ?_
  refine g_get (ci := 0) (v := .ref (a 2)) (C := RX0) (T := TX0) (N := 8) hx hb hts hinX0 hown hK hP 0 rfl rfl 2 (by decide) (hts (.fieldLink RX0 19 "ChargeStages$Battery" "rest" "[I") (List.mem_of_getElem? (i := 7) rfl)) rfl dX0_copyFrom_29 ?_
  refine lv_iconst (v := 0) hx hb dX0_copyFrom_32 (by decide) ?_
  refine lv_bipush (v := 6) hx hb dX0_copyFrom_33 (by decide) ?_
  refine g_copy (N := 6) (B2 := [BW G a (sF (sF (sF b 0 (upd (b 0) 0 ((b2 0) 0))) 1 (b2 1)) 2 (b2 2)), BW G h b2]) hx hb (hml.trans hl.1.symm) hown (hts (.methodLink RX0 46 arraycopyName) (List.mem_of_getElem? (i := 3) rfl)) (hts (.native arraycopyName) (List.mem_of_getElem? (i := 4) rfl)) (hts (.static arraycopyName) (List.mem_of_getElem? (i := 5) rfl)) (hts (.initialized "java/lang/System") (List.mem_of_getElem? (i := 6) rfl)) hK hP hD hS 10 2 rfl rfl (by decide) (by decide) rfl (Nat.le_of_ble_eq_true rfl) (Nat.le_of_ble_eq_true rfl) dX0_copyFrom_35 (fun H locs hP hD hS => ?_)
  refine lv_aload_n hx hb dX0_copyFrom_38 rfl (lv_at hl 1 rfl) ?_
  refine g_get (ci := 0) (v := .ref (h 3)) (C := RX0) (T := TX0) (N := 8) hx hb hts hinX0 hown hK hP 8 rfl rfl 3 (by decide) (hts (.fieldLink RX0 22 "ChargeStages$Battery" "cameIn" "[I") (List.mem_of_getElem? (i := 8) rfl)) rfl dX0_copyFrom_39 ?_
  refine lv_iconst (v := 0) hx hb dX0_copyFrom_42 (by decide) ?_
  refine lv_aload_n hx hb dX0_copyFrom_43 rfl (lv_at hl 0 rfl) ?_
  refine g_get (ci := 0) (v := .ref (a 3)) (C := RX0) (T := TX0) (N := 8) hx hb hts hinX0 hown hK hP 0 rfl rfl 3 (by decide) (hts (.fieldLink RX0 22 "ChargeStages$Battery" "cameIn" "[I") (List.mem_of_getElem? (i := 8) rfl)) rfl dX0_copyFrom_44 ?_
  refine lv_iconst (v := 0) hx hb dX0_copyFrom_47 (by decide) ?_
  refine lv_bipush (v := 6) hx hb dX0_copyFrom_48 (by decide) ?_
  refine g_copy (N := 6) (B2 := [BW G a (sF (sF (sF (sF b 0 (upd (b 0) 0 ((b2 0) 0))) 1 (b2 1)) 2 (b2 2)) 3 (b2 3)), BW G h b2]) hx hb (hml.trans hl.1.symm) hown (hts (.methodLink RX0 46 arraycopyName) (List.mem_of_getElem? (i := 3) rfl)) (hts (.native arraycopyName) (List.mem_of_getElem? (i := 4) rfl)) (hts (.static arraycopyName) (List.mem_of_getElem? (i := 5) rfl)) (hts (.initialized "java/lang/System") (List.mem_of_getElem? (i := 6) rfl)) hK hP hD hS 11 3 rfl rfl (by decide) (by decide) rfl (Nat.le_of_ble_eq_true rfl) (Nat.le_of_ble_eq_true rfl) dX0_copyFrom_50 (fun H locs hP hD hS => ?_)
  refine lv_aload_n hx hb dX0_copyFrom_53 rfl (lv_at hl 1 rfl) ?_
  refine g_get (ci := 0) (v := .ref (h 4)) (C := RX0) (T := TX0) (N := 8) hx hb hts hinX0 hown hK hP 8 rfl rfl 4 (by decide) (hts (.fieldLink RX0 25 "ChargeStages$Battery" "stored" "[I") (List.mem_of_getElem? (i := 9) rfl)) rfl dX0_copyFrom_54 ?_
  refine lv_iconst (v := 0) hx hb dX0_copyFrom_57 (by decide) ?_
  refine lv_aload_n hx hb dX0_copyFrom_58 rfl (lv_at hl 0 rfl) ?_
  refine g_get (ci := 0) (v := .ref (a 4)) (C := RX0) (T := TX0) (N := 8) hx hb hts hinX0 hown hK hP 0 rfl rfl 4 (by decide) (hts (.fieldLink RX0 25 "ChargeStages$Battery" "stored" "[I") (List.mem_of_getElem? (i := 9) rfl)) rfl dX0_copyFrom_59 ?_
  refine lv_iconst (v := 0) hx hb dX0_copyFrom_62 (by decide) ?_
  refine lv_bipush (v := 6) hx hb dX0_copyFrom_63 (by decide) ?_
  refine g_copy (N := 6) (B2 := [BW G a (sF (sF (sF (sF (sF b 0 (upd (b 0) 0 ((b2 0) 0))) 1 (b2 1)) 2 (b2 2)) 3 (b2 3)) 4 (b2 4)), BW G h b2]) hx hb (hml.trans hl.1.symm) hown (hts (.methodLink RX0 46 arraycopyName) (List.mem_of_getElem? (i := 3) rfl)) (hts (.native arraycopyName) (List.mem_of_getElem? (i := 4) rfl)) (hts (.static arraycopyName) (List.mem_of_getElem? (i := 5) rfl)) (hts (.initialized "java/lang/System") (List.mem_of_getElem? (i := 6) rfl)) hK hP hD hS 12 4 rfl rfl (by decide) (by decide) rfl (Nat.le_of_ble_eq_true rfl) (Nat.le_of_ble_eq_true rfl) dX0_copyFrom_65 (fun H locs hP hD hS => ?_)
  refine lv_aload_n hx hb dX0_copyFrom_68 rfl (lv_at hl 1 rfl) ?_
  refine g_get (ci := 0) (v := .ref (h 5)) (C := RX0) (T := TX0) (N := 8) hx hb hts hinX0 hown hK hP 8 rfl rfl 5 (by decide) (hts (.fieldLink RX0 28 "ChargeStages$Battery" "spilled" "[I") (List.mem_of_getElem? (i := 10) rfl)) rfl dX0_copyFrom_69 ?_
  refine lv_iconst (v := 0) hx hb dX0_copyFrom_72 (by decide) ?_
  refine lv_aload_n hx hb dX0_copyFrom_73 rfl (lv_at hl 0 rfl) ?_
  refine g_get (ci := 0) (v := .ref (a 5)) (C := RX0) (T := TX0) (N := 8) hx hb hts hinX0 hown hK hP 0 rfl rfl 5 (by decide) (hts (.fieldLink RX0 28 "ChargeStages$Battery" "spilled" "[I") (List.mem_of_getElem? (i := 10) rfl)) rfl dX0_copyFrom_74 ?_
  refine lv_iconst (v := 0) hx hb dX0_copyFrom_77 (by decide) ?_
  refine lv_bipush (v := 6) hx hb dX0_copyFrom_78 (by decide) ?_
  refine g_copy (N := 6) (B2 := [BW G a (sF (sF (sF (sF (sF (sF b 0 (upd (b 0) 0 ((b2 0) 0))) 1 (b2 1)) 2 (b2 2)) 3 (b2 3)) 4 (b2 4)) 5 (b2 5)), BW G h b2]) hx hb (hml.trans hl.1.symm) hown (hts (.methodLink RX0 46 arraycopyName) (List.mem_of_getElem? (i := 3) rfl)) (hts (.native arraycopyName) (List.mem_of_getElem? (i := 4) rfl)) (hts (.static arraycopyName) (List.mem_of_getElem? (i := 5) rfl)) (hts (.initialized "java/lang/System") (List.mem_of_getElem? (i := 6) rfl)) hK hP hD hS 13 5 rfl rfl (by decide) (by decide) rfl (Nat.le_of_ble_eq_true rfl) (Nat.le_of_ble_eq_true rfl) dX0_copyFrom_80 (fun H locs hP hD hS => ?_)
  refine lv_aload_n hx hb dX0_copyFrom_83 rfl (lv_at hl 1 rfl) ?_
  refine g_get (ci := 0) (v := .ref (h 6)) (C := RX0) (T := TX0) (N := 8) hx hb hts hinX0 hown hK hP 8 rfl rfl 6 (by decide) (hts (.fieldLink RX0 31 "ChargeStages$Battery" "bled" "[I") (List.mem_of_getElem? (i := 11) rfl)) rfl dX0_copyFrom_84 ?_
  refine lv_iconst (v := 0) hx hb dX0_copyFrom_87 (by decide) ?_
  refine lv_aload_n hx hb dX0_copyFrom_88 rfl (lv_at hl 0 rfl) ?_
  refine g_get (ci := 0) (v := .ref (a 6)) (C := RX0) (T := TX0) (N := 8) hx hb hts hinX0 hown hK hP 0 rfl rfl 6 (by decide) (hts (.fieldLink RX0 31 "ChargeStages$Battery" "bled" "[I") (List.mem_of_getElem? (i := 11) rfl)) rfl dX0_copyFrom_89 ?_
  refine lv_iconst (v := 0) hx hb dX0_copyFrom_92 (by decide) ?_
  refine lv_bipush (v := 6) hx hb dX0_copyFrom_93 (by decide) ?_
  refine g_copy (N := 6) (B2 := [BW G a (sF (sF (sF (sF (sF (sF (sF b 0 (upd (b 0) 0 ((b2 0) 0))) 1 (b2 1)) 2 (b2 2)) 3 (b2 3)) 4 (b2 4)) 5 (b2 5)) 6 (b2 6)), BW G h b2]) hx hb (hml.trans hl.1.symm) hown (hts (.methodLink RX0 46 arraycopyName) (List.mem_of_getElem? (i := 3) rfl)) (hts (.native arraycopyName) (List.mem_of_getElem? (i := 4) rfl)) (hts (.static arraycopyName) (List.mem_of_getElem? (i := 5) rfl)) (hts (.initialized "java/lang/System") (List.mem_of_getElem? (i := 6) rfl)) hK hP hD hS 14 6 rfl rfl (by decide) (by decide) rfl (Nat.le_of_ble_eq_true rfl) (Nat.le_of_ble_eq_true rfl) dX0_copyFrom_95 (fun H locs hP hD hS => ?_)
  refine lv_aload_n hx hb dX0_copyFrom_98 rfl (lv_at hl 1 rfl) ?_
  refine g_get (ci := 0) (v := .ref (h 7)) (C := RX0) (T := TX0) (N := 8) hx hb hts hinX0 hown hK hP 8 rfl rfl 7 (by decide) (hts (.fieldLink RX0 34 "ChargeStages$Battery" "used" "[I") (List.mem_of_getElem? (i := 12) rfl)) rfl dX0_copyFrom_99 ?_
  refine lv_iconst (v := 0) hx hb dX0_copyFrom_102 (by decide) ?_
  refine lv_aload_n hx hb dX0_copyFrom_103 rfl (lv_at hl 0 rfl) ?_
  refine g_get (ci := 0) (v := .ref (a 7)) (C := RX0) (T := TX0) (N := 8) hx hb hts hinX0 hown hK hP 0 rfl rfl 7 (by decide) (hts (.fieldLink RX0 34 "ChargeStages$Battery" "used" "[I") (List.mem_of_getElem? (i := 12) rfl)) rfl dX0_copyFrom_104 ?_
  refine lv_iconst (v := 0) hx hb dX0_copyFrom_107 (by decide) ?_
  refine lv_bipush (v := 6) hx hb dX0_copyFrom_108 (by decide) ?_
  refine g_copy (N := 6) (B2 := [BW G a (sF (sF (sF (sF (sF (sF (sF (sF b 0 (upd (b 0) 0 ((b2 0) 0))) 1 (b2 1)) 2 (b2 2)) 3 (b2 3)) 4 (b2 4)) 5 (b2 5)) 6 (b2 6)) 7 (b2 7)), BW G h b2]) hx hb (hml.trans hl.1.symm) hown (hts (.methodLink RX0 46 arraycopyName) (List.mem_of_getElem? (i := 3) rfl)) (hts (.native arraycopyName) (List.mem_of_getElem? (i := 4) rfl)) (hts (.static arraycopyName) (List.mem_of_getElem? (i := 5) rfl)) (hts (.initialized "java/lang/System") (List.mem_of_getElem? (i := 6) rfl)) hK hP hD hS 15 7 rfl rfl (by decide) (by decide) rfl (Nat.le_of_ble_eq_true rfl) (Nat.le_of_ble_eq_true rfl) dX0_copyFrom_110 (fun H locs hP hD hS => ?_)
  exact g_retv hx hb hr hlocks hS dX0_copyFrom_113 rfl hP
def fl_X0_leastCharge_9 (b : (Nat → Nat → Int32)) : Nat → Int32 → Int32 → Int32
  | 0, _, _ => (0 : Int32)
  | n + 1, x9_1, x9_2 => (if ((b 0) 0) ≤ x9_2 then x9_1 else (gL ((gmin x9_1 ((b 1) ((x9_2).toNatClampNeg)))) (fun (v6 : Int32) => (gL ((x9_2 + 1)) (fun (v7 : Int32) => (fl_X0_leastCharge_9 b n v6 v7))))))
def okl_X0_leastCharge_9 (b : (Nat → Nat → Int32)) : Nat → Int32 → Int32 → Prop
  | 0, _, _ => False
  | n + 1, x9_1, x9_2 => ((((b 0) 0) ≤ x9_2 → True) ∧ (¬ ((b 0) 0) ≤ x9_2 → (vp_in x9_2 6) ∧ (gL ((gmin x9_1 ((b 1) ((x9_2).toNatClampNeg)))) (fun (v6 : Int32) => (gL ((x9_2 + 1)) (fun (v7 : Int32) => (okl_X0_leastCharge_9 b n v6 v7)))))))
def f_X0_leastCharge (b : (Nat → Nat → Int32)) : Int32 := (gL ((b 1) 0) (fun (v1 : Int32) => (fl_X0_leastCharge_9 b 7 v1 1)))
def ok_X0_leastCharge (b : (Nat → Nat → Int32)) : Prop := (gL ((b 1) 0) (fun (v1 : Int32) => (okl_X0_leastCharge_9 b 7 v1 1)))
set_option maxHeartbeats 4000000 in
set_option maxRecDepth 100000 in
theorem c_X0_leastCharge (l : Launch) (G : gG) (a : Nat → Nat) (b : (Nat → Nat → Int32)) (R : Int32) (hR : R = f_X0_leastCharge b) (hok : ok_X0_leastCharge b) : CT l G yX0_leastCharge wsX0_leastCharge 1 13 [.ref (a 0)] [BW G a b] (some (.int R)) [BW G a b] := by
  unfold f_X0_leastCharge at hR
  unfold ok_X0_leastCharge at hok
  refine CT.of (cc := cX0_leastCharge) (maxL := 3) (ret := (some .int)) (plainFor_of_name (by decide +kernel)) rfl rfl (Nat.le_of_ble_eq_true rfl) ?_
  intro p e s m below meth c A ls hx hb hml hr hts hown hlocks hK hP hD hA hS hl
  have hown : s.vm.findClass RX0 = some m.cls := hown
  have hl : lv_has ls 3 [(0, .ref (a 0))] := hl
  have hinX0 : ∀ w ∈ wsX00, w ∈ wsX0_leastCharge := fun w h => List.mem_cons_of_mem _ (List.mem_append_right _ h)
  refine lv_aload_n hx hb dX0_leastCharge_0 rfl (lv_at hl 0 rfl) ?_
  refine g_get (ci := 0) (v := .ref (a 1)) (C := RX0) (T := TX0) (N := 8) hx hb hts hinX0 hown hK hP 0 rfl rfl 1 (by decide) (hts (.fieldLink RX0 15 "ChargeStages$Battery" "charge" "[I") (List.mem_of_getElem? (i := 1) rfl)) rfl dX0_leastCharge_1 ?_
  refine lv_iconst (v := 0) hx hb dX0_leastCharge_4 (by decide) ?_
  refine g_ld (n := 6) (f := (b 1)) (v := (b 1) 0) (k := 0) hx hb hK hP 1 rfl (by decide) (by unfold vp_in; decide) rfl dX0_leastCharge_5 ?_
  obtain ⟨v1, ev1, hR, hok⟩ := g_let2 hR hok
  refine g_topE ev1.symm ?_
  refine lv_istore_n (lv' := [(1, .int v1), (0, .ref (a 0))]) hx hb dX0_leastCharge_6 rfl hl (by decide) rfl (fun ls hl => ?_)
  refine lv_iconst (v := 1) hx hb dX0_leastCharge_7 (by decide) ?_
  refine lv_istore_n (lv' := [(2, .int 1), (1, .int v1), (0, .ref (a 0))]) hx hb dX0_leastCharge_8 rfl hl (by decide) rfl (fun ls hl => ?_)
  have lp9 : ∀ (n : Nat) (x9_1 : Int32) (x9_2 : Int32) (H : Heap) (locs : List Loc) (ls : Array Slot), R = fl_X0_leastCharge_9 b n x9_1 x9_2 → okl_X0_leastCharge_9 b n x9_1 x9_2 → va_P G.1 vwCl (List.flatten [BW G a b]) H → va_D A (List.flatten [BW G a b]) → va_S A s.heap H locs → lv_has ls 3 [(0, .ref (a 0)), (1, .int x9_1), (2, .int x9_2)] → W p l e { frames := 1, cells := 0, slots := 0, locals := 13 } s m (List.toArray [.ref (a 0)]) below meth c H locs 0 0 (gQ G below (List.toArray [.ref (a 0)]) s (some (.int R)) [BW G a b] A) (F0 m 9 ls []) := by
    intro n
    induction n with
    | zero =>
      intro x9_1 x9_2 H locs ls hR hok hP hD hS hl
      rw [okl_X0_leastCharge_9] at hok
      exact hok.elim
    | succ n ih =>
      intro x9_1 x9_2 H locs ls hR hok hP hD hS hl
      rw [fl_X0_leastCharge_9] at hR
      rw [okl_X0_leastCharge_9] at hok
      refine lv_iload_n hx hb dX0_leastCharge_9 rfl (lv_at hl 2 rfl) ?_
      refine lv_aload_n hx hb dX0_leastCharge_10 rfl (lv_at hl 0 rfl) ?_
      refine g_get (ci := 0) (v := .int ((b 0) 0)) (C := RX0) (T := TX0) (N := 8) hx hb hts hinX0 hown hK hP 0 rfl rfl 0 (by decide) (hts (.fieldLink RX0 9 "ChargeStages$Battery" "cells" "I") (List.mem_of_getElem? (i := 2) rfl)) rfl dX0_leastCharge_11 ?_
      refine lv_icmp_ge (tgt := 34) hx hb dX0_leastCharge_14 (by decide) (fun c4 => ?_) (fun c4 => ?_)
      · rw [if_pos c4] at hR
        have hok := hok.1 c4
        refine lv_iload_n hx hb dX0_leastCharge_34 rfl (lv_at hl 1 rfl) ?_
        subst hR
        exact g_ret hx hb hr hlocks hS dX0_leastCharge_35 rfl hP
      · rw [if_neg c4] at hR
        have hok := hok.2 c4
        refine lv_iload_n hx hb dX0_leastCharge_17 rfl (lv_at hl 1 rfl) ?_
        refine lv_aload_n hx hb dX0_leastCharge_18 rfl (lv_at hl 0 rfl) ?_
        refine g_get (ci := 0) (v := .ref (a 1)) (C := RX0) (T := TX0) (N := 8) hx hb hts hinX0 hown hK hP 0 rfl rfl 1 (by decide) (hts (.fieldLink RX0 15 "ChargeStages$Battery" "charge" "[I") (List.mem_of_getElem? (i := 1) rfl)) rfl dX0_leastCharge_19 ?_
        refine lv_iload_n hx hb dX0_leastCharge_22 rfl (lv_at hl 2 rfl) ?_
        obtain ⟨k5, hok⟩ := hok
        refine g_ld (n := 6) (f := (b 1)) (v := (b 1) ((x9_2).toNatClampNeg)) (k := ((x9_2).toNatClampNeg)) hx hb hK hP 1 rfl rfl k5 rfl dX0_leastCharge_23 ?_
        refine va_mmin hx hb (hml.trans hl.1.symm) hown (hts (.methodLink RX0 37 Lib.Math.min.name) (List.mem_of_getElem? (i := 3) rfl)) (hts (.static Lib.Math.min.name) (List.mem_of_getElem? (i := 4) rfl)) (hts (.initialized "java/lang/Math") (List.mem_of_getElem? (i := 5) rfl)) (hts (.code Lib.Math.min.name Lib.Math.min.code 2 (some .int)) (List.mem_of_getElem? (i := 6) rfl)) (Nat.le_of_ble_eq_true rfl) (Nat.le_of_ble_eq_true rfl) (Nat.zero_le _) (Nat.zero_le _) dX0_leastCharge_24 ?_
        refine g_topE (y := (gmin x9_1 ((b 1) ((x9_2).toNatClampNeg)))) rfl ?_
        obtain ⟨v6, ev6, hR, hok⟩ := g_let2 hR hok
        refine g_topE ev6.symm ?_
        refine lv_istore_n (lv' := [(1, .int v6), (0, .ref (a 0)), (2, .int x9_2)]) hx hb dX0_leastCharge_27 rfl hl (by decide) rfl (fun ls hl => ?_)
        obtain ⟨v7, ev7, hR, hok⟩ := g_let2 hR hok
        refine lv_iinc (v := v7) (lv' := [(2, .int v7), (1, .int v6), (0, .ref (a 0))]) hx hb dX0_leastCharge_28 hl (k := 2) rfl (by subst ev7; rfl) (by decide) rfl (fun ls hl => ?_)
        refine lv_goto (tgt := 9) hx hb dX0_leastCharge_31 (by decide) ?_
        exact ih v6 v7 _ _ _ hR hok hP hD hS (lv_sub hl [2, 1, 0] rfl)
  exact lp9 7 v1 1 _ _ _ hR hok hP hD hS (lv_sub hl [2, 1, 0] rfl)
def fl_X0_greatestCharge_9 (b : (Nat → Nat → Int32)) : Nat → Int32 → Int32 → Int32
  | 0, _, _ => (0 : Int32)
  | n + 1, x9_1, x9_2 => (if ((b 0) 0) ≤ x9_2 then x9_1 else (gL ((gmax x9_1 ((b 1) ((x9_2).toNatClampNeg)))) (fun (v6 : Int32) => (gL ((x9_2 + 1)) (fun (v7 : Int32) => (fl_X0_greatestCharge_9 b n v6 v7))))))
def okl_X0_greatestCharge_9 (b : (Nat → Nat → Int32)) : Nat → Int32 → Int32 → Prop
  | 0, _, _ => False
  | n + 1, x9_1, x9_2 => ((((b 0) 0) ≤ x9_2 → True) ∧ (¬ ((b 0) 0) ≤ x9_2 → (vp_in x9_2 6) ∧ (gL ((gmax x9_1 ((b 1) ((x9_2).toNatClampNeg)))) (fun (v6 : Int32) => (gL ((x9_2 + 1)) (fun (v7 : Int32) => (okl_X0_greatestCharge_9 b n v6 v7)))))))
def f_X0_greatestCharge (b : (Nat → Nat → Int32)) : Int32 := (gL ((b 1) 0) (fun (v1 : Int32) => (fl_X0_greatestCharge_9 b 7 v1 1)))
def ok_X0_greatestCharge (b : (Nat → Nat → Int32)) : Prop := (gL ((b 1) 0) (fun (v1 : Int32) => (okl_X0_greatestCharge_9 b 7 v1 1)))
set_option maxHeartbeats 4000000 in
set_option maxRecDepth 100000 in
theorem c_X0_greatestCharge (l : Launch) (G : gG) (a : Nat → Nat) (b : (Nat → Nat → Int32)) (R : Int32) (hR : R = f_X0_greatestCharge b) (hok : ok_X0_greatestCharge b) : CT l G yX0_greatestCharge wsX0_greatestCharge 1 13 [.ref (a 0)] [BW G a b] (some (.int R)) [BW G a b] := by
  unfold f_X0_greatestCharge at hR
  unfold ok_X0_greatestCharge at hok
  refine CT.of (cc := cX0_greatestCharge) (maxL := 3) (ret := (some .int)) (plainFor_of_name (by decide +kernel)) rfl rfl (Nat.le_of_ble_eq_true rfl) ?_
  intro p e s m below meth c A ls hx hb hml hr hts hown hlocks hK hP hD hA hS hl
  have hown : s.vm.findClass RX0 = some m.cls := hown
  have hl : lv_has ls 3 [(0, .ref (a 0))] := hl
  have hinX0 : ∀ w ∈ wsX00, w ∈ wsX0_greatestCharge := fun w h => List.mem_cons_of_mem _ (List.mem_append_right _ h)
  refine lv_aload_n hx hb dX0_greatestCharge_0 rfl (lv_at hl 0 rfl) ?_
  refine g_get (ci := 0) (v := .ref (a 1)) (C := RX0) (T := TX0) (N := 8) hx hb hts hinX0 hown hK hP 0 rfl rfl 1 (by decide) (hts (.fieldLink RX0 15 "ChargeStages$Battery" "charge" "[I") (List.mem_of_getElem? (i := 1) rfl)) rfl dX0_greatestCharge_1 ?_
  refine lv_iconst (v := 0) hx hb dX0_greatestCharge_4 (by decide) ?_
  refine g_ld (n := 6) (f := (b 1)) (v := (b 1) 0) (k := 0) hx hb hK hP 1 rfl (by decide) (by unfold vp_in; decide) rfl dX0_greatestCharge_5 ?_
  obtain ⟨v1, ev1, hR, hok⟩ := g_let2 hR hok
  refine g_topE ev1.symm ?_
  refine lv_istore_n (lv' := [(1, .int v1), (0, .ref (a 0))]) hx hb dX0_greatestCharge_6 rfl hl (by decide) rfl (fun ls hl => ?_)
  refine lv_iconst (v := 1) hx hb dX0_greatestCharge_7 (by decide) ?_
  refine lv_istore_n (lv' := [(2, .int 1), (1, .int v1), (0, .ref (a 0))]) hx hb dX0_greatestCharge_8 rfl hl (by decide) rfl (fun ls hl => ?_)
  have lp9 : ∀ (n : Nat) (x9_1 : Int32) (x9_2 : Int32) (H : Heap) (locs : List Loc) (ls : Array Slot), R = fl_X0_greatestCharge_9 b n x9_1 x9_2 → okl_X0_greatestCharge_9 b n x9_1 x9_2 → va_P G.1 vwCl (List.flatten [BW G a b]) H → va_D A (List.flatten [BW G a b]) → va_S A s.heap H locs → lv_has ls 3 [(0, .ref (a 0)), (1, .int x9_1), (2, .int x9_2)] → W p l e { frames := 1, cells := 0, slots := 0, locals := 13 } s m (List.toArray [.ref (a 0)]) below meth c H locs 0 0 (gQ G below (List.toArray [.ref (a 0)]) s (some (.int R)) [BW G a b] A) (F0 m 9 ls []) := by
    intro n
    induction n with
    | zero =>
      intro x9_1 x9_2 H locs ls hR hok hP hD hS hl
      rw [okl_X0_greatestCharge_9] at hok
      exact hok.elim
    | succ n ih =>
      intro x9_1 x9_2 H locs ls hR hok hP hD hS hl
      rw [fl_X0_greatestCharge_9] at hR
      rw [okl_X0_greatestCharge_9] at hok
      refine lv_iload_n hx hb dX0_greatestCharge_9 rfl (lv_at hl 2 rfl) ?_
      refine lv_aload_n hx hb dX0_greatestCharge_10 rfl (lv_at hl 0 rfl) ?_
      refine g_get (ci := 0) (v := .int ((b 0) 0)) (C := RX0) (T := TX0) (N := 8) hx hb hts hinX0 hown hK hP 0 rfl rfl 0 (by decide) (hts (.fieldLink RX0 9 "ChargeStages$Battery" "cells" "I") (List.mem_of_getElem? (i := 2) rfl)) rfl dX0_greatestCharge_11 ?_
      refine lv_icmp_ge (tgt := 34) hx hb dX0_greatestCharge_14 (by decide) (fun c4 => ?_) (fun c4 => ?_)
      · rw [if_pos c4] at hR
        have hok := hok.1 c4
        refine lv_iload_n hx hb dX0_greatestCharge_34 rfl (lv_at hl 1 rfl) ?_
        subst hR
        exact g_ret hx hb hr hlocks hS dX0_greatestCharge_35 rfl hP
      · rw [if_neg c4] at hR
        have hok := hok.2 c4
        refine lv_iload_n hx hb dX0_greatestCharge_17 rfl (lv_at hl 1 rfl) ?_
        refine lv_aload_n hx hb dX0_greatestCharge_18 rfl (lv_at hl 0 rfl) ?_
        refine g_get (ci := 0) (v := .ref (a 1)) (C := RX0) (T := TX0) (N := 8) hx hb hts hinX0 hown hK hP 0 rfl rfl 1 (by decide) (hts (.fieldLink RX0 15 "ChargeStages$Battery" "charge" "[I") (List.mem_of_getElem? (i := 1) rfl)) rfl dX0_greatestCharge_19 ?_
        refine lv_iload_n hx hb dX0_greatestCharge_22 rfl (lv_at hl 2 rfl) ?_
        obtain ⟨k5, hok⟩ := hok
        refine g_ld (n := 6) (f := (b 1)) (v := (b 1) ((x9_2).toNatClampNeg)) (k := ((x9_2).toNatClampNeg)) hx hb hK hP 1 rfl rfl k5 rfl dX0_greatestCharge_23 ?_
        refine va_mmax hx hb (hml.trans hl.1.symm) hown (hts (.methodLink RX0 43 Lib.Math.max.name) (List.mem_of_getElem? (i := 3) rfl)) (hts (.static Lib.Math.max.name) (List.mem_of_getElem? (i := 4) rfl)) (hts (.initialized "java/lang/Math") (List.mem_of_getElem? (i := 5) rfl)) (hts (.code Lib.Math.max.name Lib.Math.max.code 2 (some .int)) (List.mem_of_getElem? (i := 6) rfl)) (Nat.le_of_ble_eq_true rfl) (Nat.le_of_ble_eq_true rfl) (Nat.zero_le _) (Nat.zero_le _) dX0_greatestCharge_24 ?_
        refine g_topE (y := (gmax x9_1 ((b 1) ((x9_2).toNatClampNeg)))) rfl ?_
        obtain ⟨v6, ev6, hR, hok⟩ := g_let2 hR hok
        refine g_topE ev6.symm ?_
        refine lv_istore_n (lv' := [(1, .int v6), (0, .ref (a 0)), (2, .int x9_2)]) hx hb dX0_greatestCharge_27 rfl hl (by decide) rfl (fun ls hl => ?_)
        obtain ⟨v7, ev7, hR, hok⟩ := g_let2 hR hok
        refine lv_iinc (v := v7) (lv' := [(2, .int v7), (1, .int v6), (0, .ref (a 0))]) hx hb dX0_greatestCharge_28 hl (k := 2) rfl (by subst ev7; rfl) (by decide) rfl (fun ls hl => ?_)
        refine lv_goto (tgt := 9) hx hb dX0_greatestCharge_31 (by decide) ?_
        exact ih v6 v7 _ _ _ hR hok hP hD hS (lv_sub hl [2, 1, 0] rfl)
  exact lp9 7 v1 1 _ _ _ hR hok hP hD hS (lv_sub hl [2, 1, 0] rfl)
def fl_X0_draw_2 (p1 : Int32) : Nat → Int32 → (Nat → Nat → Int32) → (Nat → Nat → Int32)
  | 0, _, _ => (fun _ _ => 0)
  | n + 1, x2_2, w2_0 => (if ((w2_0 0) 0) ≤ x2_2 then w2_0 else (gL (upd (w2_0 1) ((x2_2).toNatClampNeg) (((w2_0 1) ((x2_2).toNatClampNeg)) - p1)) (fun (z6 : (Nat → Int32)) => (gL (upd (w2_0 7) ((x2_2).toNatClampNeg) (((w2_0 7) ((x2_2).toNatClampNeg)) + p1)) (fun (z9 : (Nat → Int32)) => (gL ((x2_2 + 1)) (fun (v11 : Int32) => (fl_X0_draw_2 p1 n v11 (sF (sF w2_0 1 z6) 7 z9)))))))))
def okl_X0_draw_2 (p1 : Int32) : Nat → Int32 → (Nat → Nat → Int32) → Prop
  | 0, _, _ => False
  | n + 1, x2_2, w2_0 => ((((w2_0 0) 0) ≤ x2_2 → True) ∧ (¬ ((w2_0 0) 0) ≤ x2_2 → (vp_in x2_2 6) ∧ (vp_in x2_2 6) ∧ (gL (upd (w2_0 1) ((x2_2).toNatClampNeg) (((w2_0 1) ((x2_2).toNatClampNeg)) - p1)) (fun (z6 : (Nat → Int32)) => (vp_in x2_2 6) ∧ (vp_in x2_2 6) ∧ (gL (upd (w2_0 7) ((x2_2).toNatClampNeg) (((w2_0 7) ((x2_2).toNatClampNeg)) + p1)) (fun (z9 : (Nat → Int32)) => (gL ((x2_2 + 1)) (fun (v11 : Int32) => (okl_X0_draw_2 p1 n v11 (sF (sF w2_0 1 z6) 7 z9))))))))))
def f_X0_draw (b : (Nat → Nat → Int32)) (p1 : Int32) : (Nat → Nat → Int32) := (fl_X0_draw_2 p1 7 0 b)
def ok_X0_draw (b : (Nat → Nat → Int32)) (p1 : Int32) : Prop := (okl_X0_draw_2 p1 7 0 b)
set_option maxHeartbeats 4000000 in
set_option maxRecDepth 100000 in
theorem c_X0_draw (l : Launch) (G : gG) (a : Nat → Nat) (b : (Nat → Nat → Int32)) (p1 : Int32) (R : (Nat → Nat → Int32)) (hR : R = f_X0_draw b p1) (hok : ok_X0_draw b p1) : CT l G yX0_draw wsX0_draw 0 0 [.ref (a 0), .int p1] [BW G a b] none [BW G a R] := by
  unfold f_X0_draw at hR
  unfold ok_X0_draw at hok
  refine CT.of (cc := cX0_draw) (maxL := 3) (ret := none) (plainFor_of_name (by decide +kernel)) rfl rfl (Nat.le_of_ble_eq_true rfl) ?_
  intro p e s m below meth c A ls hx hb hml hr hts hown hlocks hK hP hD hA hS hl
  have hown : s.vm.findClass RX0 = some m.cls := hown
  have hl : lv_has ls 3 [(0, .ref (a 0)), (1, .int p1)] := hl
  have hinX0 : ∀ w ∈ wsX00, w ∈ wsX0_draw := fun w h => List.mem_cons_of_mem _ (List.mem_append_right _ h)
  refine lv_iconst (v := 0) hx hb dX0_draw_0 (by decide) ?_
  refine lv_istore_n (lv' := [(2, .int 0), (0, .ref (a 0)), (1, .int p1)]) hx hb dX0_draw_1 rfl hl (by decide) rfl (fun ls hl => ?_)
  have lp2 : ∀ (n : Nat) (x2_2 : Int32) (w2_0 : (Nat → Nat → Int32)) (H : Heap) (locs : List Loc) (ls : Array Slot), R = fl_X0_draw_2 p1 n x2_2 w2_0 → okl_X0_draw_2 p1 n x2_2 w2_0 → va_P G.1 vwCl (List.flatten [BW G a w2_0]) H → va_D A (List.flatten [BW G a w2_0]) → va_S A s.heap H locs → lv_has ls 3 [(0, .ref (a 0)), (1, .int p1), (2, .int x2_2)] → W p l e { frames := 0, cells := 0, slots := 0, locals := 0 } s m (List.toArray [.ref (a 0), .int p1]) below meth c H locs 0 0 (gQ G below (List.toArray [.ref (a 0), .int p1]) s none [BW G a R] A) (F0 m 2 ls []) := by
    intro n
    induction n with
    | zero =>
      intro x2_2 w2_0 H locs ls hR hok hP hD hS hl
      rw [okl_X0_draw_2] at hok
      exact hok.elim
    | succ n ih =>
      intro x2_2 w2_0 H locs ls hR hok hP hD hS hl
      rw [fl_X0_draw_2] at hR
      rw [okl_X0_draw_2] at hok
      refine lv_iload_n hx hb dX0_draw_2 rfl (lv_at hl 2 rfl) ?_
      refine lv_aload_n hx hb dX0_draw_3 rfl (lv_at hl 0 rfl) ?_
      refine g_get (ci := 0) (v := .int ((w2_0 0) 0)) (C := RX0) (T := TX0) (N := 8) hx hb hts hinX0 hown hK hP 0 rfl rfl 0 (by decide) (hts (.fieldLink RX0 9 "ChargeStages$Battery" "cells" "I") (List.mem_of_getElem? (i := 1) rfl)) rfl dX0_draw_4 ?_
      refine lv_icmp_ge (tgt := 36) hx hb dX0_draw_7 (by decide) (fun c4 => ?_) (fun c4 => ?_)
      · rw [if_pos c4] at hR
        have hok := hok.1 c4
        subst hR
        exact g_retv hx hb hr hlocks hS dX0_draw_36 rfl hP
      · rw [if_neg c4] at hR
        have hok := hok.2 c4
        refine lv_aload_n hx hb dX0_draw_10 rfl (lv_at hl 0 rfl) ?_
        refine g_get (ci := 0) (v := .ref (a 1)) (C := RX0) (T := TX0) (N := 8) hx hb hts hinX0 hown hK hP 0 rfl rfl 1 (by decide) (hts (.fieldLink RX0 15 "ChargeStages$Battery" "charge" "[I") (List.mem_of_getElem? (i := 2) rfl)) rfl dX0_draw_11 ?_
        refine lv_iload_n hx hb dX0_draw_14 rfl (lv_at hl 2 rfl) ?_
        refine lv_dup2_11 hx hb dX0_draw_15 rfl rfl ?_
        obtain ⟨k5, hok⟩ := hok
        refine g_ld (n := 6) (f := (w2_0 1)) (v := (w2_0 1) ((x2_2).toNatClampNeg)) (k := ((x2_2).toNatClampNeg)) hx hb hK hP 1 rfl rfl k5 rfl dX0_draw_16 ?_
        refine lv_iload_n hx hb dX0_draw_17 rfl (lv_at hl 1 rfl) ?_
        refine lv_isub hx hb dX0_draw_18 ?_
        obtain ⟨k7, hok⟩ := hok
        obtain ⟨z6, ez6, hR, hok⟩ := g_let2 hR hok
        refine g_st (n := 6) (f := (w2_0 1)) (k := ((x2_2).toNatClampNeg)) (B2 := [BW G a (sF w2_0 1 z6)]) hx hb hK hP hD hS 1 rfl rfl k7 (by subst ez6; rfl) dX0_draw_19 (fun H locs hP hD hS => ?_)
        refine lv_aload_n hx hb dX0_draw_20 rfl (lv_at hl 0 rfl) ?_
        refine g_get (ci := 0) (v := .ref (a 7)) (C := RX0) (T := TX0) (N := 8) hx hb hts hinX0 hown hK hP 0 rfl rfl 7 (by decide) (hts (.fieldLink RX0 34 "ChargeStages$Battery" "used" "[I") (List.mem_of_getElem? (i := 3) rfl)) rfl dX0_draw_21 ?_
        refine lv_iload_n hx hb dX0_draw_24 rfl (lv_at hl 2 rfl) ?_
        refine lv_dup2_11 hx hb dX0_draw_25 rfl rfl ?_
        obtain ⟨k8, hok⟩ := hok
        refine g_ld (n := 6) (f := (w2_0 7)) (v := (w2_0 7) ((x2_2).toNatClampNeg)) (k := ((x2_2).toNatClampNeg)) hx hb hK hP 7 rfl rfl k8 rfl dX0_draw_26 ?_
        refine lv_iload_n hx hb dX0_draw_27 rfl (lv_at hl 1 rfl) ?_
        refine lv_iadd hx hb dX0_draw_28 ?_
        obtain ⟨k10, hok⟩ := hok
        obtain ⟨z9, ez9, hR, hok⟩ := g_let2 hR hok
        refine g_st (n := 6) (f := (w2_0 7)) (k := ((x2_2).toNatClampNeg)) (B2 := [BW G a (sF (sF w2_0 1 z6) 7 z9)]) hx hb hK hP hD hS 7 rfl rfl k10 (by subst ez9; rfl) dX0_draw_29 (fun H locs hP hD hS => ?_)
        obtain ⟨v11, ev11, hR, hok⟩ := g_let2 hR hok
        refine lv_iinc (v := v11) (lv' := [(2, .int v11), (0, .ref (a 0)), (1, .int p1)]) hx hb dX0_draw_30 hl (k := 2) rfl (by subst ev11; rfl) (by decide) rfl (fun ls hl => ?_)
        refine lv_goto (tgt := 2) hx hb dX0_draw_33 (by decide) ?_
        exact ih v11 (sF (sF w2_0 1 z6) 7 z9) _ _ _ hR hok hP hD hS (lv_sub hl [1, 2, 0] rfl)
  exact lp2 7 0 b _ _ _ hR hok hP hD hS (lv_sub hl [1, 2, 0] rfl)
def fl_X0_takeIn_3 (p1 : Int32) (p2 : Int32) (p3 : Int32) : Nat → Int32 → (Nat → Nat → Int32) → (Nat → Nat → Int32)
  | 0, _, _ => (fun _ _ => 0)
  | n + 1, x3_4, w3_0 => (if ((w3_0 0) 0) ≤ x3_4 then w3_0 else (gL ((((w3_0 2) ((x3_4).toNatClampNeg)) + (p1 * p2))) (fun (v13 : Int32) => (gL ((v13 / 100)) (fun (v14 : Int32) => (gL ((((w3_0 1) ((x3_4).toNatClampNeg)) + v14)) (fun (v16 : Int32) => (gL ((gmax 0 (v16 - p3))) (fun (v17 : Int32) => (gL (upd (w3_0 3) ((x3_4).toNatClampNeg) (((w3_0 3) ((x3_4).toNatClampNeg)) + p1)) (fun (z19 : (Nat → Int32)) => (gL (upd (w3_0 2) ((x3_4).toNatClampNeg) (v13 - v13 / 100 * 100)) (fun (z21 : (Nat → Int32)) => (gL (upd (w3_0 4) ((x3_4).toNatClampNeg) (((w3_0 4) ((x3_4).toNatClampNeg)) + v14)) (fun (z24 : (Nat → Int32)) => (gL (upd (w3_0 5) ((x3_4).toNatClampNeg) (((w3_0 5) ((x3_4).toNatClampNeg)) + v17)) (fun (z27 : (Nat → Int32)) => (gL (upd (w3_0 1) ((x3_4).toNatClampNeg) (v16 - v17)) (fun (z29 : (Nat → Int32)) => (gL ((x3_4 + 1)) (fun (v31 : Int32) => (fl_X0_takeIn_3 p1 p2 p3 n v31 (sF (sF (sF (sF (sF w3_0 1 z29) 2 z21) 3 z19) 4 z24) 5 z27)))))))))))))))))))))))
def okl_X0_takeIn_3 (p1 : Int32) (p2 : Int32) (p3 : Int32) : Nat → Int32 → (Nat → Nat → Int32) → Prop
  | 0, _, _ => False
  | n + 1, x3_4, w3_0 => ((((w3_0 0) 0) ≤ x3_4 → True) ∧ (¬ ((w3_0 0) 0) ≤ x3_4 → (vp_in x3_4 6) ∧ (gL ((((w3_0 2) ((x3_4).toNatClampNeg)) + (p1 * p2))) (fun (v13 : Int32) => (gL ((v13 / 100)) (fun (v14 : Int32) => (vp_in x3_4 6) ∧ (gL ((((w3_0 1) ((x3_4).toNatClampNeg)) + v14)) (fun (v16 : Int32) => (gL ((gmax 0 (v16 - p3))) (fun (v17 : Int32) => (vp_in x3_4 6) ∧ (vp_in x3_4 6) ∧ (gL (upd (w3_0 3) ((x3_4).toNatClampNeg) (((w3_0 3) ((x3_4).toNatClampNeg)) + p1)) (fun (z19 : (Nat → Int32)) => (vp_in x3_4 6) ∧ (gL (upd (w3_0 2) ((x3_4).toNatClampNeg) (v13 - v13 / 100 * 100)) (fun (z21 : (Nat → Int32)) => (vp_in x3_4 6) ∧ (vp_in x3_4 6) ∧ (gL (upd (w3_0 4) ((x3_4).toNatClampNeg) (((w3_0 4) ((x3_4).toNatClampNeg)) + v14)) (fun (z24 : (Nat → Int32)) => (vp_in x3_4 6) ∧ (vp_in x3_4 6) ∧ (gL (upd (w3_0 5) ((x3_4).toNatClampNeg) (((w3_0 5) ((x3_4).toNatClampNeg)) + v17)) (fun (z27 : (Nat → Int32)) => (vp_in x3_4 6) ∧ (gL (upd (w3_0 1) ((x3_4).toNatClampNeg) (v16 - v17)) (fun (z29 : (Nat → Int32)) => (gL ((x3_4 + 1)) (fun (v31 : Int32) => (okl_X0_takeIn_3 p1 p2 p3 n v31 (sF (sF (sF (sF (sF w3_0 1 z29) 2 z21) 3 z19) 4 z24) 5 z27))))))))))))))))))))))))
def f_X0_takeIn (b : (Nat → Nat → Int32)) (p1 : Int32) (p2 : Int32) (p3 : Int32) : (Nat → Nat → Int32) := (fl_X0_takeIn_3 p1 p2 p3 7 0 b)
def ok_X0_takeIn (b : (Nat → Nat → Int32)) (p1 : Int32) (p2 : Int32) (p3 : Int32) : Prop := (okl_X0_takeIn_3 p1 p2 p3 7 0 b)
set_option maxHeartbeats 4000000 in
set_option maxRecDepth 100000 in
theorem c_X0_takeIn (l : Launch) (G : gG) (a : Nat → Nat) (b : (Nat → Nat → Int32)) (p1 : Int32) (p2 : Int32) (p3 : Int32) (R : (Nat → Nat → Int32)) (hR : R = f_X0_takeIn b p1 p2 p3) (hok : ok_X0_takeIn b p1 p2 p3) : CT l G yX0_takeIn wsX0_takeIn 1 13 [.ref (a 0), .int p1, .int p2, .int p3] [BW G a b] none [BW G a R] := by
  unfold f_X0_takeIn at hR
  unfold ok_X0_takeIn at hok
  refine CT.of (cc := cX0_takeIn) (maxL := 9) (ret := none) (plainFor_of_name (by decide +kernel)) rfl rfl (Nat.le_of_ble_eq_true rfl) ?_
  intro p e s m below meth c A ls hx hb hml hr hts hown hlocks hK hP hD hA hS hl
  have hown : s.vm.findClass RX0 = some m.cls := hown
  have hl : lv_has ls 9 [(0, .ref (a 0)), (1, .int p1), (2, .int p2), (3, .int p3)] := hl
  have hinX0 : ∀ w ∈ wsX00, w ∈ wsX0_takeIn := fun w h => List.mem_cons_of_mem _ (List.mem_append_right _ h)
  refine lv_iconst (v := 0) hx hb dX0_takeIn_0 (by decide) ?_
  refine lv_istore (lv' := [(4, .int 0), (0, .ref (a 0)), (1, .int p1), (2, .int p2), (3, .int p3)]) hx hb dX0_takeIn_1 hl (by decide) rfl (fun ls hl => ?_)
  have lp3 : ∀ (n : Nat) (x3_4 : Int32) (w3_0 : (Nat → Nat → Int32)) (H : Heap) (locs : List Loc) (ls : Array Slot), R = fl_X0_takeIn_3 p1 p2 p3 n x3_4 w3_0 → okl_X0_takeIn_3 p1 p2 p3 n x3_4 w3_0 → va_P G.1 vwCl (List.flatten [BW G a w3_0]) H → va_D A (List.flatten [BW G a w3_0]) → va_S A s.heap H locs → lv_has ls 9 [(0, .ref (a 0)), (1, .int p1), (2, .int p2), (3, .int p3), (4, .int x3_4)] → W p l e { frames := 1, cells := 0, slots := 0, locals := 13 } s m (List.toArray [.ref (a 0), .int p1, .int p2, .int p3]) below meth c H locs 0 0 (gQ G below (List.toArray [.ref (a 0), .int p1, .int p2, .int p3]) s none [BW G a R] A) (F0 m 3 ls []) := by
    intro n
    induction n with
    | zero =>
      intro x3_4 w3_0 H locs ls hR hok hP hD hS hl
      rw [okl_X0_takeIn_3] at hok
      exact hok.elim
    | succ n ih =>
      intro x3_4 w3_0 H locs ls hR hok hP hD hS hl
      rw [fl_X0_takeIn_3] at hR
      rw [okl_X0_takeIn_3] at hok
      refine lv_iload hx hb dX0_takeIn_3 (lv_at hl 4 rfl) ?_
      refine lv_aload_n hx hb dX0_takeIn_5 rfl (lv_at hl 0 rfl) ?_
      refine g_get (ci := 0) (v := .int ((w3_0 0) 0)) (C := RX0) (T := TX0) (N := 8) hx hb hts hinX0 hown hK hP 0 rfl rfl 0 (by decide) (hts (.fieldLink RX0 9 "ChargeStages$Battery" "cells" "I") (List.mem_of_getElem? (i := 1) rfl)) rfl dX0_takeIn_6 ?_
      refine lv_icmp_ge (tgt := 119) hx hb dX0_takeIn_9 (by decide) (fun c11 => ?_) (fun c11 => ?_)
      · rw [if_pos c11] at hR
        have hok := hok.1 c11
        subst hR
        exact g_retv hx hb hr hlocks hS dX0_takeIn_119 rfl hP
      · rw [if_neg c11] at hR
        have hok := hok.2 c11
        refine lv_aload_n hx hb dX0_takeIn_12 rfl (lv_at hl 0 rfl) ?_
        refine g_get (ci := 0) (v := .ref (a 2)) (C := RX0) (T := TX0) (N := 8) hx hb hts hinX0 hown hK hP 0 rfl rfl 2 (by decide) (hts (.fieldLink RX0 19 "ChargeStages$Battery" "rest" "[I") (List.mem_of_getElem? (i := 2) rfl)) rfl dX0_takeIn_13 ?_
        refine lv_iload hx hb dX0_takeIn_16 (lv_at hl 4 rfl) ?_
        obtain ⟨k12, hok⟩ := hok
        refine g_ld (n := 6) (f := (w3_0 2)) (v := (w3_0 2) ((x3_4).toNatClampNeg)) (k := ((x3_4).toNatClampNeg)) hx hb hK hP 2 rfl rfl k12 rfl dX0_takeIn_18 ?_
        refine lv_iload_n hx hb dX0_takeIn_19 rfl (lv_at hl 1 rfl) ?_
        refine lv_iload_n hx hb dX0_takeIn_20 rfl (lv_at hl 2 rfl) ?_
        refine lv_imul hx hb dX0_takeIn_21 ?_
        refine lv_iadd hx hb dX0_takeIn_22 ?_
        obtain ⟨v13, ev13, hR, hok⟩ := g_let2 hR hok
        refine g_topE ev13.symm ?_
        refine lv_istore (lv' := [(5, .int v13), (0, .ref (a 0)), (1, .int p1), (2, .int p2), (3, .int p3), (4, .int x3_4)]) hx hb dX0_takeIn_23 hl (by decide) rfl (fun ls hl => ?_)
        refine lv_iload hx hb dX0_takeIn_25 (lv_at hl 0 rfl) ?_
        refine lv_bipush (v := 100) hx hb dX0_takeIn_27 (by decide) ?_
        refine lv_idiv hx hb dX0_takeIn_29 (by decide) ?_
        obtain ⟨v14, ev14, hR, hok⟩ := g_let2 hR hok
        refine g_topE ev14.symm ?_
        refine lv_istore (lv' := [(6, .int v14), (5, .int v13), (0, .ref (a 0)), (1, .int p1), (2, .int p2), (3, .int p3), (4, .int x3_4)]) hx hb dX0_takeIn_30 hl (by decide) rfl (fun ls hl => ?_)
        refine lv_aload_n hx hb dX0_takeIn_32 rfl (lv_at hl 2 rfl) ?_
        refine g_get (ci := 0) (v := .ref (a 1)) (C := RX0) (T := TX0) (N := 8) hx hb hts hinX0 hown hK hP 0 rfl rfl 1 (by decide) (hts (.fieldLink RX0 15 "ChargeStages$Battery" "charge" "[I") (List.mem_of_getElem? (i := 3) rfl)) rfl dX0_takeIn_33 ?_
        refine lv_iload hx hb dX0_takeIn_36 (lv_at hl 6 rfl) ?_
        obtain ⟨k15, hok⟩ := hok
        refine g_ld (n := 6) (f := (w3_0 1)) (v := (w3_0 1) ((x3_4).toNatClampNeg)) (k := ((x3_4).toNatClampNeg)) hx hb hK hP 1 rfl rfl k15 rfl dX0_takeIn_38 ?_
        refine lv_iload hx hb dX0_takeIn_39 (lv_at hl 0 rfl) ?_
        refine lv_iadd hx hb dX0_takeIn_41 ?_
        obtain ⟨v16, ev16, hR, hok⟩ := g_let2 hR hok
        refine g_topE ev16.symm ?_
        refine lv_istore (lv' := [(7, .int v16), (6, .int v14), (5, .int v13), (0, .ref (a 0)), (1, .int p1), (2, .int p2), (3, .int p3), (4, .int x3_4)]) hx hb dX0_takeIn_42 hl (by decide) rfl (fun ls hl => ?_)
        refine lv_iconst (v := 0) hx hb dX0_takeIn_44 (by decide) ?_
        refine lv_iload hx hb dX0_takeIn_45 (lv_at hl 0 rfl) ?_
        refine lv_iload_n hx hb dX0_takeIn_47 rfl (lv_at hl 6 rfl) ?_
        refine lv_isub hx hb dX0_takeIn_48 ?_
        refine va_mmax hx hb (hml.trans hl.1.symm) hown (hts (.methodLink RX0 43 Lib.Math.max.name) (List.mem_of_getElem? (i := 4) rfl)) (hts (.static Lib.Math.max.name) (List.mem_of_getElem? (i := 5) rfl)) (hts (.initialized "java/lang/Math") (List.mem_of_getElem? (i := 6) rfl)) (hts (.code Lib.Math.max.name Lib.Math.max.code 2 (some .int)) (List.mem_of_getElem? (i := 7) rfl)) (Nat.le_of_ble_eq_true rfl) (Nat.le_of_ble_eq_true rfl) (Nat.zero_le _) (Nat.zero_le _) dX0_takeIn_49 ?_
        refine g_topE (y := (gmax 0 (v16 - p3))) rfl ?_
        obtain ⟨v17, ev17, hR, hok⟩ := g_let2 hR hok
        refine g_topE ev17.symm ?_
        refine lv_istore (lv' := [(8, .int v17), (7, .int v16), (6, .int v14), (5, .int v13), (0, .ref (a 0)), (1, .int p1), (2, .int p2), (3, .int p3), (4, .int x3_4)]) hx hb dX0_takeIn_52 hl (by decide) rfl (fun ls hl => ?_)
        refine lv_aload_n hx hb dX0_takeIn_54 rfl (lv_at hl 4 rfl) ?_
        refine g_get (ci := 0) (v := .ref (a 3)) (C := RX0) (T := TX0) (N := 8) hx hb hts hinX0 hown hK hP 0 rfl rfl 3 (by decide) (hts (.fieldLink RX0 22 "ChargeStages$Battery" "cameIn" "[I") (List.mem_of_getElem? (i := 8) rfl)) rfl dX0_takeIn_55 ?_
        refine lv_iload hx hb dX0_takeIn_58 (lv_at hl 8 rfl) ?_
        refine lv_dup2_11 hx hb dX0_takeIn_60 rfl rfl ?_
        obtain ⟨k18, hok⟩ := hok
        refine g_ld (n := 6) (f := (w3_0 3)) (v := (w3_0 3) ((x3_4).toNatClampNeg)) (k := ((x3_4).toNatClampNeg)) hx hb hK hP 3 rfl rfl k18 rfl dX0_takeIn_61 ?_
        refine lv_iload_n hx hb dX0_takeIn_62 rfl (lv_at hl 5 rfl) ?_
        refine lv_iadd hx hb dX0_takeIn_63 ?_
        obtain ⟨k20, hok⟩ := hok
        obtain ⟨z19, ez19, hR, hok⟩ := g_let2 hR hok
        refine g_st (n := 6) (f := (w3_0 3)) (k := ((x3_4).toNatClampNeg)) (B2 := [BW G a (sF w3_0 3 z19)]) hx hb hK hP hD hS 3 rfl rfl k20 (by subst ez19; rfl) dX0_takeIn_64 (fun H locs hP hD hS => ?_)
        refine lv_aload_n hx hb dX0_takeIn_65 rfl (lv_at hl 4 rfl) ?_
        refine g_get (ci := 0) (v := .ref (a 2)) (C := RX0) (T := TX0) (N := 8) hx hb hts hinX0 hown hK hP 0 rfl rfl 2 (by decide) (hts (.fieldLink RX0 19 "ChargeStages$Battery" "rest" "[I") (List.mem_of_getElem? (i := 2) rfl)) rfl dX0_takeIn_66 ?_
        refine lv_iload hx hb dX0_takeIn_69 (lv_at hl 8 rfl) ?_
        refine lv_iload hx hb dX0_takeIn_71 (lv_at hl 3 rfl) ?_
        refine lv_bipush (v := 100) hx hb dX0_takeIn_73 (by decide) ?_
        refine lv_irem hx hb dX0_takeIn_75 (by decide) ?_
        obtain ⟨k22, hok⟩ := hok
        obtain ⟨z21, ez21, hR, hok⟩ := g_let2 hR hok
        refine g_st (n := 6) (f := (w3_0 2)) (k := ((x3_4).toNatClampNeg)) (B2 := [BW G a (sF (sF w3_0 2 z21) 3 z19)]) hx hb hK hP hD hS 2 rfl rfl k22 (by subst ez21; rfl) dX0_takeIn_76 (fun H locs hP hD hS => ?_)
        refine lv_aload_n hx hb dX0_takeIn_77 rfl (lv_at hl 4 rfl) ?_
        refine g_get (ci := 0) (v := .ref (a 4)) (C := RX0) (T := TX0) (N := 8) hx hb hts hinX0 hown hK hP 0 rfl rfl 4 (by decide) (hts (.fieldLink RX0 25 "ChargeStages$Battery" "stored" "[I") (List.mem_of_getElem? (i := 9) rfl)) rfl dX0_takeIn_78 ?_
        refine lv_iload hx hb dX0_takeIn_81 (lv_at hl 8 rfl) ?_
        refine lv_dup2_11 hx hb dX0_takeIn_83 rfl rfl ?_
        obtain ⟨k23, hok⟩ := hok
        refine g_ld (n := 6) (f := (w3_0 4)) (v := (w3_0 4) ((x3_4).toNatClampNeg)) (k := ((x3_4).toNatClampNeg)) hx hb hK hP 4 rfl rfl k23 rfl dX0_takeIn_84 ?_
        refine lv_iload hx hb dX0_takeIn_85 (lv_at hl 2 rfl) ?_
        refine lv_iadd hx hb dX0_takeIn_87 ?_
        obtain ⟨k25, hok⟩ := hok
        obtain ⟨z24, ez24, hR, hok⟩ := g_let2 hR hok
        refine g_st (n := 6) (f := (w3_0 4)) (k := ((x3_4).toNatClampNeg)) (B2 := [BW G a (sF (sF (sF w3_0 2 z21) 3 z19) 4 z24)]) hx hb hK hP hD hS 4 rfl rfl k25 (by subst ez24; rfl) dX0_takeIn_88 (fun H locs hP hD hS => ?_)
        refine lv_aload_n hx hb dX0_takeIn_89 rfl (lv_at hl 4 rfl) ?_
        refine g_get (ci := 0) (v := .ref (a 5)) (C := RX0) (T := TX0) (N := 8) hx hb hts hinX0 hown hK hP 0 rfl rfl 5 (by decide) (hts (.fieldLink RX0 28 "ChargeStages$Battery" "spilled" "[I") (List.mem_of_getElem? (i := 10) rfl)) rfl dX0_takeIn_90 ?_
        refine lv_iload hx hb dX0_takeIn_93 (lv_at hl 8 rfl) ?_
        refine lv_dup2_11 hx hb dX0_takeIn_95 rfl rfl ?_
        obtain ⟨k26, hok⟩ := hok
        refine g_ld (n := 6) (f := (w3_0 5)) (v := (w3_0 5) ((x3_4).toNatClampNeg)) (k := ((x3_4).toNatClampNeg)) hx hb hK hP 5 rfl rfl k26 rfl dX0_takeIn_96 ?_
        refine lv_iload hx hb dX0_takeIn_97 (lv_at hl 0 rfl) ?_
        refine lv_iadd hx hb dX0_takeIn_99 ?_
        obtain ⟨k28, hok⟩ := hok
        obtain ⟨z27, ez27, hR, hok⟩ := g_let2 hR hok
        refine g_st (n := 6) (f := (w3_0 5)) (k := ((x3_4).toNatClampNeg)) (B2 := [BW G a (sF (sF (sF (sF w3_0 2 z21) 3 z19) 4 z24) 5 z27)]) hx hb hK hP hD hS 5 rfl rfl k28 (by subst ez27; rfl) dX0_takeIn_100 (fun H locs hP hD hS => ?_)
        refine lv_aload_n hx hb dX0_takeIn_101 rfl (lv_at hl 4 rfl) ?_
        refine g_get (ci := 0) (v := .ref (a 1)) (C := RX0) (T := TX0) (N := 8) hx hb hts hinX0 hown hK hP 0 rfl rfl 1 (by decide) (hts (.fieldLink RX0 15 "ChargeStages$Battery" "charge" "[I") (List.mem_of_getElem? (i := 3) rfl)) rfl dX0_takeIn_102 ?_
        refine lv_iload hx hb dX0_takeIn_105 (lv_at hl 8 rfl) ?_
        refine lv_iload hx hb dX0_takeIn_107 (lv_at hl 1 rfl) ?_
        refine lv_iload hx hb dX0_takeIn_109 (lv_at hl 0 rfl) ?_
        refine lv_isub hx hb dX0_takeIn_111 ?_
        obtain ⟨k30, hok⟩ := hok
        obtain ⟨z29, ez29, hR, hok⟩ := g_let2 hR hok
        refine g_st (n := 6) (f := (w3_0 1)) (k := ((x3_4).toNatClampNeg)) (B2 := [BW G a (sF (sF (sF (sF (sF w3_0 1 z29) 2 z21) 3 z19) 4 z24) 5 z27)]) hx hb hK hP hD hS 1 rfl rfl k30 (by subst ez29; rfl) dX0_takeIn_112 (fun H locs hP hD hS => ?_)
        obtain ⟨v31, ev31, hR, hok⟩ := g_let2 hR hok
        refine lv_iinc (v := v31) (lv' := [(4, .int v31), (8, .int v17), (7, .int v16), (6, .int v14), (5, .int v13), (0, .ref (a 0)), (1, .int p1), (2, .int p2), (3, .int p3)]) hx hb dX0_takeIn_113 hl (k := 8) rfl (by subst ev31; rfl) (by decide) rfl (fun ls hl => ?_)
        refine lv_goto (tgt := 3) hx hb dX0_takeIn_116 (by decide) ?_
        exact ih v31 (sF (sF (sF (sF (sF w3_0 1 z29) 2 z21) 3 z19) 4 z24) 5 z27) _ _ _ hR hok hP hD hS (lv_sub hl [5, 6, 7, 8, 0] rfl)
  exact lp3 7 0 b _ _ _ hR hok hP hD hS (lv_sub hl [1, 2, 3, 4, 0] rfl)
def f_X6_baseVoltage (p1 : Int32) (p2 : Int32) : Int32 := (if p2 ≤ 0 then 3000 else (3000 + ((1200 * p1) / p2)))
def ok_X6_baseVoltage (p2 : Int32) : Prop := ((p2 ≤ 0 → True) ∧ (¬ p2 ≤ 0 → (¬ p2 = 0) ∧ True))
set_option maxHeartbeats 4000000 in
set_option maxRecDepth 100000 in
theorem c_X6_baseVoltage (l : Launch) (G : gG)  (p1 : Int32) (p2 : Int32) (R : Int32) (hR : R = f_X6_baseVoltage p1 p2) (hok : ok_X6_baseVoltage p2) : CT l G yX6_baseVoltage wsX6_baseVoltage 0 0 [.int p1, .int p2] [] (some (.int R)) [] := by
  unfold f_X6_baseVoltage at hR
  unfold ok_X6_baseVoltage at hok
  refine CT.of (cc := cX6_baseVoltage) (maxL := 2) (ret := (some .int)) (plainFor_of_name (by decide +kernel)) rfl rfl (Nat.le_of_ble_eq_true rfl) ?_
  intro p e s m below meth c A ls hx hb hml hr hts hown hlocks hK hP hD hA hS hl
  have hown : s.vm.findClass RX6 = some m.cls := hown
  have hl : lv_has ls 2 [(0, .int p1), (1, .int p2)] := hl
  refine lv_iload_n hx hb dX6_baseVoltage_0 rfl (lv_at hl 1 rfl) ?_
  refine lv_if_le (tgt := 18) hx hb dX6_baseVoltage_1 (by decide) (fun c1 => ?_) (fun c1 => ?_)
  · rw [if_pos c1] at hR
    have hok := hok.1 c1
    refine lv_sipush (v := 3000) hx hb dX6_baseVoltage_18 (by decide) ?_
    subst hR
    exact g_ret hx hb hr hlocks hS dX6_baseVoltage_21 rfl hP
  · rw [if_neg c1] at hR
    have hok := hok.2 c1
    refine lv_sipush (v := 3000) hx hb dX6_baseVoltage_4 (by decide) ?_
    refine lv_sipush (v := 1200) hx hb dX6_baseVoltage_7 (by decide) ?_
    refine lv_iload_n hx hb dX6_baseVoltage_10 rfl (lv_at hl 0 rfl) ?_
    refine lv_imul hx hb dX6_baseVoltage_11 ?_
    refine lv_iload_n hx hb dX6_baseVoltage_12 rfl (lv_at hl 1 rfl) ?_
    obtain ⟨k2, hok⟩ := hok
    refine lv_idiv hx hb dX6_baseVoltage_13 k2 ?_
    refine lv_iadd hx hb dX6_baseVoltage_14 ?_
    refine lv_goto (tgt := 21) hx hb dX6_baseVoltage_15 (by decide) ?_
    subst hR
    exact g_ret hx hb hr hlocks hS dX6_baseVoltage_21 rfl hP
def fl_X0_loseTo_15 (p1 : Int32) (p3 : Int32) (v5 : Int32) : Nat → Int32 → (Nat → Nat → Int32) → (Nat → Nat → Int32)
  | 0, _, _ => (fun _ _ => 0)
  | n + 1, x15_5, w15_0 => (if ((w15_0 0) 0) ≤ x15_5 then w15_0 else (gL (f_X6_baseVoltage ((w15_0 1) ((x15_5).toNatClampNeg)) p3) (fun (R15 : Int32) => (if R15 ≤ v5 then (gL ((x15_5 + 1)) (fun (v18 : Int32) => (fl_X0_loseTo_15 p1 p3 v5 n v18 w15_0))) else (gL ((gmin p1 ((w15_0 1) ((x15_5).toNatClampNeg)))) (fun (v20 : Int32) => (gL (upd (w15_0 1) ((x15_5).toNatClampNeg) (((w15_0 1) ((x15_5).toNatClampNeg)) - v20)) (fun (z22 : (Nat → Int32)) => (gL (upd (w15_0 6) ((x15_5).toNatClampNeg) (((w15_0 6) ((x15_5).toNatClampNeg)) + v20)) (fun (z25 : (Nat → Int32)) => (gL ((x15_5 + 1)) (fun (v27 : Int32) => (fl_X0_loseTo_15 p1 p3 v5 n v27 (sF (sF w15_0 1 z22) 6 z25))))))))))))))
def okl_X0_loseTo_15 (p1 : Int32) (p3 : Int32) (v5 : Int32) : Nat → Int32 → (Nat → Nat → Int32) → Prop
  | 0, _, _ => False
  | n + 1, x15_5, w15_0 => ((((w15_0 0) 0) ≤ x15_5 → True) ∧ (¬ ((w15_0 0) 0) ≤ x15_5 → (vp_in x15_5 6) ∧ (ok_X6_baseVoltage p3) ∧ (gL (f_X6_baseVoltage ((w15_0 1) ((x15_5).toNatClampNeg)) p3) (fun (R15 : Int32) => ((R15 ≤ v5 → (gL ((x15_5 + 1)) (fun (v18 : Int32) => (okl_X0_loseTo_15 p1 p3 v5 n v18 w15_0)))) ∧ (¬ R15 ≤ v5 → (vp_in x15_5 6) ∧ (gL ((gmin p1 ((w15_0 1) ((x15_5).toNatClampNeg)))) (fun (v20 : Int32) => (vp_in x15_5 6) ∧ (vp_in x15_5 6) ∧ (gL (upd (w15_0 1) ((x15_5).toNatClampNeg) (((w15_0 1) ((x15_5).toNatClampNeg)) - v20)) (fun (z22 : (Nat → Int32)) => (vp_in x15_5 6) ∧ (vp_in x15_5 6) ∧ (gL (upd (w15_0 6) ((x15_5).toNatClampNeg) (((w15_0 6) ((x15_5).toNatClampNeg)) + v20)) (fun (z25 : (Nat → Int32)) => (gL ((x15_5 + 1)) (fun (v27 : Int32) => (okl_X0_loseTo_15 p1 p3 v5 n v27 (sF (sF w15_0 1 z22) 6 z25))))))))))))))))
def f_X0_loseTo (b : (Nat → Nat → Int32)) (p1 : Int32) (p2 : Int32) (p3 : Int32) : (Nat → Nat → Int32) := (gL (f_X0_leastCharge b) (fun (R1 : Int32) => (gL (f_X6_baseVoltage R1 p3) (fun (R3 : Int32) => (gL ((R3 + p2)) (fun (v5 : Int32) => (fl_X0_loseTo_15 p1 p3 v5 7 0 b)))))))
def ok_X0_loseTo (b : (Nat → Nat → Int32)) (p1 : Int32) (p2 : Int32) (p3 : Int32) : Prop := (ok_X0_leastCharge b) ∧ (gL (f_X0_leastCharge b) (fun (R1 : Int32) => (ok_X6_baseVoltage p3) ∧ (gL (f_X6_baseVoltage R1 p3) (fun (R3 : Int32) => (gL ((R3 + p2)) (fun (v5 : Int32) => (okl_X0_loseTo_15 p1 p3 v5 7 0 b)))))))
set_option maxHeartbeats 4000000 in
set_option maxRecDepth 100000 in
theorem c_X0_loseTo (l : Launch) (G : gG) (a : Nat → Nat) (b : (Nat → Nat → Int32)) (p1 : Int32) (p2 : Int32) (p3 : Int32) (R : (Nat → Nat → Int32)) (hR : R = f_X0_loseTo b p1 p2 p3) (hok : ok_X0_loseTo b p1 p2 p3) : CT l G yX0_loseTo wsX0_loseTo 2 35 [.ref (a 0), .int p1, .int p2, .int p3] [BW G a b] none [BW G a R] := by
  unfold f_X0_loseTo at hR
  unfold ok_X0_loseTo at hok
  refine CT.of (cc := cX0_loseTo) (maxL := 7) (ret := none) (plainFor_of_name (by decide +kernel)) rfl rfl (Nat.le_of_ble_eq_true rfl) ?_
  intro p e s m below meth c A ls hx hb hml hr hts hown hlocks hK hP hD hA hS hl
  have hown : s.vm.findClass RX0 = some m.cls := hown
  have hl : lv_has ls 7 [(0, .ref (a 0)), (1, .int p1), (2, .int p2), (3, .int p3)] := hl
  have hinX0 : ∀ w ∈ wsX00, w ∈ wsX0_loseTo := fun w h => List.mem_cons_of_mem _ (List.mem_append_right _ h)
  refine lv_aload_n hx hb dX0_loseTo_0 rfl (lv_at hl 0 rfl) ?_
  obtain ⟨k2, hok⟩ := hok
  obtain ⟨R1, eR1, hR, hok⟩ := g_let2 hR hok
  refine g_callV (c_X0_leastCharge l G a b R1 eR1 k2) hx hb hml hown hts hK hP hD hS hA gX0_loseTo_X0_leastCharge rfl (n := 0) (by decide +kernel) rfl ⟨Nat.le_of_ble_eq_true rfl, Nat.le_of_ble_eq_true rfl⟩ [0] rfl (by decide) 0 rfl (ci := 0) rfl hl.1 rfl (Nat.le_of_ble_eq_true rfl) ⟨Nat.zero_le _, Nat.zero_le _⟩ dX0_loseTo_1 (fun H locs hP hD hS => ?_)
  have hP : va_P G.1 vwCl (List.flatten [BW G a b]) H := hP
  have hD : va_D A (List.flatten [BW G a b]) := hD
  refine lv_iload_n hx hb dX0_loseTo_4 rfl (lv_at hl 3 rfl) ?_
  obtain ⟨k4, hok⟩ := hok
  obtain ⟨R3, eR3, hR, hok⟩ := g_let2 hR hok
  refine g_callN (host := RX6) (c_X6_baseVoltage l G R1 p3 R3 eR3 k4) hx hb hml hown hts hK hP hD hS hA gX0_loseTo_X6_baseVoltage_n56 rfl (n := 2) (by decide +kernel) (List.mem_of_getElem? (i := 14) rfl) (List.mem_of_getElem? (i := 13) rfl) (by decide +kernel) rfl ⟨Nat.le_of_ble_eq_true rfl, Nat.le_of_ble_eq_true rfl⟩ [] rfl (by decide) hl.1 rfl (Nat.le_of_ble_eq_true rfl) ⟨Nat.zero_le _, Nat.zero_le _⟩ dX0_loseTo_5 (fun H locs hP hD hS => ?_)
  have hP : va_P G.1 vwCl (List.flatten [BW G a b]) H := hP
  have hD : va_D A (List.flatten [BW G a b]) := hD
  refine lv_iload_n hx hb dX0_loseTo_8 rfl (lv_at hl 2 rfl) ?_
  refine lv_iadd hx hb dX0_loseTo_9 ?_
  obtain ⟨v5, ev5, hR, hok⟩ := g_let2 hR hok
  refine g_topE ev5.symm ?_
  refine lv_istore (lv' := [(4, .int v5), (0, .ref (a 0)), (1, .int p1), (2, .int p2), (3, .int p3)]) hx hb dX0_loseTo_10 hl (by decide) rfl (fun ls hl => ?_)
  refine lv_iconst (v := 0) hx hb dX0_loseTo_12 (by decide) ?_
  refine lv_istore (lv' := [(5, .int 0), (4, .int v5), (0, .ref (a 0)), (1, .int p1), (2, .int p2), (3, .int p3)]) hx hb dX0_loseTo_13 hl (by decide) rfl (fun ls hl => ?_)
  have lp15 : ∀ (n : Nat) (x15_5 : Int32) (w15_0 : (Nat → Nat → Int32)) (H : Heap) (locs : List Loc) (ls : Array Slot), R = fl_X0_loseTo_15 p1 p3 v5 n x15_5 w15_0 → okl_X0_loseTo_15 p1 p3 v5 n x15_5 w15_0 → va_P G.1 vwCl (List.flatten [BW G a w15_0]) H → va_D A (List.flatten [BW G a w15_0]) → va_S A s.heap H locs → lv_has ls 7 [(0, .ref (a 0)), (1, .int p1), (2, .int p2), (3, .int p3), (4, .int v5), (5, .int x15_5)] → W p l e { frames := 2, cells := 0, slots := 0, locals := 35 } s m (List.toArray [.ref (a 0), .int p1, .int p2, .int p3]) below meth c H locs 0 0 (gQ G below (List.toArray [.ref (a 0), .int p1, .int p2, .int p3]) s none [BW G a R] A) (F0 m 15 ls []) := by
    intro n
    induction n with
    | zero =>
      intro x15_5 w15_0 H locs ls hR hok hP hD hS hl
      rw [okl_X0_loseTo_15] at hok
      exact hok.elim
    | succ n ih =>
      intro x15_5 w15_0 H locs ls hR hok hP hD hS hl
      rw [fl_X0_loseTo_15] at hR
      rw [okl_X0_loseTo_15] at hok
      refine lv_iload hx hb dX0_loseTo_15 (lv_at hl 5 rfl) ?_
      refine lv_aload_n hx hb dX0_loseTo_17 rfl (lv_at hl 0 rfl) ?_
      refine g_get (ci := 0) (v := .int ((w15_0 0) 0)) (C := RX0) (T := TX0) (N := 8) hx hb hts hinX0 hown hK hP 0 rfl rfl 0 (by decide) (hts (.fieldLink RX0 9 "ChargeStages$Battery" "cells" "I") (List.mem_of_getElem? (i := 1) rfl)) rfl dX0_loseTo_18 ?_
      refine lv_icmp_ge (tgt := 83) hx hb dX0_loseTo_21 (by decide) (fun c13 => ?_) (fun c13 => ?_)
      · rw [if_pos c13] at hR
        have hok := hok.1 c13
        subst hR
        exact g_retv hx hb hr hlocks hS dX0_loseTo_83 rfl hP
      · rw [if_neg c13] at hR
        have hok := hok.2 c13
        refine lv_aload_n hx hb dX0_loseTo_24 rfl (lv_at hl 0 rfl) ?_
        refine g_get (ci := 0) (v := .ref (a 1)) (C := RX0) (T := TX0) (N := 8) hx hb hts hinX0 hown hK hP 0 rfl rfl 1 (by decide) (hts (.fieldLink RX0 15 "ChargeStages$Battery" "charge" "[I") (List.mem_of_getElem? (i := 2) rfl)) rfl dX0_loseTo_25 ?_
        refine lv_iload hx hb dX0_loseTo_28 (lv_at hl 5 rfl) ?_
        obtain ⟨k14, hok⟩ := hok
        refine g_ld (n := 6) (f := (w15_0 1)) (v := (w15_0 1) ((x15_5).toNatClampNeg)) (k := ((x15_5).toNatClampNeg)) hx hb hK hP 1 rfl rfl k14 rfl dX0_loseTo_30 ?_
        refine lv_iload_n hx hb dX0_loseTo_31 rfl (lv_at hl 3 rfl) ?_
        obtain ⟨k16, hok⟩ := hok
        obtain ⟨R15, eR15, hR, hok⟩ := g_let2 hR hok
        refine g_callN (host := RX6) (c_X6_baseVoltage l G ((w15_0 1) ((x15_5).toNatClampNeg)) p3 R15 eR15 k16) hx hb hml hown hts hK hP hD hS hA gX0_loseTo_X6_baseVoltage_n56 rfl (n := 2) (by decide +kernel) (List.mem_of_getElem? (i := 14) rfl) (List.mem_of_getElem? (i := 13) rfl) (by decide +kernel) rfl ⟨Nat.le_of_ble_eq_true rfl, Nat.le_of_ble_eq_true rfl⟩ [] rfl (by decide) hl.1 rfl (Nat.le_of_ble_eq_true rfl) ⟨Nat.zero_le _, Nat.zero_le _⟩ dX0_loseTo_32 (fun H locs hP hD hS => ?_)
        have hP : va_P G.1 vwCl (List.flatten [BW G a w15_0]) H := hP
        have hD : va_D A (List.flatten [BW G a w15_0]) := hD
        refine lv_iload hx hb dX0_loseTo_35 (lv_at hl 4 rfl) ?_
        refine lv_icmp_le (tgt := 77) hx hb dX0_loseTo_37 (by decide) (fun c17 => ?_) (fun c17 => ?_)
        · rw [if_pos c17] at hR
          have hok := hok.1 c17
          obtain ⟨v18, ev18, hR, hok⟩ := g_let2 hR hok
          refine lv_iinc (v := v18) (lv' := [(5, .int v18), (0, .ref (a 0)), (1, .int p1), (2, .int p2), (3, .int p3), (4, .int v5)]) hx hb dX0_loseTo_77 hl (k := 5) rfl (by subst ev18; rfl) (by decide) rfl (fun ls hl => ?_)
          refine lv_goto (tgt := 15) hx hb dX0_loseTo_80 (by decide) ?_
          exact ih v18 w15_0 _ _ _ hR hok hP hD hS (lv_sub hl [1, 2, 3, 4, 5, 0] rfl)
        · rw [if_neg c17] at hR
          have hok := hok.2 c17
          refine lv_iload_n hx hb dX0_loseTo_40 rfl (lv_at hl 1 rfl) ?_
          refine lv_aload_n hx hb dX0_loseTo_41 rfl (lv_at hl 0 rfl) ?_
          refine g_get (ci := 0) (v := .ref (a 1)) (C := RX0) (T := TX0) (N := 8) hx hb hts hinX0 hown hK hP 0 rfl rfl 1 (by decide) (hts (.fieldLink RX0 15 "ChargeStages$Battery" "charge" "[I") (List.mem_of_getElem? (i := 2) rfl)) rfl dX0_loseTo_42 ?_
          refine lv_iload hx hb dX0_loseTo_45 (lv_at hl 5 rfl) ?_
          obtain ⟨k19, hok⟩ := hok
          refine g_ld (n := 6) (f := (w15_0 1)) (v := (w15_0 1) ((x15_5).toNatClampNeg)) (k := ((x15_5).toNatClampNeg)) hx hb hK hP 1 rfl rfl k19 rfl dX0_loseTo_47 ?_
          refine va_mmin hx hb (hml.trans hl.1.symm) hown (hts (.methodLink RX0 37 Lib.Math.min.name) (List.mem_of_getElem? (i := 3) rfl)) (hts (.static Lib.Math.min.name) (List.mem_of_getElem? (i := 4) rfl)) (hts (.initialized "java/lang/Math") (List.mem_of_getElem? (i := 5) rfl)) (hts (.code Lib.Math.min.name Lib.Math.min.code 2 (some .int)) (List.mem_of_getElem? (i := 6) rfl)) (Nat.le_of_ble_eq_true rfl) (Nat.le_of_ble_eq_true rfl) (Nat.zero_le _) (Nat.zero_le _) dX0_loseTo_48 ?_
          refine g_topE (y := (gmin p1 ((w15_0 1) ((x15_5).toNatClampNeg)))) rfl ?_
          obtain ⟨v20, ev20, hR, hok⟩ := g_let2 hR hok
          refine g_topE ev20.symm ?_
          refine lv_istore (lv' := [(6, .int v20), (0, .ref (a 0)), (1, .int p1), (2, .int p2), (3, .int p3), (4, .int v5), (5, .int x15_5)]) hx hb dX0_loseTo_51 hl (by decide) rfl (fun ls hl => ?_)
          refine lv_aload_n hx hb dX0_loseTo_53 rfl (lv_at hl 1 rfl) ?_
          refine g_get (ci := 0) (v := .ref (a 1)) (C := RX0) (T := TX0) (N := 8) hx hb hts hinX0 hown hK hP 0 rfl rfl 1 (by decide) (hts (.fieldLink RX0 15 "ChargeStages$Battery" "charge" "[I") (List.mem_of_getElem? (i := 2) rfl)) rfl dX0_loseTo_54 ?_
          refine lv_iload hx hb dX0_loseTo_57 (lv_at hl 6 rfl) ?_
          refine lv_dup2_11 hx hb dX0_loseTo_59 rfl rfl ?_
          obtain ⟨k21, hok⟩ := hok
          refine g_ld (n := 6) (f := (w15_0 1)) (v := (w15_0 1) ((x15_5).toNatClampNeg)) (k := ((x15_5).toNatClampNeg)) hx hb hK hP 1 rfl rfl k21 rfl dX0_loseTo_60 ?_
          refine lv_iload hx hb dX0_loseTo_61 (lv_at hl 0 rfl) ?_
          refine lv_isub hx hb dX0_loseTo_63 ?_
          obtain ⟨k23, hok⟩ := hok
          obtain ⟨z22, ez22, hR, hok⟩ := g_let2 hR hok
          refine g_st (n := 6) (f := (w15_0 1)) (k := ((x15_5).toNatClampNeg)) (B2 := [BW G a (sF w15_0 1 z22)]) hx hb hK hP hD hS 1 rfl rfl k23 (by subst ez22; rfl) dX0_loseTo_64 (fun H locs hP hD hS => ?_)
          refine lv_aload_n hx hb dX0_loseTo_65 rfl (lv_at hl 1 rfl) ?_
          refine g_get (ci := 0) (v := .ref (a 6)) (C := RX0) (T := TX0) (N := 8) hx hb hts hinX0 hown hK hP 0 rfl rfl 6 (by decide) (hts (.fieldLink RX0 31 "ChargeStages$Battery" "bled" "[I") (List.mem_of_getElem? (i := 7) rfl)) rfl dX0_loseTo_66 ?_
          refine lv_iload hx hb dX0_loseTo_69 (lv_at hl 6 rfl) ?_
          refine lv_dup2_11 hx hb dX0_loseTo_71 rfl rfl ?_
          obtain ⟨k24, hok⟩ := hok
          refine g_ld (n := 6) (f := (w15_0 6)) (v := (w15_0 6) ((x15_5).toNatClampNeg)) (k := ((x15_5).toNatClampNeg)) hx hb hK hP 6 rfl rfl k24 rfl dX0_loseTo_72 ?_
          refine lv_iload hx hb dX0_loseTo_73 (lv_at hl 0 rfl) ?_
          refine lv_iadd hx hb dX0_loseTo_75 ?_
          obtain ⟨k26, hok⟩ := hok
          obtain ⟨z25, ez25, hR, hok⟩ := g_let2 hR hok
          refine g_st (n := 6) (f := (w15_0 6)) (k := ((x15_5).toNatClampNeg)) (B2 := [BW G a (sF (sF w15_0 1 z22) 6 z25)]) hx hb hK hP hD hS 6 rfl rfl k26 (by subst ez25; rfl) dX0_loseTo_76 (fun H locs hP hD hS => ?_)
          obtain ⟨v27, ev27, hR, hok⟩ := g_let2 hR hok
          refine lv_iinc (v := v27) (lv' := [(5, .int v27), (6, .int v20), (0, .ref (a 0)), (1, .int p1), (2, .int p2), (3, .int p3), (4, .int v5)]) hx hb dX0_loseTo_77 hl (k := 6) rfl (by subst ev27; rfl) (by decide) rfl (fun ls hl => ?_)
          refine lv_goto (tgt := 15) hx hb dX0_loseTo_80 (by decide) ?_
          exact ih v27 (sF (sF w15_0 1 z22) 6 z25) _ _ _ hR hok hP hD hS (lv_sub hl [2, 3, 4, 5, 6, 0] rfl)
  exact lp15 7 0 b _ _ _ hR hok hP hD hS (lv_sub hl [2, 3, 4, 5, 1, 0] rfl)
def f_J9_floorMod_7cf53 (p1 : Int32) (p2 : Int32) : Int32 := (gL ((p1 - p1 / p2 * p2)) (fun (v2 : Int32) => (if 0 ≤ (p1 ^^^ p2) then v2 else (if v2 = 0 then v2 else (v2 + p2)))))
def ok_J9_floorMod_7cf53 (p2 : Int32) : Prop := (¬ p2 = 0) ∧ True
set_option maxHeartbeats 4000000 in
set_option maxRecDepth 100000 in
theorem c_J9_floorMod_7cf53 (l : Launch) (G : gG)  (p1 : Int32) (p2 : Int32) (R : Int32) (hR : R = f_J9_floorMod_7cf53 p1 p2) (hok : ok_J9_floorMod_7cf53 p2) : CT l G yJ9_floorMod_7cf53 wsJ9_floorMod_7cf53 0 0 [.int p1, .int p2] [] (some (.int R)) [] := by
  unfold f_J9_floorMod_7cf53 at hR
  unfold ok_J9_floorMod_7cf53 at hok
  refine CT.of (cc := cJ9_floorMod_7cf53) (maxL := 3) (ret := (some .int)) (by decide +kernel) rfl rfl (Nat.le_of_ble_eq_true rfl) ?_
  intro p e s m below meth c A ls hx hb hml hr hts hown hlocks hK hP hD hA hS hl
  have hown : s.vm.findClass RJ9 = some m.cls := hown
  have hl : lv_has ls 3 [(0, .int p1), (1, .int p2)] := hl
  refine lv_iload_n hx hb dJ9_floorMod_7cf53_0 rfl (lv_at hl 0 rfl) ?_
  refine lv_iload_n hx hb dJ9_floorMod_7cf53_1 rfl (lv_at hl 1 rfl) ?_
  obtain ⟨k1, hok⟩ := hok
  refine lv_irem hx hb dJ9_floorMod_7cf53_2 k1 ?_
  obtain ⟨v2, ev2, hR⟩ := g_let hR
  refine g_topE ev2.symm ?_
  refine lv_istore_n (lv' := [(2, .int v2), (0, .int p1), (1, .int p2)]) hx hb dJ9_floorMod_7cf53_3 rfl hl (by decide) rfl (fun ls hl => ?_)
  refine lv_iload_n hx hb dJ9_floorMod_7cf53_4 rfl (lv_at hl 1 rfl) ?_
  refine lv_iload_n hx hb dJ9_floorMod_7cf53_5 rfl (lv_at hl 2 rfl) ?_
  refine lv_ixor hx hb dJ9_floorMod_7cf53_6 ?_
  refine lv_if_ge (tgt := 18) hx hb dJ9_floorMod_7cf53_7 (by decide) (fun c3 => ?_) (fun c3 => ?_)
  · rw [if_pos c3] at hR
    refine lv_iload_n hx hb dJ9_floorMod_7cf53_18 rfl (lv_at hl 0 rfl) ?_
    subst hR
    exact g_ret hx hb hr hlocks hS dJ9_floorMod_7cf53_19 rfl hP
  · rw [if_neg c3] at hR
    refine lv_iload_n hx hb dJ9_floorMod_7cf53_10 rfl (lv_at hl 0 rfl) ?_
    refine lv_if_eq (tgt := 18) hx hb dJ9_floorMod_7cf53_11 (by decide) (fun c4 => ?_) (fun c4 => ?_)
    · rw [if_pos c4] at hR
      refine lv_iload_n hx hb dJ9_floorMod_7cf53_18 rfl (lv_at hl 0 rfl) ?_
      subst hR
      exact g_ret hx hb hr hlocks hS dJ9_floorMod_7cf53_19 rfl hP
    · rw [if_neg c4] at hR
      refine lv_iload_n hx hb dJ9_floorMod_7cf53_14 rfl (lv_at hl 0 rfl) ?_
      refine lv_iload_n hx hb dJ9_floorMod_7cf53_15 rfl (lv_at hl 2 rfl) ?_
      refine lv_iadd hx hb dJ9_floorMod_7cf53_16 ?_
      subst hR
      exact g_ret hx hb hr hlocks hS dJ9_floorMod_7cf53_17 rfl hP
def f_X2_add (g : (Nat → Nat → Int32)) (p1 : Int32) (p2 : Int32) (p3 : Int32) : (Nat → Nat → Int32) := (gL (upd (g 1) (((g 0) 1).toNatClampNeg) p1) (fun (z1 : (Nat → Int32)) => (gL (upd (g 2) (((g 0) 1).toNatClampNeg) p2) (fun (z3 : (Nat → Int32)) => (gL (upd (g 3) (((g 0) 1).toNatClampNeg) p3) (fun (z5 : (Nat → Int32)) => (if 10 ≤ ((g 0) 0) then (sF (sF (sF (sF g 0 (upd (g 0) 1 ((((g 0) 1) + 1) - (((g 0) 1) + 1) / 10 * 10))) 1 z1) 2 z3) 3 z5) else (sF (sF (sF (sF g 0 (upd (upd (g 0) 1 ((((g 0) 1) + 1) - (((g 0) 1) + 1) / 10 * 10)) 0 (((g 0) 0) + 1))) 1 z1) 2 z3) 3 z5))))))))
def ok_X2_add (g : (Nat → Nat → Int32)) (p1 : Int32) (p2 : Int32) : Prop := (vp_in ((g 0) 1) 10) ∧ (gL (upd (g 1) (((g 0) 1).toNatClampNeg) p1) (fun (z1 : (Nat → Int32)) => (vp_in ((g 0) 1) 10) ∧ (gL (upd (g 2) (((g 0) 1).toNatClampNeg) p2) (fun (z3 : (Nat → Int32)) => (vp_in ((g 0) 1) 10) ∧ True))))
set_option maxHeartbeats 4000000 in
set_option maxRecDepth 100000 in
theorem c_X2_add (l : Launch) (G : gG) (a : Nat → Nat) (g : (Nat → Nat → Int32)) (p1 : Int32) (p2 : Int32) (p3 : Int32) (R : (Nat → Nat → Int32)) (hR : R = f_X2_add g p1 p2 p3) (hok : ok_X2_add g p1 p2) : CT l G yX2_add wsX2_add 0 0 [.ref (a 0), .int p1, .int p2, .int p3] [LW G a g] none [LW G a R] := by
  unfold f_X2_add at hR
  unfold ok_X2_add at hok
  refine CT.of (cc := cX2_add) (maxL := 4) (ret := none) (plainFor_of_name (by decide +kernel)) rfl rfl (Nat.le_of_ble_eq_true rfl) ?_
  intro p e s m below meth c A ls hx hb hml hr hts hown hlocks hK hP hD hA hS hl
  have hown : s.vm.findClass RX2 = some m.cls := hown
  have hl : lv_has ls 4 [(0, .ref (a 0)), (1, .int p1), (2, .int p2), (3, .int p3)] := hl
  have hinX2 : ∀ w ∈ wsX20, w ∈ wsX2_add := fun w h => List.mem_cons_of_mem _ (List.mem_append_right _ h)
  refine lv_aload_n hx hb dX2_add_0 rfl (lv_at hl 0 rfl) ?_
  refine g_get (ci := 2) (v := .ref (a 1)) (C := RX2) (T := TX2) (N := 5) hx hb hts hinX2 hown hK hP 0 rfl rfl 2 (by decide) (hts (.fieldLink RX2 18 "ChargeStages$Log" "kind" "[I") (List.mem_of_getElem? (i := 1) rfl)) rfl dX2_add_1 ?_
  refine lv_aload_n hx hb dX2_add_4 rfl (lv_at hl 0 rfl) ?_
  refine g_get (ci := 2) (v := .int ((g 0) 1)) (C := RX2) (T := TX2) (N := 5) hx hb hts hinX2 hown hK hP 0 rfl rfl 1 (by decide) (hts (.fieldLink RX2 15 "ChargeStages$Log" "next" "I") (List.mem_of_getElem? (i := 2) rfl)) rfl dX2_add_5 ?_
  refine lv_iload_n hx hb dX2_add_8 rfl (lv_at hl 1 rfl) ?_
  obtain ⟨k2, hok⟩ := hok
  obtain ⟨z1, ez1, hR, hok⟩ := g_let2 hR hok
  refine g_st (n := 10) (f := (g 1)) (k := (((g 0) 1).toNatClampNeg)) (B2 := [LW G a (sF g 1 z1)]) hx hb hK hP hD hS 1 rfl rfl k2 (by subst ez1; rfl) dX2_add_9 (fun H locs hP hD hS => ?_)
  refine lv_aload_n hx hb dX2_add_10 rfl (lv_at hl 0 rfl) ?_
  refine g_get (ci := 2) (v := .ref (a 2)) (C := RX2) (T := TX2) (N := 5) hx hb hts hinX2 hown hK hP 0 rfl rfl 3 (by decide) (hts (.fieldLink RX2 22 "ChargeStages$Log" "tick" "[I") (List.mem_of_getElem? (i := 3) rfl)) rfl dX2_add_11 ?_
  refine lv_aload_n hx hb dX2_add_14 rfl (lv_at hl 0 rfl) ?_
  refine g_get (ci := 2) (v := .int ((g 0) 1)) (C := RX2) (T := TX2) (N := 5) hx hb hts hinX2 hown hK hP 0 rfl rfl 1 (by decide) (hts (.fieldLink RX2 15 "ChargeStages$Log" "next" "I") (List.mem_of_getElem? (i := 2) rfl)) rfl dX2_add_15 ?_
  refine lv_iload_n hx hb dX2_add_18 rfl (lv_at hl 2 rfl) ?_
  obtain ⟨k4, hok⟩ := hok
  obtain ⟨z3, ez3, hR, hok⟩ := g_let2 hR hok
  refine g_st (n := 10) (f := (g 2)) (k := (((g 0) 1).toNatClampNeg)) (B2 := [LW G a (sF (sF g 1 z1) 2 z3)]) hx hb hK hP hD hS 2 rfl rfl k4 (by subst ez3; rfl) dX2_add_19 (fun H locs hP hD hS => ?_)
  refine lv_aload_n hx hb dX2_add_20 rfl (lv_at hl 0 rfl) ?_
  refine g_get (ci := 2) (v := .ref (a 3)) (C := RX2) (T := TX2) (N := 5) hx hb hts hinX2 hown hK hP 0 rfl rfl 4 (by decide) (hts (.fieldLink RX2 25 "ChargeStages$Log" "stage" "[I") (List.mem_of_getElem? (i := 4) rfl)) rfl dX2_add_21 ?_
  refine lv_aload_n hx hb dX2_add_24 rfl (lv_at hl 0 rfl) ?_
  refine g_get (ci := 2) (v := .int ((g 0) 1)) (C := RX2) (T := TX2) (N := 5) hx hb hts hinX2 hown hK hP 0 rfl rfl 1 (by decide) (hts (.fieldLink RX2 15 "ChargeStages$Log" "next" "I") (List.mem_of_getElem? (i := 2) rfl)) rfl dX2_add_25 ?_
  refine lv_iload_n hx hb dX2_add_28 rfl (lv_at hl 3 rfl) ?_
  obtain ⟨k6, hok⟩ := hok
  obtain ⟨z5, ez5, hR⟩ := g_let hR
  refine g_st (n := 10) (f := (g 3)) (k := (((g 0) 1).toNatClampNeg)) (B2 := [LW G a (sF (sF (sF g 1 z1) 2 z3) 3 z5)]) hx hb hK hP hD hS 3 rfl rfl k6 (by subst ez5; rfl) dX2_add_29 (fun H locs hP hD hS => ?_)
  refine lv_aload_n hx hb dX2_add_30 rfl (lv_at hl 0 rfl) ?_
  refine lv_aload_n hx hb dX2_add_31 rfl (lv_at hl 0 rfl) ?_
  refine g_get (ci := 2) (v := .int ((g 0) 1)) (C := RX2) (T := TX2) (N := 5) hx hb hts hinX2 hown hK hP 0 rfl rfl 1 (by decide) (hts (.fieldLink RX2 15 "ChargeStages$Log" "next" "I") (List.mem_of_getElem? (i := 2) rfl)) rfl dX2_add_32 ?_
  refine lv_iconst (v := 1) hx hb dX2_add_35 (by decide) ?_
  refine lv_iadd hx hb dX2_add_36 ?_
  refine lv_bipush (v := 10) hx hb dX2_add_37 (by decide) ?_
  refine lv_irem hx hb dX2_add_39 (by decide) ?_
  refine g_put (ci := 2) (v := .int ((((g 0) 1) + 1) - (((g 0) 1) + 1) / 10 * 10)) (ty := .int) (C := RX2) (T := TX2) (N := 5) (B2 := [LW G a (sF (sF (sF (sF g 0 (upd (g 0) 1 ((((g 0) 1) + 1) - (((g 0) 1) + 1) / 10 * 10))) 1 z1) 2 z3) 3 z5)]) hx hb hts hinX2 tyX2 tyX2_ok nmX2 hown hK hP hD hS 0 rfl rfl 1 (by decide) (hts (.fieldLink RX2 15 "ChargeStages$Log" "next" "I") (List.mem_of_getElem? (i := 2) rfl)) rfl (by decide +kernel) rfl rfl (Nat.le_of_ble_eq_true rfl) rfl dX2_add_40 (fun H locs hP hD hS => ?_)
  refine lv_aload_n hx hb dX2_add_43 rfl (lv_at hl 0 rfl) ?_
  refine g_get (ci := 2) (v := .int ((g 0) 0)) (C := RX2) (T := TX2) (N := 5) hx hb hts hinX2 hown hK hP 0 rfl rfl 0 (by decide) (hts (.fieldLink RX2 9 "ChargeStages$Log" "events" "I") (List.mem_of_getElem? (i := 5) rfl)) rfl dX2_add_44 ?_
  refine lv_bipush (v := 10) hx hb dX2_add_47 (by decide) ?_
  refine lv_icmp_ge (tgt := 62) hx hb dX2_add_49 (by decide) (fun c7 => ?_) (fun c7 => ?_)
  · rw [if_pos c7] at hR
    subst hR
    exact g_retv hx hb hr hlocks hS dX2_add_62 rfl hP
  · rw [if_neg c7] at hR
    refine lv_aload_n hx hb dX2_add_52 rfl (lv_at hl 0 rfl) ?_
    refine lv_dup hx hb dX2_add_53 rfl ?_
    refine g_get (ci := 2) (v := .int ((g 0) 0)) (C := RX2) (T := TX2) (N := 5) hx hb hts hinX2 hown hK hP 0 rfl rfl 0 (by decide) (hts (.fieldLink RX2 9 "ChargeStages$Log" "events" "I") (List.mem_of_getElem? (i := 5) rfl)) rfl dX2_add_54 ?_
    refine lv_iconst (v := 1) hx hb dX2_add_57 (by decide) ?_
    refine lv_iadd hx hb dX2_add_58 ?_
    refine g_put (ci := 2) (v := .int (((g 0) 0) + 1)) (ty := .int) (C := RX2) (T := TX2) (N := 5) (B2 := [LW G a (sF (sF (sF (sF g 0 (upd (upd (g 0) 1 ((((g 0) 1) + 1) - (((g 0) 1) + 1) / 10 * 10)) 0 (((g 0) 0) + 1))) 1 z1) 2 z3) 3 z5)]) hx hb hts hinX2 tyX2 tyX2_ok nmX2 hown hK hP hD hS 0 rfl rfl 0 (by decide) (hts (.fieldLink RX2 9 "ChargeStages$Log" "events" "I") (List.mem_of_getElem? (i := 5) rfl)) rfl (by decide +kernel) rfl rfl (Nat.le_of_ble_eq_true rfl) rfl dX2_add_59 (fun H locs hP hD hS => ?_)
    subst hR
    exact g_retv hx hb hr hlocks hS dX2_add_62 rfl hP
def f_X2_placeOf (g : (Nat → Nat → Int32)) (p1 : Int32) : Int32 := (gL (f_J9_floorMod_7cf53 ((((g 0) 1) - 1) - p1) 10) (fun (R1 : Int32) => R1))
def ok_X2_placeOf  : Prop := (ok_J9_floorMod_7cf53 10) ∧ True
set_option maxHeartbeats 4000000 in
set_option maxRecDepth 100000 in
theorem c_X2_placeOf (l : Launch) (G : gG) (a : Nat → Nat) (g : (Nat → Nat → Int32)) (p1 : Int32) (R : Int32) (hR : R = f_X2_placeOf g p1) (hok : ok_X2_placeOf ) : CT l G yX2_placeOf wsX2_placeOf 1 22 [.ref (a 0), .int p1] [LW G a g] (some (.int R)) [LW G a g] := by
  unfold f_X2_placeOf at hR
  unfold ok_X2_placeOf at hok
  refine CT.of (cc := cX2_placeOf) (maxL := 2) (ret := (some .int)) (plainFor_of_name (by decide +kernel)) rfl rfl (Nat.le_of_ble_eq_true rfl) ?_
  intro p e s m below meth c A ls hx hb hml hr hts hown hlocks hK hP hD hA hS hl
  have hown : s.vm.findClass RX2 = some m.cls := hown
  have hl : lv_has ls 2 [(0, .ref (a 0)), (1, .int p1)] := hl
  have hinX2 : ∀ w ∈ wsX20, w ∈ wsX2_placeOf := fun w h => List.mem_cons_of_mem _ (List.mem_append_right _ h)
  refine lv_aload_n hx hb dX2_placeOf_0 rfl (lv_at hl 0 rfl) ?_
  refine g_get (ci := 2) (v := .int ((g 0) 1)) (C := RX2) (T := TX2) (N := 5) hx hb hts hinX2 hown hK hP 0 rfl rfl 1 (by decide) (hts (.fieldLink RX2 15 "ChargeStages$Log" "next" "I") (List.mem_of_getElem? (i := 1) rfl)) rfl dX2_placeOf_1 ?_
  refine lv_iconst (v := 1) hx hb dX2_placeOf_4 (by decide) ?_
  refine lv_isub hx hb dX2_placeOf_5 ?_
  refine lv_iload_n hx hb dX2_placeOf_6 rfl (lv_at hl 1 rfl) ?_
  refine lv_isub hx hb dX2_placeOf_7 ?_
  refine lv_bipush (v := 10) hx hb dX2_placeOf_8 (by decide) ?_
  obtain ⟨k2, hok⟩ := hok
  obtain ⟨R1, eR1, hR⟩ := g_let hR
  refine g_callS (c_J9_floorMod_7cf53 l G ((((g 0) 1) - 1) - p1) 10 R1 eR1 k2) hx hb hml hown hts hK hP hD hS hA gX2_placeOf_J9_floorMod_7cf53 rfl (n := 2) (by decide +kernel) rfl ⟨Nat.le_of_ble_eq_true rfl, Nat.le_of_ble_eq_true rfl⟩ [] rfl (by decide) hl.1 rfl (Nat.le_of_ble_eq_true rfl) ⟨Nat.zero_le _, Nat.zero_le _⟩ dX2_placeOf_10 (fun H locs hP hD hS => ?_)
  have hP : va_P G.1 vwCl (List.flatten [LW G a g]) H := hP
  have hD : va_D A (List.flatten [LW G a g]) := hD
  subst hR
  exact g_ret hx hb hr hlocks hS dX2_placeOf_13 rfl hP
set_option maxHeartbeats 4000000 in
set_option maxRecDepth 100000 in
theorem c_X2_copyFrom (l : Launch) (G : gG) (a : Nat → Nat) (h : Nat → Nat) (g : (Nat → Nat → Int32)) (g2 : (Nat → Nat → Int32)) : CT l G yX2_copyFrom wsX2_copyFrom 1 18 [.ref (a 0), .ref (h 0)] [LW G a g, LW G h g2] none [LW G a g2, LW G h g2] := by
  refine CT.of (cc := cX2_copyFrom) (maxL := 2) (ret := none) (plainFor_of_name (by decide +kernel)) rfl rfl (Nat.le_of_ble_eq_true rfl) ?_
  intro p e s m below meth c A ls hx hb hml hr hts hown hlocks hK hP hD hA hS hl
  have hown : s.vm.findClass RX2 = some m.cls := hown
  have hl : lv_has ls 2 [(0, .ref (a 0)), (1, .ref (h 0))] := hl
  have hinX2 : ∀ w ∈ wsX20, w ∈ wsX2_copyFrom := fun w h => List.mem_cons_of_mem _ (List.mem_append_right _ h)
  refine lv_aload_n hx hb dX2_copyFrom_0 rfl (lv_at hl 0 rfl) ?_
  refine lv_aload_n hx hb dX2_copyFrom_1 rfl (lv_at hl 1 rfl) ?_
  refine g_get (ci := 2) (v := .int ((g2 0) 0)) (C := RX2) (T := TX2) (N := 5) hx hb hts hinX2 hown hK hP 4 rfl rfl 0 (by decide) (hts (.fieldLink RX2 9 "ChargeStages$Log" "events" "I") (List.mem_of_getElem? (i := 1) rfl)) rfl dX2_copyFrom_2 ?_
  refine g_put (ci := 2) (v := .int ((g2 0) 0)) (ty := .int) (C := RX2) (T := TX2) (N := 5) (B2 := [LW G a (sF g 0 (upd (g 0) 0 ((g2 0) 0))), LW G h g2]) hx hb hts hinX2 tyX2 tyX2_ok nmX2 hown hK hP hD hS 0 rfl rfl 0 (by decide) (hts (.fieldLink RX2 9 "ChargeStages$Log" "events" "I") (List.mem_of_getElem? (i := 1) rfl)) rfl (by decide +kernel) rfl rfl (Nat.le_of_ble_eq_true rfl) rfl dX2_copyFrom_5 (fun H locs hP hD hS => ?_)
  refine lv_aload_n hx hb dX2_copyFrom_8 rfl (lv_at hl 0 rfl) ?_
  refine lv_aload_n hx hb dX2_copyFrom_9 rfl (lv_at hl 1 rfl) ?_
  refine g_get (ci := 2) (v := .int ((g2 0) 1)) (C := RX2) (T := TX2) (N := 5) hx hb hts hinX2 hown hK hP 4 rfl rfl 1 (by decide) (hts (.fieldLink RX2 15 "ChargeStages$Log" "next" "I") (List.mem_of_getElem? (i := 2) rfl)) rfl dX2_copyFrom_10 ?_
  refine g_put (ci := 2) (v := .int ((g2 0) 1)) (ty := .int) (C := RX2) (T := TX2) (N := 5) (B2 := [LW G a (sF g 0 (upd (upd (g 0) 0 ((g2 0) 0)) 1 ((g2 0) 1))), LW G h g2]) hx hb hts hinX2 tyX2 tyX2_ok nmX2 hown hK hP hD hS 0 rfl rfl 1 (by decide) (hts (.fieldLink RX2 15 "ChargeStages$Log" "next" "I") (List.mem_of_getElem? (i := 2) rfl)) rfl (by decide +kernel) rfl rfl (Nat.le_of_ble_eq_true rfl) rfl dX2_copyFrom_13 (fun H locs hP hD hS => ?_)
  refine lv_aload_n hx hb dX2_copyFrom_16 rfl (lv_at hl 1 rfl) ?_
  refine g_get (ci := 2) (v := .ref (h 1)) (C := RX2) (T := TX2) (N := 5) hx hb hts hinX2 hown hK hP 4 rfl rfl 2 (by decide) (hts (.fieldLink RX2 18 "ChargeStages$Log" "kind" "[I") (List.mem_of_getElem? (i := 3) rfl)) rfl dX2_copyFrom_17 ?_
  refine lv_iconst (v := 0) hx hb dX2_copyFrom_20 (by decide) ?_
  refine lv_aload_n hx hb dX2_copyFrom_21 rfl (lv_at hl 0 rfl) ?_
  refine g_get (ci := 2) (v := .ref (a 1)) (C := RX2) (T := TX2) (N := 5) hx hb hts hinX2 hown hK hP 0 rfl rfl 2 (by decide) (hts (.fieldLink RX2 18 "ChargeStages$Log" "kind" "[I") (List.mem_of_getElem? (i := 3) rfl)) rfl dX2_copyFrom_22 ?_
  refine lv_iconst (v := 0) hx hb dX2_copyFrom_25 (by decide) ?_
  refine lv_bipush (v := 10) hx hb dX2_copyFrom_26 (by decide) ?_
  refine g_copy (N := 10) (B2 := [LW G a (sF (sF g 0 (upd (upd (g 0) 0 ((g2 0) 0)) 1 ((g2 0) 1))) 1 (g2 1)), LW G h g2]) hx hb (hml.trans hl.1.symm) hown (hts (.methodLink RX2 34 arraycopyName) (List.mem_of_getElem? (i := 4) rfl)) (hts (.native arraycopyName) (List.mem_of_getElem? (i := 5) rfl)) (hts (.static arraycopyName) (List.mem_of_getElem? (i := 6) rfl)) (hts (.initialized "java/lang/System") (List.mem_of_getElem? (i := 7) rfl)) hK hP hD hS 5 1 rfl rfl (by decide) (by decide) rfl (Nat.le_of_ble_eq_true rfl) (Nat.le_of_ble_eq_true rfl) dX2_copyFrom_28 (fun H locs hP hD hS => ?_)
  refine lv_aload_n hx hb dX2_copyFrom_31 rfl (lv_at hl 1 rfl) ?_
  refine g_get (ci := 2) (v := .ref (h 2)) (C := RX2) (T := TX2) (N := 5) hx hb hts hinX2 hown hK hP 4 rfl rfl 3 (by decide) (hts (.fieldLink RX2 22 "ChargeStages$Log" "tick" "[I") (List.mem_of_getElem? (i := 8) rfl)) rfl dX2_copyFrom_32 ?_
  refine lv_iconst (v := 0) hx hb dX2_copyFrom_35 (by decide) ?_
  refine lv_aload_n hx hb dX2_copyFrom_36 rfl (lv_at hl 0 rfl) ?_
  refine g_get (ci := 2) (v := .ref (a 2)) (C := RX2) (T := TX2) (N := 5) hx hb hts hinX2 hown hK hP 0 rfl rfl 3 (by decide) (hts (.fieldLink RX2 22 "ChargeStages$Log" "tick" "[I") (List.mem_of_getElem? (i := 8) rfl)) rfl dX2_copyFrom_37 ?_
  refine lv_iconst (v := 0) hx hb dX2_copyFrom_40 (by decide) ?_
  refine lv_bipush (v := 10) hx hb dX2_copyFrom_41 (by decide) ?_
  refine g_copy (N := 10) (B2 := [LW G a (sF (sF (sF g 0 (upd (upd (g 0) 0 ((g2 0) 0)) 1 ((g2 0) 1))) 1 (g2 1)) 2 (g2 2)), LW G h g2]) hx hb (hml.trans hl.1.symm) hown (hts (.methodLink RX2 34 arraycopyName) (List.mem_of_getElem? (i := 4) rfl)) (hts (.native arraycopyName) (List.mem_of_getElem? (i := 5) rfl)) (hts (.static arraycopyName) (List.mem_of_getElem? (i := 6) rfl)) (hts (.initialized "java/lang/System") (List.mem_of_getElem? (i := 7) rfl)) hK hP hD hS 6 2 rfl rfl (by decide) (by decide) rfl (Nat.le_of_ble_eq_true rfl) (Nat.le_of_ble_eq_true rfl) dX2_copyFrom_43 (fun H locs hP hD hS => ?_)
  refine lv_aload_n hx hb dX2_copyFrom_46 rfl (lv_at hl 1 rfl) ?_
  refine g_get (ci := 2) (v := .ref (h 3)) (C := RX2) (T := TX2) (N := 5) hx hb hts hinX2 hown hK hP 4 rfl rfl 4 (by decide) (hts (.fieldLink RX2 25 "ChargeStages$Log" "stage" "[I") (List.mem_of_getElem? (i := 9) rfl)) rfl dX2_copyFrom_47 ?_
  refine lv_iconst (v := 0) hx hb dX2_copyFrom_50 (by decide) ?_
  refine lv_aload_n hx hb dX2_copyFrom_51 rfl (lv_at hl 0 rfl) ?_
  refine g_get (ci := 2) (v := .ref (a 3)) (C := RX2) (T := TX2) (N := 5) hx hb hts hinX2 hown hK hP 0 rfl rfl 4 (by decide) (hts (.fieldLink RX2 25 "ChargeStages$Log" "stage" "[I") (List.mem_of_getElem? (i := 9) rfl)) rfl dX2_copyFrom_52 ?_
  refine lv_iconst (v := 0) hx hb dX2_copyFrom_55 (by decide) ?_
  refine lv_bipush (v := 10) hx hb dX2_copyFrom_56 (by decide) ?_
  refine g_copy (N := 10) (B2 := [LW G a (sF (sF (sF (sF g 0 (upd (upd (g 0) 0 ((g2 0) 0)) 1 ((g2 0) 1))) 1 (g2 1)) 2 (g2 2)) 3 (g2 3)), LW G h g2]) hx hb (hml.trans hl.1.symm) hown (hts (.methodLink RX2 34 arraycopyName) (List.mem_of_getElem? (i := 4) rfl)) (hts (.native arraycopyName) (List.mem_of_getElem? (i := 5) rfl)) (hts (.static arraycopyName) (List.mem_of_getElem? (i := 6) rfl)) (hts (.initialized "java/lang/System") (List.mem_of_getElem? (i := 7) rfl)) hK hP hD hS 7 3 rfl rfl (by decide) (by decide) rfl (Nat.le_of_ble_eq_true rfl) (Nat.le_of_ble_eq_true rfl) dX2_copyFrom_58 (fun H locs hP hD hS => ?_)
  exact g_retv hx hb hr hlocks hS dX2_copyFrom_61 rfl hP
def f_X6_isIn (p1 : Int32) (p2 : Int32) (p3 : Int32) : Int32 := (if p1 < p2 then 0 else (if p3 < p1 then 0 else 1))
set_option maxHeartbeats 4000000 in
set_option maxRecDepth 100000 in
theorem c_X6_isIn (l : Launch) (G : gG)  (p1 : Int32) (p2 : Int32) (p3 : Int32) (R : Int32) (hR : R = f_X6_isIn p1 p2 p3) : CT l G yX6_isIn wsX6_isIn 0 0 [.int p1, .int p2, .int p3] [] (some (.int R)) [] := by
  unfold f_X6_isIn at hR
  refine CT.of (cc := cX6_isIn) (maxL := 3) (ret := (some .boolean)) (plainFor_of_name (by decide +kernel)) rfl rfl (Nat.le_of_ble_eq_true rfl) ?_
  intro p e s m below meth c A ls hx hb hml hr hts hown hlocks hK hP hD hA hS hl
  have hown : s.vm.findClass RX6 = some m.cls := hown
  have hl : lv_has ls 3 [(0, .int p1), (1, .int p2), (2, .int p3)] := hl
  refine lv_iload_n hx hb dX6_isIn_0 rfl (lv_at hl 0 rfl) ?_
  refine lv_iload_n hx hb dX6_isIn_1 rfl (lv_at hl 1 rfl) ?_
  refine lv_icmp_lt (tgt := 14) hx hb dX6_isIn_2 (by decide) (fun c1 => ?_) (fun c1 => ?_)
  · rw [if_pos c1] at hR
    refine lv_iconst (v := 0) hx hb dX6_isIn_14 (by decide) ?_
    subst hR
    exact g_retz hx hb hr hlocks hS rfl dX6_isIn_15 rfl hP
  · rw [if_neg c1] at hR
    refine lv_iload_n hx hb dX6_isIn_5 rfl (lv_at hl 0 rfl) ?_
    refine lv_iload_n hx hb dX6_isIn_6 rfl (lv_at hl 2 rfl) ?_
    refine lv_icmp_gt (tgt := 14) hx hb dX6_isIn_7 (by decide) (fun c2 => ?_) (fun c2 => ?_)
    · rw [if_pos c2] at hR
      refine lv_iconst (v := 0) hx hb dX6_isIn_14 (by decide) ?_
      subst hR
      exact g_retz hx hb hr hlocks hS rfl dX6_isIn_15 rfl hP
    · rw [if_neg c2] at hR
      refine lv_iconst (v := 1) hx hb dX6_isIn_10 (by decide) ?_
      refine lv_goto (tgt := 15) hx hb dX6_isIn_11 (by decide) ?_
      subst hR
      exact g_retz hx hb hr hlocks hS rfl dX6_isIn_15 rfl hP
def f_X3_has (pf : (Nat → Nat → Int32)) (p1 : Int32) : Int32 := (if p1 < 0 then 0 else (if ((pf 0) 0) ≤ p1 then 0 else 1))
set_option maxHeartbeats 4000000 in
set_option maxRecDepth 100000 in
theorem c_X3_has (l : Launch) (G : gG) (a : Nat → Nat) (pf : (Nat → Nat → Int32)) (p1 : Int32) (R : Int32) (hR : R = f_X3_has pf p1) : CT l G yX3_has wsX3_has 0 0 [.ref (a 0), .int p1] [PW G a pf] (some (.int R)) [PW G a pf] := by
  unfold f_X3_has at hR
  refine CT.of (cc := cX3_has) (maxL := 2) (ret := (some .boolean)) (plainFor_of_name (by decide +kernel)) rfl rfl (Nat.le_of_ble_eq_true rfl) ?_
  intro p e s m below meth c A ls hx hb hml hr hts hown hlocks hK hP hD hA hS hl
  have hown : s.vm.findClass RX3 = some m.cls := hown
  have hl : lv_has ls 2 [(0, .ref (a 0)), (1, .int p1)] := hl
  have hinX3 : ∀ w ∈ wsX30, w ∈ wsX3_has := fun w h => List.mem_cons_of_mem _ (List.mem_append_right _ h)
  refine lv_iload_n hx hb dX3_has_0 rfl (lv_at hl 1 rfl) ?_
  refine lv_if_lt (tgt := 16) hx hb dX3_has_1 (by decide) (fun c1 => ?_) (fun c1 => ?_)
  · rw [if_pos c1] at hR
    refine lv_iconst (v := 0) hx hb dX3_has_16 (by decide) ?_
    subst hR
    exact g_retz hx hb hr hlocks hS rfl dX3_has_17 rfl hP
  · rw [if_neg c1] at hR
    refine lv_iload_n hx hb dX3_has_4 rfl (lv_at hl 1 rfl) ?_
    refine lv_aload_n hx hb dX3_has_5 rfl (lv_at hl 0 rfl) ?_
    refine g_get (ci := 3) (v := .int ((pf 0) 0)) (C := RX3) (T := TX3) (N := 5) hx hb hts hinX3 hown hK hP 0 rfl rfl 0 (by decide) (hts (.fieldLink RX3 9 "ChargeStages$Profile" "stages" "I") (List.mem_of_getElem? (i := 1) rfl)) rfl dX3_has_6 ?_
    refine lv_icmp_ge (tgt := 16) hx hb dX3_has_9 (by decide) (fun c2 => ?_) (fun c2 => ?_)
    · rw [if_pos c2] at hR
      refine lv_iconst (v := 0) hx hb dX3_has_16 (by decide) ?_
      subst hR
      exact g_retz hx hb hr hlocks hS rfl dX3_has_17 rfl hP
    · rw [if_neg c2] at hR
      refine lv_iconst (v := 1) hx hb dX3_has_12 (by decide) ?_
      refine lv_goto (tgt := 17) hx hb dX3_has_13 (by decide) ?_
      subst hR
      exact g_retz hx hb hr hlocks hS rfl dX3_has_17 rfl hP
def f_X3_addStage (pf : (Nat → Nat → Int32)) (p1 : Int32) : Int32 × (Nat → Nat → Int32) := (if ((pf 0) 0) < 5 then (gL (upd (pf 1) (((pf 0) 0).toNatClampNeg) p1) (fun (z2 : (Nat → Int32)) => (gL (upd (pf 2) (((pf 0) 0).toNatClampNeg) 0) (fun (z4 : (Nat → Int32)) => (gL (upd (pf 3) (((pf 0) 0).toNatClampNeg) 0) (fun (z6 : (Nat → Int32)) => (gL (upd (pf 4) (((pf 0) 0).toNatClampNeg) 0) (fun (z8 : (Nat → Int32)) => (1, (sF (sF (sF (sF (sF pf 0 (upd (pf 0) 0 (((pf 0) 0) + 1))) 1 z2) 2 z4) 3 z6) 4 z8)))))))))) else (0, pf))
def ok_X3_addStage (pf : (Nat → Nat → Int32)) (p1 : Int32) : Prop := ((((pf 0) 0) < 5 → (vp_in ((pf 0) 0) 5) ∧ (gL (upd (pf 1) (((pf 0) 0).toNatClampNeg) p1) (fun (z2 : (Nat → Int32)) => (vp_in ((pf 0) 0) 5) ∧ (gL (upd (pf 2) (((pf 0) 0).toNatClampNeg) 0) (fun (z4 : (Nat → Int32)) => (vp_in ((pf 0) 0) 5) ∧ (gL (upd (pf 3) (((pf 0) 0).toNatClampNeg) 0) (fun (z6 : (Nat → Int32)) => (vp_in ((pf 0) 0) 5) ∧ True))))))) ∧ (¬ ((pf 0) 0) < 5 → True))
set_option maxHeartbeats 4000000 in
set_option maxRecDepth 100000 in
theorem c_X3_addStage (l : Launch) (G : gG) (a : Nat → Nat) (pf : (Nat → Nat → Int32)) (p1 : Int32) (R : Int32 × (Nat → Nat → Int32)) (hR : R = f_X3_addStage pf p1) (hok : ok_X3_addStage pf p1) : CT l G yX3_addStage wsX3_addStage 0 0 [.ref (a 0), .int p1] [PW G a pf] (some (.int R.1)) [PW G a R.2] := by
  unfold f_X3_addStage at hR
  unfold ok_X3_addStage at hok
  refine CT.of (cc := cX3_addStage) (maxL := 2) (ret := (some .boolean)) (plainFor_of_name (by decide +kernel)) rfl rfl (Nat.le_of_ble_eq_true rfl) ?_
  intro p e s m below meth c A ls hx hb hml hr hts hown hlocks hK hP hD hA hS hl
  have hown : s.vm.findClass RX3 = some m.cls := hown
  have hl : lv_has ls 2 [(0, .ref (a 0)), (1, .int p1)] := hl
  have hinX3 : ∀ w ∈ wsX30, w ∈ wsX3_addStage := fun w h => List.mem_cons_of_mem _ (List.mem_append_right _ h)
  refine lv_aload_n hx hb dX3_addStage_0 rfl (lv_at hl 0 rfl) ?_
  refine g_get (ci := 3) (v := .int ((pf 0) 0)) (C := RX3) (T := TX3) (N := 5) hx hb hts hinX3 hown hK hP 0 rfl rfl 0 (by decide) (hts (.fieldLink RX3 9 "ChargeStages$Profile" "stages" "I") (List.mem_of_getElem? (i := 1) rfl)) rfl dX3_addStage_1 ?_
  refine lv_iconst (v := 5) hx hb dX3_addStage_4 (by decide) ?_
  refine lv_icmp_lt (tgt := 10) hx hb dX3_addStage_5 (by decide) (fun c1 => ?_) (fun c1 => ?_)
  · rw [if_pos c1] at hR
    have hok := hok.1 c1
    refine lv_aload_n hx hb dX3_addStage_10 rfl (lv_at hl 0 rfl) ?_
    refine g_get (ci := 3) (v := .ref (a 1)) (C := RX3) (T := TX3) (N := 5) hx hb hts hinX3 hown hK hP 0 rfl rfl 1 (by decide) (hts (.fieldLink RX3 15 "ChargeStages$Profile" "kind" "[I") (List.mem_of_getElem? (i := 2) rfl)) rfl dX3_addStage_11 ?_
    refine lv_aload_n hx hb dX3_addStage_14 rfl (lv_at hl 0 rfl) ?_
    refine g_get (ci := 3) (v := .int ((pf 0) 0)) (C := RX3) (T := TX3) (N := 5) hx hb hts hinX3 hown hK hP 0 rfl rfl 0 (by decide) (hts (.fieldLink RX3 9 "ChargeStages$Profile" "stages" "I") (List.mem_of_getElem? (i := 1) rfl)) rfl dX3_addStage_15 ?_
    refine lv_iload_n hx hb dX3_addStage_18 rfl (lv_at hl 1 rfl) ?_
    obtain ⟨k3, hok⟩ := hok
    obtain ⟨z2, ez2, hR, hok⟩ := g_let2 hR hok
    refine g_st (n := 5) (f := (pf 1)) (k := (((pf 0) 0).toNatClampNeg)) (B2 := [PW G a (sF pf 1 z2)]) hx hb hK hP hD hS 1 rfl rfl k3 (by subst ez2; rfl) dX3_addStage_19 (fun H locs hP hD hS => ?_)
    refine lv_aload_n hx hb dX3_addStage_20 rfl (lv_at hl 0 rfl) ?_
    refine g_get (ci := 3) (v := .ref (a 2)) (C := RX3) (T := TX3) (N := 5) hx hb hts hinX3 hown hK hP 0 rfl rfl 2 (by decide) (hts (.fieldLink RX3 19 "ChargeStages$Profile" "first" "[I") (List.mem_of_getElem? (i := 3) rfl)) rfl dX3_addStage_21 ?_
    refine lv_aload_n hx hb dX3_addStage_24 rfl (lv_at hl 0 rfl) ?_
    refine g_get (ci := 3) (v := .int ((pf 0) 0)) (C := RX3) (T := TX3) (N := 5) hx hb hts hinX3 hown hK hP 0 rfl rfl 0 (by decide) (hts (.fieldLink RX3 9 "ChargeStages$Profile" "stages" "I") (List.mem_of_getElem? (i := 1) rfl)) rfl dX3_addStage_25 ?_
    refine lv_iconst (v := 0) hx hb dX3_addStage_28 (by decide) ?_
    obtain ⟨k5, hok⟩ := hok
    obtain ⟨z4, ez4, hR, hok⟩ := g_let2 hR hok
    refine g_st (n := 5) (f := (pf 2)) (k := (((pf 0) 0).toNatClampNeg)) (B2 := [PW G a (sF (sF pf 1 z2) 2 z4)]) hx hb hK hP hD hS 2 rfl rfl k5 (by subst ez4; rfl) dX3_addStage_29 (fun H locs hP hD hS => ?_)
    refine lv_aload_n hx hb dX3_addStage_30 rfl (lv_at hl 0 rfl) ?_
    refine g_get (ci := 3) (v := .ref (a 3)) (C := RX3) (T := TX3) (N := 5) hx hb hts hinX3 hown hK hP 0 rfl rfl 3 (by decide) (hts (.fieldLink RX3 22 "ChargeStages$Profile" "second" "[I") (List.mem_of_getElem? (i := 4) rfl)) rfl dX3_addStage_31 ?_
    refine lv_aload_n hx hb dX3_addStage_34 rfl (lv_at hl 0 rfl) ?_
    refine g_get (ci := 3) (v := .int ((pf 0) 0)) (C := RX3) (T := TX3) (N := 5) hx hb hts hinX3 hown hK hP 0 rfl rfl 0 (by decide) (hts (.fieldLink RX3 9 "ChargeStages$Profile" "stages" "I") (List.mem_of_getElem? (i := 1) rfl)) rfl dX3_addStage_35 ?_
    refine lv_iconst (v := 0) hx hb dX3_addStage_38 (by decide) ?_
    obtain ⟨k7, hok⟩ := hok
    obtain ⟨z6, ez6, hR, hok⟩ := g_let2 hR hok
    refine g_st (n := 5) (f := (pf 3)) (k := (((pf 0) 0).toNatClampNeg)) (B2 := [PW G a (sF (sF (sF pf 1 z2) 2 z4) 3 z6)]) hx hb hK hP hD hS 3 rfl rfl k7 (by subst ez6; rfl) dX3_addStage_39 (fun H locs hP hD hS => ?_)
    refine lv_aload_n hx hb dX3_addStage_40 rfl (lv_at hl 0 rfl) ?_
    refine g_get (ci := 3) (v := .ref (a 4)) (C := RX3) (T := TX3) (N := 5) hx hb hts hinX3 hown hK hP 0 rfl rfl 4 (by decide) (hts (.fieldLink RX3 25 "ChargeStages$Profile" "timer" "[I") (List.mem_of_getElem? (i := 5) rfl)) rfl dX3_addStage_41 ?_
    refine lv_aload_n hx hb dX3_addStage_44 rfl (lv_at hl 0 rfl) ?_
    refine g_get (ci := 3) (v := .int ((pf 0) 0)) (C := RX3) (T := TX3) (N := 5) hx hb hts hinX3 hown hK hP 0 rfl rfl 0 (by decide) (hts (.fieldLink RX3 9 "ChargeStages$Profile" "stages" "I") (List.mem_of_getElem? (i := 1) rfl)) rfl dX3_addStage_45 ?_
    refine lv_iconst (v := 0) hx hb dX3_addStage_48 (by decide) ?_
    obtain ⟨k9, hok⟩ := hok
    obtain ⟨z8, ez8, hR⟩ := g_let hR
    refine g_st (n := 5) (f := (pf 4)) (k := (((pf 0) 0).toNatClampNeg)) (B2 := [PW G a (sF (sF (sF (sF pf 1 z2) 2 z4) 3 z6) 4 z8)]) hx hb hK hP hD hS 4 rfl rfl k9 (by subst ez8; rfl) dX3_addStage_49 (fun H locs hP hD hS => ?_)
    refine lv_aload_n hx hb dX3_addStage_50 rfl (lv_at hl 0 rfl) ?_
    refine lv_dup hx hb dX3_addStage_51 rfl ?_
    refine g_get (ci := 3) (v := .int ((pf 0) 0)) (C := RX3) (T := TX3) (N := 5) hx hb hts hinX3 hown hK hP 0 rfl rfl 0 (by decide) (hts (.fieldLink RX3 9 "ChargeStages$Profile" "stages" "I") (List.mem_of_getElem? (i := 1) rfl)) rfl dX3_addStage_52 ?_
    refine lv_iconst (v := 1) hx hb dX3_addStage_55 (by decide) ?_
    refine lv_iadd hx hb dX3_addStage_56 ?_
    refine g_put (ci := 3) (v := .int (((pf 0) 0) + 1)) (ty := .int) (C := RX3) (T := TX3) (N := 5) (B2 := [PW G a (sF (sF (sF (sF (sF pf 0 (upd (pf 0) 0 (((pf 0) 0) + 1))) 1 z2) 2 z4) 3 z6) 4 z8)]) hx hb hts hinX3 tyX3 tyX3_ok nmX3 hown hK hP hD hS 0 rfl rfl 0 (by decide) (hts (.fieldLink RX3 9 "ChargeStages$Profile" "stages" "I") (List.mem_of_getElem? (i := 1) rfl)) rfl (by decide +kernel) rfl rfl (Nat.le_of_ble_eq_true rfl) rfl dX3_addStage_57 (fun H locs hP hD hS => ?_)
    refine lv_iconst (v := 1) hx hb dX3_addStage_60 (by decide) ?_
    subst hR
    exact g_retz hx hb hr hlocks hS rfl dX3_addStage_61 rfl hP
  · rw [if_neg c1] at hR
    have hok := hok.2 c1
    refine lv_iconst (v := 0) hx hb dX3_addStage_8 (by decide) ?_
    subst hR
    exact g_retz hx hb hr hlocks hS rfl dX3_addStage_9 rfl hP
set_option maxHeartbeats 4000000 in
set_option maxRecDepth 100000 in
theorem c_X3_copyFrom (l : Launch) (G : gG) (a : Nat → Nat) (h : Nat → Nat) (pf : (Nat → Nat → Int32)) (q : (Nat → Nat → Int32)) : CT l G yX3_copyFrom wsX3_copyFrom 1 18 [.ref (a 0), .ref (h 0)] [PW G a pf, PW G h q] none [PW G a q, PW G h q] := by
  refine CT.of (cc := cX3_copyFrom) (maxL := 2) (ret := none) (plainFor_of_name (by decide +kernel)) rfl rfl (Nat.le_of_ble_eq_true rfl) ?_
  intro p e s m below meth c A ls hx hb hml hr hts hown hlocks hK hP hD hA hS hl
  have hown : s.vm.findClass RX3 = some m.cls := hown
  have hl : lv_has ls 2 [(0, .ref (a 0)), (1, .ref (h 0))] := hl
  have hinX3 : ∀ w ∈ wsX30, w ∈ wsX3_copyFrom := fun w h => List.mem_cons_of_mem _ (List.mem_append_right _ h)
  refine lv_aload_n hx hb dX3_copyFrom_0 rfl (lv_at hl 0 rfl) ?_
  refine lv_aload_n hx hb dX3_copyFrom_1 rfl (lv_at hl 1 rfl) ?_
  refine g_get (ci := 3) (v := .int ((q 0) 0)) (C := RX3) (T := TX3) (N := 5) hx hb hts hinX3 hown hK hP 5 rfl rfl 0 (by decide) (hts (.fieldLink RX3 9 "ChargeStages$Profile" "stages" "I") (List.mem_of_getElem? (i := 1) rfl)) rfl dX3_copyFrom_2 ?_
  refine g_put (ci := 3) (v := .int ((q 0) 0)) (ty := .int) (C := RX3) (T := TX3) (N := 5) (B2 := [PW G a (sF pf 0 (upd (pf 0) 0 ((q 0) 0))), PW G h q]) hx hb hts hinX3 tyX3 tyX3_ok nmX3 hown hK hP hD hS 0 rfl rfl 0 (by decide) (hts (.fieldLink RX3 9 "ChargeStages$Profile" "stages" "I") (List.mem_of_getElem? (i := 1) rfl)) rfl (by decide +kernel) rfl rfl (Nat.le_of_ble_eq_true rfl) rfl dX3_copyFrom_5 (fun H locs hP hD hS => ?_)
  refine lv_aload_n hx hb dX3_copyFrom_8 rfl (lv_at hl 1 rfl) ?_
  refine g_get (ci := 3) (v := .ref (h 1)) (C := RX3) (T := TX3) (N := 5) hx hb hts hinX3 hown hK hP 5 rfl rfl 1 (by decide) (hts (.fieldLink RX3 15 "ChargeStages$Profile" "kind" "[I") (List.mem_of_getElem? (i := 2) rfl)) rfl dX3_copyFrom_9 ?_
  refine lv_iconst (v := 0) hx hb dX3_copyFrom_12 (by decide) ?_
  refine lv_aload_n hx hb dX3_copyFrom_13 rfl (lv_at hl 0 rfl) ?_
  refine g_get (ci := 3) (v := .ref (a 1)) (C := RX3) (T := TX3) (N := 5) hx hb hts hinX3 hown hK hP 0 rfl rfl 1 (by decide) (hts (.fieldLink RX3 15 "ChargeStages$Profile" "kind" "[I") (List.mem_of_getElem? (i := 2) rfl)) rfl dX3_copyFrom_14 ?_
  refine lv_iconst (v := 0) hx hb dX3_copyFrom_17 (by decide) ?_
  refine lv_iconst (v := 5) hx hb dX3_copyFrom_18 (by decide) ?_
  refine g_copy (N := 5) (B2 := [PW G a (sF (sF pf 0 (upd (pf 0) 0 ((q 0) 0))) 1 (q 1)), PW G h q]) hx hb (hml.trans hl.1.symm) hown (hts (.methodLink RX3 28 arraycopyName) (List.mem_of_getElem? (i := 3) rfl)) (hts (.native arraycopyName) (List.mem_of_getElem? (i := 4) rfl)) (hts (.static arraycopyName) (List.mem_of_getElem? (i := 5) rfl)) (hts (.initialized "java/lang/System") (List.mem_of_getElem? (i := 6) rfl)) hK hP hD hS 6 1 rfl rfl (by decide) (by decide) rfl (Nat.le_of_ble_eq_true rfl) (Nat.le_of_ble_eq_true rfl) dX3_copyFrom_19 (fun H locs hP hD hS => ?_)
  refine lv_aload_n hx hb dX3_copyFrom_22 rfl (lv_at hl 1 rfl) ?_
  refine g_get (ci := 3) (v := .ref (h 2)) (C := RX3) (T := TX3) (N := 5) hx hb hts hinX3 hown hK hP 5 rfl rfl 2 (by decide) (hts (.fieldLink RX3 19 "ChargeStages$Profile" "first" "[I") (List.mem_of_getElem? (i := 7) rfl)) rfl dX3_copyFrom_23 ?_
  refine lv_iconst (v := 0) hx hb dX3_copyFrom_26 (by decide) ?_
  refine lv_aload_n hx hb dX3_copyFrom_27 rfl (lv_at hl 0 rfl) ?_
  refine g_get (ci := 3) (v := .ref (a 2)) (C := RX3) (T := TX3) (N := 5) hx hb hts hinX3 hown hK hP 0 rfl rfl 2 (by decide) (hts (.fieldLink RX3 19 "ChargeStages$Profile" "first" "[I") (List.mem_of_getElem? (i := 7) rfl)) rfl dX3_copyFrom_28 ?_
  refine lv_iconst (v := 0) hx hb dX3_copyFrom_31 (by decide) ?_
  refine lv_iconst (v := 5) hx hb dX3_copyFrom_32 (by decide) ?_
  refine g_copy (N := 5) (B2 := [PW G a (sF (sF (sF pf 0 (upd (pf 0) 0 ((q 0) 0))) 1 (q 1)) 2 (q 2)), PW G h q]) hx hb (hml.trans hl.1.symm) hown (hts (.methodLink RX3 28 arraycopyName) (List.mem_of_getElem? (i := 3) rfl)) (hts (.native arraycopyName) (List.mem_of_getElem? (i := 4) rfl)) (hts (.static arraycopyName) (List.mem_of_getElem? (i := 5) rfl)) (hts (.initialized "java/lang/System") (List.mem_of_getElem? (i := 6) rfl)) hK hP hD hS 7 2 rfl rfl (by decide) (by decide) rfl (Nat.le_of_ble_eq_true rfl) (Nat.le_of_ble_eq_true rfl) dX3_copyFrom_33 (fun H locs hP hD hS => ?_)
  refine lv_aload_n hx hb dX3_copyFrom_36 rfl (lv_at hl 1 rfl) ?_
  refine g_get (ci := 3) (v := .ref (h 3)) (C := RX3) (T := TX3) (N := 5) hx hb hts hinX3 hown hK hP 5 rfl rfl 3 (by decide) (hts (.fieldLink RX3 22 "ChargeStages$Profile" "second" "[I") (List.mem_of_getElem? (i := 8) rfl)) rfl dX3_copyFrom_37 ?_
  refine lv_iconst (v := 0) hx hb dX3_copyFrom_40 (by decide) ?_
  refine lv_aload_n hx hb dX3_copyFrom_41 rfl (lv_at hl 0 rfl) ?_
  refine g_get (ci := 3) (v := .ref (a 3)) (C := RX3) (T := TX3) (N := 5) hx hb hts hinX3 hown hK hP 0 rfl rfl 3 (by decide) (hts (.fieldLink RX3 22 "ChargeStages$Profile" "second" "[I") (List.mem_of_getElem? (i := 8) rfl)) rfl dX3_copyFrom_42 ?_
  refine lv_iconst (v := 0) hx hb dX3_copyFrom_45 (by decide) ?_
  refine lv_iconst (v := 5) hx hb dX3_copyFrom_46 (by decide) ?_
  refine g_copy (N := 5) (B2 := [PW G a (sF (sF (sF (sF pf 0 (upd (pf 0) 0 ((q 0) 0))) 1 (q 1)) 2 (q 2)) 3 (q 3)), PW G h q]) hx hb (hml.trans hl.1.symm) hown (hts (.methodLink RX3 28 arraycopyName) (List.mem_of_getElem? (i := 3) rfl)) (hts (.native arraycopyName) (List.mem_of_getElem? (i := 4) rfl)) (hts (.static arraycopyName) (List.mem_of_getElem? (i := 5) rfl)) (hts (.initialized "java/lang/System") (List.mem_of_getElem? (i := 6) rfl)) hK hP hD hS 8 3 rfl rfl (by decide) (by decide) rfl (Nat.le_of_ble_eq_true rfl) (Nat.le_of_ble_eq_true rfl) dX3_copyFrom_47 (fun H locs hP hD hS => ?_)
  refine lv_aload_n hx hb dX3_copyFrom_50 rfl (lv_at hl 1 rfl) ?_
  refine g_get (ci := 3) (v := .ref (h 4)) (C := RX3) (T := TX3) (N := 5) hx hb hts hinX3 hown hK hP 5 rfl rfl 4 (by decide) (hts (.fieldLink RX3 25 "ChargeStages$Profile" "timer" "[I") (List.mem_of_getElem? (i := 9) rfl)) rfl dX3_copyFrom_51 ?_
  refine lv_iconst (v := 0) hx hb dX3_copyFrom_54 (by decide) ?_
  refine lv_aload_n hx hb dX3_copyFrom_55 rfl (lv_at hl 0 rfl) ?_
  refine g_get (ci := 3) (v := .ref (a 4)) (C := RX3) (T := TX3) (N := 5) hx hb hts hinX3 hown hK hP 0 rfl rfl 4 (by decide) (hts (.fieldLink RX3 25 "ChargeStages$Profile" "timer" "[I") (List.mem_of_getElem? (i := 9) rfl)) rfl dX3_copyFrom_56 ?_
  refine lv_iconst (v := 0) hx hb dX3_copyFrom_59 (by decide) ?_
  refine lv_iconst (v := 5) hx hb dX3_copyFrom_60 (by decide) ?_
  refine g_copy (N := 5) (B2 := [PW G a (sF (sF (sF (sF (sF pf 0 (upd (pf 0) 0 ((q 0) 0))) 1 (q 1)) 2 (q 2)) 3 (q 3)) 4 (q 4)), PW G h q]) hx hb (hml.trans hl.1.symm) hown (hts (.methodLink RX3 28 arraycopyName) (List.mem_of_getElem? (i := 3) rfl)) (hts (.native arraycopyName) (List.mem_of_getElem? (i := 4) rfl)) (hts (.static arraycopyName) (List.mem_of_getElem? (i := 5) rfl)) (hts (.initialized "java/lang/System") (List.mem_of_getElem? (i := 6) rfl)) hK hP hD hS 9 4 rfl rfl (by decide) (by decide) rfl (Nat.le_of_ble_eq_true rfl) (Nat.le_of_ble_eq_true rfl) dX3_copyFrom_61 (fun H locs hP hD hS => ?_)
  exact g_retv hx hb hr hlocks hS dX3_copyFrom_64 rfl hP
def f_X3_hasNumbersInRange (pf : (Nat → Nat → Int32)) (p1 : Int32) : Int32 := (if ((pf 1) ((p1).toNatClampNeg)) = 0 then (gL (f_X6_isIn ((pf 2) ((p1).toNatClampNeg)) 1 2000) (fun (R4 : Int32) => (if R4 = 0 then 0 else (gL (f_X6_isIn ((pf 3) ((p1).toNatClampNeg)) 3000 4500) (fun (R8 : Int32) => (if R8 = 0 then 0 else 1)))))) else (if ((pf 1) ((p1).toNatClampNeg)) = 1 then (gL (f_X6_isIn ((pf 2) ((p1).toNatClampNeg)) 3000 4500) (fun (R13 : Int32) => (if R13 = 0 then 0 else (gL (f_X6_isIn ((pf 3) ((p1).toNatClampNeg)) 0 2000) (fun (R17 : Int32) => (if R17 = 0 then 0 else 1)))))) else (gL (f_X6_isIn ((pf 2) ((p1).toNatClampNeg)) 1 999) (fun (R21 : Int32) => R21))))
def ok_X3_hasNumbersInRange (pf : (Nat → Nat → Int32)) (p1 : Int32) : Prop := (vp_in p1 5) ∧ ((((pf 1) ((p1).toNatClampNeg)) = 0 → (vp_in p1 5) ∧ (gL (f_X6_isIn ((pf 2) ((p1).toNatClampNeg)) 1 2000) (fun (R4 : Int32) => ((R4 = 0 → True) ∧ (¬ R4 = 0 → (vp_in p1 5) ∧ True))))) ∧ (¬ ((pf 1) ((p1).toNatClampNeg)) = 0 → ((((pf 1) ((p1).toNatClampNeg)) = 1 → (vp_in p1 5) ∧ (gL (f_X6_isIn ((pf 2) ((p1).toNatClampNeg)) 3000 4500) (fun (R13 : Int32) => ((R13 = 0 → True) ∧ (¬ R13 = 0 → (vp_in p1 5) ∧ True))))) ∧ (¬ ((pf 1) ((p1).toNatClampNeg)) = 1 → (vp_in p1 5) ∧ (gL (f_X6_isIn ((pf 2) ((p1).toNatClampNeg)) 1 999) (fun (R21 : Int32) => (gz R21) ∧ True))))))
set_option maxHeartbeats 4000000 in
set_option maxRecDepth 100000 in
theorem c_X3_hasNumbersInRange (l : Launch) (G : gG) (a : Nat → Nat) (pf : (Nat → Nat → Int32)) (p1 : Int32) (R : Int32) (hR : R = f_X3_hasNumbersInRange pf p1) (hok : ok_X3_hasNumbersInRange pf p1) : CT l G yX3_hasNumbersInRange wsX3_hasNumbersInRange 1 22 [.ref (a 0), .int p1] [PW G a pf] (some (.int R)) [PW G a pf] := by
  unfold f_X3_hasNumbersInRange at hR
  unfold ok_X3_hasNumbersInRange at hok
  refine CT.of (cc := cX3_hasNumbersInRange) (maxL := 2) (ret := (some .boolean)) (plainFor_of_name (by decide +kernel)) rfl rfl (Nat.le_of_ble_eq_true rfl) ?_
  intro p e s m below meth c A ls hx hb hml hr hts hown hlocks hK hP hD hA hS hl
  have hown : s.vm.findClass RX3 = some m.cls := hown
  have hl : lv_has ls 2 [(0, .ref (a 0)), (1, .int p1)] := hl
  have hinX3 : ∀ w ∈ wsX30, w ∈ wsX3_hasNumbersInRange := fun w h => List.mem_cons_of_mem _ (List.mem_append_right _ h)
  refine lv_aload_n hx hb dX3_hasNumbersInRange_0 rfl (lv_at hl 0 rfl) ?_
  refine g_get (ci := 3) (v := .ref (a 1)) (C := RX3) (T := TX3) (N := 5) hx hb hts hinX3 hown hK hP 0 rfl rfl 1 (by decide) (hts (.fieldLink RX3 15 "ChargeStages$Profile" "kind" "[I") (List.mem_of_getElem? (i := 1) rfl)) rfl dX3_hasNumbersInRange_1 ?_
  refine lv_iload_n hx hb dX3_hasNumbersInRange_4 rfl (lv_at hl 1 rfl) ?_
  obtain ⟨k1, hok⟩ := hok
  refine g_ld (n := 5) (f := (pf 1)) (v := (pf 1) ((p1).toNatClampNeg)) (k := ((p1).toNatClampNeg)) hx hb hK hP 1 rfl rfl k1 rfl dX3_hasNumbersInRange_5 ?_
  by_cases c2 : ((pf 1) ((p1).toNatClampNeg)) = 0
  · rw [if_pos c2] at hR
    have hok := hok.1 c2
    refine lv_lookup (tgt := 32) (off := 26) hx hb dX3_hasNumbersInRange_6 (by decide) (by rw [c2]; rfl) (by decide) ?_
    refine lv_aload_n hx hb dX3_hasNumbersInRange_32 rfl (lv_at hl 0 rfl) ?_
    refine g_get (ci := 3) (v := .ref (a 2)) (C := RX3) (T := TX3) (N := 5) hx hb hts hinX3 hown hK hP 0 rfl rfl 2 (by decide) (hts (.fieldLink RX3 19 "ChargeStages$Profile" "first" "[I") (List.mem_of_getElem? (i := 2) rfl)) rfl dX3_hasNumbersInRange_33 ?_
    refine lv_iload_n hx hb dX3_hasNumbersInRange_36 rfl (lv_at hl 1 rfl) ?_
    obtain ⟨k3, hok⟩ := hok
    refine g_ld (n := 5) (f := (pf 2)) (v := (pf 2) ((p1).toNatClampNeg)) (k := ((p1).toNatClampNeg)) hx hb hK hP 2 rfl rfl k3 rfl dX3_hasNumbersInRange_37 ?_
    refine lv_iconst (v := 1) hx hb dX3_hasNumbersInRange_38 (by decide) ?_
    refine lv_sipush (v := 2000) hx hb dX3_hasNumbersInRange_39 (by decide) ?_
    obtain ⟨R4, eR4, hR, hok⟩ := g_let2 hR hok
    refine g_callN (host := RX6) (c_X6_isIn l G ((pf 2) ((p1).toNatClampNeg)) 1 2000 R4 eR4) hx hb hml hown hts hK hP hD hS hA gX3_hasNumbersInRange_X6_isIn_n38 rfl (n := 3) (by decide +kernel) (List.mem_of_getElem? (i := 5) rfl) (List.mem_of_getElem? (i := 4) rfl) (by decide +kernel) rfl ⟨Nat.le_of_ble_eq_true rfl, Nat.le_of_ble_eq_true rfl⟩ [] rfl (by decide) hl.1 rfl (Nat.le_of_ble_eq_true rfl) ⟨Nat.zero_le _, Nat.zero_le _⟩ dX3_hasNumbersInRange_42 (fun H locs hP hD hS => ?_)
    have hP : va_P G.1 vwCl (List.flatten [PW G a pf]) H := hP
    have hD : va_D A (List.flatten [PW G a pf]) := hD
    refine lv_if_eq (tgt := 70) hx hb dX3_hasNumbersInRange_45 (by decide) (fun c6 => ?_) (fun c6 => ?_)
    · rw [if_pos c6] at hR
      have hok := hok.1 c6
      refine lv_iconst (v := 0) hx hb dX3_hasNumbersInRange_70 (by decide) ?_
      subst hR
      exact g_retz hx hb hr hlocks hS rfl dX3_hasNumbersInRange_71 rfl hP
    · rw [if_neg c6] at hR
      have hok := hok.2 c6
      refine lv_aload_n hx hb dX3_hasNumbersInRange_48 rfl (lv_at hl 0 rfl) ?_
      refine g_get (ci := 3) (v := .ref (a 3)) (C := RX3) (T := TX3) (N := 5) hx hb hts hinX3 hown hK hP 0 rfl rfl 3 (by decide) (hts (.fieldLink RX3 22 "ChargeStages$Profile" "second" "[I") (List.mem_of_getElem? (i := 3) rfl)) rfl dX3_hasNumbersInRange_49 ?_
      refine lv_iload_n hx hb dX3_hasNumbersInRange_52 rfl (lv_at hl 1 rfl) ?_
      obtain ⟨k7, hok⟩ := hok
      refine g_ld (n := 5) (f := (pf 3)) (v := (pf 3) ((p1).toNatClampNeg)) (k := ((p1).toNatClampNeg)) hx hb hK hP 3 rfl rfl k7 rfl dX3_hasNumbersInRange_53 ?_
      refine lv_sipush (v := 3000) hx hb dX3_hasNumbersInRange_54 (by decide) ?_
      refine lv_sipush (v := 4500) hx hb dX3_hasNumbersInRange_57 (by decide) ?_
      obtain ⟨R8, eR8, hR⟩ := g_let hR
      refine g_callN (host := RX6) (c_X6_isIn l G ((pf 3) ((p1).toNatClampNeg)) 3000 4500 R8 eR8) hx hb hml hown hts hK hP hD hS hA gX3_hasNumbersInRange_X6_isIn_n38 rfl (n := 3) (by decide +kernel) (List.mem_of_getElem? (i := 5) rfl) (List.mem_of_getElem? (i := 4) rfl) (by decide +kernel) rfl ⟨Nat.le_of_ble_eq_true rfl, Nat.le_of_ble_eq_true rfl⟩ [] rfl (by decide) hl.1 rfl (Nat.le_of_ble_eq_true rfl) ⟨Nat.zero_le _, Nat.zero_le _⟩ dX3_hasNumbersInRange_60 (fun H locs hP hD hS => ?_)
      have hP : va_P G.1 vwCl (List.flatten [PW G a pf]) H := hP
      have hD : va_D A (List.flatten [PW G a pf]) := hD
      refine lv_if_eq (tgt := 70) hx hb dX3_hasNumbersInRange_63 (by decide) (fun c10 => ?_) (fun c10 => ?_)
      · rw [if_pos c10] at hR
        refine lv_iconst (v := 0) hx hb dX3_hasNumbersInRange_70 (by decide) ?_
        subst hR
        exact g_retz hx hb hr hlocks hS rfl dX3_hasNumbersInRange_71 rfl hP
      · rw [if_neg c10] at hR
        refine lv_iconst (v := 1) hx hb dX3_hasNumbersInRange_66 (by decide) ?_
        refine lv_goto (tgt := 71) hx hb dX3_hasNumbersInRange_67 (by decide) ?_
        subst hR
        exact g_retz hx hb hr hlocks hS rfl dX3_hasNumbersInRange_71 rfl hP
  · rw [if_neg c2] at hR
    have hok := hok.2 c2
    by_cases c11 : ((pf 1) ((p1).toNatClampNeg)) = 1
    · rw [if_pos c11] at hR
      have hok := hok.1 c11
      refine lv_lookup (tgt := 72) (off := 66) hx hb dX3_hasNumbersInRange_6 (by decide) (by rw [c11]; rfl) (by decide) ?_
      refine lv_aload_n hx hb dX3_hasNumbersInRange_72 rfl (lv_at hl 0 rfl) ?_
      refine g_get (ci := 3) (v := .ref (a 2)) (C := RX3) (T := TX3) (N := 5) hx hb hts hinX3 hown hK hP 0 rfl rfl 2 (by decide) (hts (.fieldLink RX3 19 "ChargeStages$Profile" "first" "[I") (List.mem_of_getElem? (i := 2) rfl)) rfl dX3_hasNumbersInRange_73 ?_
      refine lv_iload_n hx hb dX3_hasNumbersInRange_76 rfl (lv_at hl 1 rfl) ?_
      obtain ⟨k12, hok⟩ := hok
      refine g_ld (n := 5) (f := (pf 2)) (v := (pf 2) ((p1).toNatClampNeg)) (k := ((p1).toNatClampNeg)) hx hb hK hP 2 rfl rfl k12 rfl dX3_hasNumbersInRange_77 ?_
      refine lv_sipush (v := 3000) hx hb dX3_hasNumbersInRange_78 (by decide) ?_
      refine lv_sipush (v := 4500) hx hb dX3_hasNumbersInRange_81 (by decide) ?_
      obtain ⟨R13, eR13, hR, hok⟩ := g_let2 hR hok
      refine g_callN (host := RX6) (c_X6_isIn l G ((pf 2) ((p1).toNatClampNeg)) 3000 4500 R13 eR13) hx hb hml hown hts hK hP hD hS hA gX3_hasNumbersInRange_X6_isIn_n38 rfl (n := 3) (by decide +kernel) (List.mem_of_getElem? (i := 5) rfl) (List.mem_of_getElem? (i := 4) rfl) (by decide +kernel) rfl ⟨Nat.le_of_ble_eq_true rfl, Nat.le_of_ble_eq_true rfl⟩ [] rfl (by decide) hl.1 rfl (Nat.le_of_ble_eq_true rfl) ⟨Nat.zero_le _, Nat.zero_le _⟩ dX3_hasNumbersInRange_84 (fun H locs hP hD hS => ?_)
      have hP : va_P G.1 vwCl (List.flatten [PW G a pf]) H := hP
      have hD : va_D A (List.flatten [PW G a pf]) := hD
      refine lv_if_eq (tgt := 110) hx hb dX3_hasNumbersInRange_87 (by decide) (fun c15 => ?_) (fun c15 => ?_)
      · rw [if_pos c15] at hR
        have hok := hok.1 c15
        refine lv_iconst (v := 0) hx hb dX3_hasNumbersInRange_110 (by decide) ?_
        subst hR
        exact g_retz hx hb hr hlocks hS rfl dX3_hasNumbersInRange_111 rfl hP
      · rw [if_neg c15] at hR
        have hok := hok.2 c15
        refine lv_aload_n hx hb dX3_hasNumbersInRange_90 rfl (lv_at hl 0 rfl) ?_
        refine g_get (ci := 3) (v := .ref (a 3)) (C := RX3) (T := TX3) (N := 5) hx hb hts hinX3 hown hK hP 0 rfl rfl 3 (by decide) (hts (.fieldLink RX3 22 "ChargeStages$Profile" "second" "[I") (List.mem_of_getElem? (i := 3) rfl)) rfl dX3_hasNumbersInRange_91 ?_
        refine lv_iload_n hx hb dX3_hasNumbersInRange_94 rfl (lv_at hl 1 rfl) ?_
        obtain ⟨k16, hok⟩ := hok
        refine g_ld (n := 5) (f := (pf 3)) (v := (pf 3) ((p1).toNatClampNeg)) (k := ((p1).toNatClampNeg)) hx hb hK hP 3 rfl rfl k16 rfl dX3_hasNumbersInRange_95 ?_
        refine lv_iconst (v := 0) hx hb dX3_hasNumbersInRange_96 (by decide) ?_
        refine lv_sipush (v := 2000) hx hb dX3_hasNumbersInRange_97 (by decide) ?_
        obtain ⟨R17, eR17, hR⟩ := g_let hR
        refine g_callN (host := RX6) (c_X6_isIn l G ((pf 3) ((p1).toNatClampNeg)) 0 2000 R17 eR17) hx hb hml hown hts hK hP hD hS hA gX3_hasNumbersInRange_X6_isIn_n38 rfl (n := 3) (by decide +kernel) (List.mem_of_getElem? (i := 5) rfl) (List.mem_of_getElem? (i := 4) rfl) (by decide +kernel) rfl ⟨Nat.le_of_ble_eq_true rfl, Nat.le_of_ble_eq_true rfl⟩ [] rfl (by decide) hl.1 rfl (Nat.le_of_ble_eq_true rfl) ⟨Nat.zero_le _, Nat.zero_le _⟩ dX3_hasNumbersInRange_100 (fun H locs hP hD hS => ?_)
        have hP : va_P G.1 vwCl (List.flatten [PW G a pf]) H := hP
        have hD : va_D A (List.flatten [PW G a pf]) := hD
        refine lv_if_eq (tgt := 110) hx hb dX3_hasNumbersInRange_103 (by decide) (fun c19 => ?_) (fun c19 => ?_)
        · rw [if_pos c19] at hR
          refine lv_iconst (v := 0) hx hb dX3_hasNumbersInRange_110 (by decide) ?_
          subst hR
          exact g_retz hx hb hr hlocks hS rfl dX3_hasNumbersInRange_111 rfl hP
        · rw [if_neg c19] at hR
          refine lv_iconst (v := 1) hx hb dX3_hasNumbersInRange_106 (by decide) ?_
          refine lv_goto (tgt := 111) hx hb dX3_hasNumbersInRange_107 (by decide) ?_
          subst hR
          exact g_retz hx hb hr hlocks hS rfl dX3_hasNumbersInRange_111 rfl hP
    · rw [if_neg c11] at hR
      have hok := hok.2 c11
      refine lv_lookup (tgt := 112) (off := 106) hx hb dX3_hasNumbersInRange_6 (by decide) (g_lk2 c2 c11) (by decide) ?_
      refine lv_aload_n hx hb dX3_hasNumbersInRange_112 rfl (lv_at hl 0 rfl) ?_
      refine g_get (ci := 3) (v := .ref (a 2)) (C := RX3) (T := TX3) (N := 5) hx hb hts hinX3 hown hK hP 0 rfl rfl 2 (by decide) (hts (.fieldLink RX3 19 "ChargeStages$Profile" "first" "[I") (List.mem_of_getElem? (i := 2) rfl)) rfl dX3_hasNumbersInRange_113 ?_
      refine lv_iload_n hx hb dX3_hasNumbersInRange_116 rfl (lv_at hl 1 rfl) ?_
      obtain ⟨k20, hok⟩ := hok
      refine g_ld (n := 5) (f := (pf 2)) (v := (pf 2) ((p1).toNatClampNeg)) (k := ((p1).toNatClampNeg)) hx hb hK hP 2 rfl rfl k20 rfl dX3_hasNumbersInRange_117 ?_
      refine lv_iconst (v := 1) hx hb dX3_hasNumbersInRange_118 (by decide) ?_
      refine lv_sipush (v := 999) hx hb dX3_hasNumbersInRange_119 (by decide) ?_
      obtain ⟨R21, eR21, hR, hok⟩ := g_let2 hR hok
      refine g_callN (host := RX6) (c_X6_isIn l G ((pf 2) ((p1).toNatClampNeg)) 1 999 R21 eR21) hx hb hml hown hts hK hP hD hS hA gX3_hasNumbersInRange_X6_isIn_n38 rfl (n := 3) (by decide +kernel) (List.mem_of_getElem? (i := 5) rfl) (List.mem_of_getElem? (i := 4) rfl) (by decide +kernel) rfl ⟨Nat.le_of_ble_eq_true rfl, Nat.le_of_ble_eq_true rfl⟩ [] rfl (by decide) hl.1 rfl (Nat.le_of_ble_eq_true rfl) ⟨Nat.zero_le _, Nat.zero_le _⟩ dX3_hasNumbersInRange_122 (fun H locs hP hD hS => ?_)
      have hP : va_P G.1 vwCl (List.flatten [PW G a pf]) H := hP
      have hD : va_D A (List.flatten [PW G a pf]) := hD
      obtain ⟨k23, hok⟩ := hok
      subst hR
      exact g_retz hx hb hr hlocks hS k23.narrow dX3_hasNumbersInRange_125 rfl hP
def fl_X3_isInRange_2 (pf : (Nat → Nat → Int32)) : Nat → Int32 → Int32
  | 0, _ => (0 : Int32)
  | n + 1, x2_1 => (if ((pf 0) 0) ≤ x2_1 then 1 else (gL (f_X3_hasNumbersInRange pf x2_1) (fun (R9 : Int32) => (if R9 = 0 then 0 else (gL (f_X6_isIn ((pf 4) ((x2_1).toNatClampNeg)) 0 999) (fun (R13 : Int32) => (if R13 = 0 then 0 else (gL ((x2_1 + 1)) (fun (v16 : Int32) => (fl_X3_isInRange_2 pf n v16))))))))))
def okl_X3_isInRange_2 (pf : (Nat → Nat → Int32)) : Nat → Int32 → Prop
  | 0, _ => False
  | n + 1, x2_1 => ((((pf 0) 0) ≤ x2_1 → True) ∧ (¬ ((pf 0) 0) ≤ x2_1 → (ok_X3_hasNumbersInRange pf x2_1) ∧ (gL (f_X3_hasNumbersInRange pf x2_1) (fun (R9 : Int32) => ((R9 = 0 → True) ∧ (¬ R9 = 0 → (vp_in x2_1 5) ∧ (gL (f_X6_isIn ((pf 4) ((x2_1).toNatClampNeg)) 0 999) (fun (R13 : Int32) => ((R13 = 0 → True) ∧ (¬ R13 = 0 → (gL ((x2_1 + 1)) (fun (v16 : Int32) => (okl_X3_isInRange_2 pf n v16)))))))))))))
def f_X3_isInRange (pf : (Nat → Nat → Int32)) : Int32 := (fl_X3_isInRange_2 pf 6 0)
def ok_X3_isInRange (pf : (Nat → Nat → Int32)) : Prop := (okl_X3_isInRange_2 pf 6 0)
set_option maxHeartbeats 4000000 in
set_option maxRecDepth 100000 in
theorem c_X3_isInRange (l : Launch) (G : gG) (a : Nat → Nat) (pf : (Nat → Nat → Int32)) (R : Int32) (hR : R = f_X3_isInRange pf) (hok : ok_X3_isInRange pf) : CT l G yX3_isInRange wsX3_isInRange 2 43 [.ref (a 0)] [PW G a pf] (some (.int R)) [PW G a pf] := by
  unfold f_X3_isInRange at hR
  unfold ok_X3_isInRange at hok
  refine CT.of (cc := cX3_isInRange) (maxL := 2) (ret := (some .boolean)) (plainFor_of_name (by decide +kernel)) rfl rfl (Nat.le_of_ble_eq_true rfl) ?_
  intro p e s m below meth c A ls hx hb hml hr hts hown hlocks hK hP hD hA hS hl
  have hown : s.vm.findClass RX3 = some m.cls := hown
  have hl : lv_has ls 2 [(0, .ref (a 0))] := hl
  have hinX3 : ∀ w ∈ wsX30, w ∈ wsX3_isInRange := fun w h => List.mem_cons_of_mem _ (List.mem_append_right _ h)
  refine lv_iconst (v := 0) hx hb dX3_isInRange_0 (by decide) ?_
  refine lv_istore_n (lv' := [(1, .int 0), (0, .ref (a 0))]) hx hb dX3_isInRange_1 rfl hl (by decide) rfl (fun ls hl => ?_)
  have lp2 : ∀ (n : Nat) (x2_1 : Int32) (H : Heap) (locs : List Loc) (ls : Array Slot), R = fl_X3_isInRange_2 pf n x2_1 → okl_X3_isInRange_2 pf n x2_1 → va_P G.1 vwCl (List.flatten [PW G a pf]) H → va_D A (List.flatten [PW G a pf]) → va_S A s.heap H locs → lv_has ls 2 [(0, .ref (a 0)), (1, .int x2_1)] → W p l e { frames := 2, cells := 0, slots := 0, locals := 43 } s m (List.toArray [.ref (a 0)]) below meth c H locs 0 0 (gQ G below (List.toArray [.ref (a 0)]) s (some (.int R)) [PW G a pf] A) (F0 m 2 ls []) := by
    intro n
    induction n with
    | zero =>
      intro x2_1 H locs ls hR hok hP hD hS hl
      rw [okl_X3_isInRange_2] at hok
      exact hok.elim
    | succ n ih =>
      intro x2_1 H locs ls hR hok hP hD hS hl
      rw [fl_X3_isInRange_2] at hR
      rw [okl_X3_isInRange_2] at hok
      refine lv_iload_n hx hb dX3_isInRange_2 rfl (lv_at hl 1 rfl) ?_
      refine lv_aload_n hx hb dX3_isInRange_3 rfl (lv_at hl 0 rfl) ?_
      refine g_get (ci := 3) (v := .int ((pf 0) 0)) (C := RX3) (T := TX3) (N := 5) hx hb hts hinX3 hown hK hP 0 rfl rfl 0 (by decide) (hts (.fieldLink RX3 9 "ChargeStages$Profile" "stages" "I") (List.mem_of_getElem? (i := 1) rfl)) rfl dX3_isInRange_4 ?_
      refine lv_icmp_ge (tgt := 42) hx hb dX3_isInRange_7 (by decide) (fun c8 => ?_) (fun c8 => ?_)
      · rw [if_pos c8] at hR
        have hok := hok.1 c8
        refine lv_iconst (v := 1) hx hb dX3_isInRange_42 (by decide) ?_
        subst hR
        exact g_retz hx hb hr hlocks hS rfl dX3_isInRange_43 rfl hP
      · rw [if_neg c8] at hR
        have hok := hok.2 c8
        refine lv_aload_n hx hb dX3_isInRange_10 rfl (lv_at hl 0 rfl) ?_
        refine lv_iload_n hx hb dX3_isInRange_11 rfl (lv_at hl 1 rfl) ?_
        obtain ⟨k10, hok⟩ := hok
        obtain ⟨R9, eR9, hR, hok⟩ := g_let2 hR hok
        refine g_callV (c_X3_hasNumbersInRange l G a pf x2_1 R9 eR9 k10) hx hb hml hown hts hK hP hD hS hA gX3_isInRange_X3_hasNumbersInRange rfl (n := 1) (by decide +kernel) rfl ⟨Nat.le_of_ble_eq_true rfl, Nat.le_of_ble_eq_true rfl⟩ [0] rfl (by decide) 0 rfl (ci := 3) rfl hl.1 rfl (Nat.le_of_ble_eq_true rfl) ⟨Nat.zero_le _, Nat.zero_le _⟩ dX3_isInRange_12 (fun H locs hP hD hS => ?_)
        have hP : va_P G.1 vwCl (List.flatten [PW G a pf]) H := hP
        have hD : va_D A (List.flatten [PW G a pf]) := hD
        refine lv_if_eq (tgt := 34) hx hb dX3_isInRange_15 (by decide) (fun c11 => ?_) (fun c11 => ?_)
        · rw [if_pos c11] at hR
          have hok := hok.1 c11
          refine lv_iconst (v := 0) hx hb dX3_isInRange_34 (by decide) ?_
          subst hR
          exact g_retz hx hb hr hlocks hS rfl dX3_isInRange_35 rfl hP
        · rw [if_neg c11] at hR
          have hok := hok.2 c11
          refine lv_aload_n hx hb dX3_isInRange_18 rfl (lv_at hl 0 rfl) ?_
          refine g_get (ci := 3) (v := .ref (a 4)) (C := RX3) (T := TX3) (N := 5) hx hb hts hinX3 hown hK hP 0 rfl rfl 4 (by decide) (hts (.fieldLink RX3 25 "ChargeStages$Profile" "timer" "[I") (List.mem_of_getElem? (i := 2) rfl)) rfl dX3_isInRange_19 ?_
          refine lv_iload_n hx hb dX3_isInRange_22 rfl (lv_at hl 1 rfl) ?_
          obtain ⟨k12, hok⟩ := hok
          refine g_ld (n := 5) (f := (pf 4)) (v := (pf 4) ((x2_1).toNatClampNeg)) (k := ((x2_1).toNatClampNeg)) hx hb hK hP 4 rfl rfl k12 rfl dX3_isInRange_23 ?_
          refine lv_iconst (v := 0) hx hb dX3_isInRange_24 (by decide) ?_
          refine lv_sipush (v := 999) hx hb dX3_isInRange_25 (by decide) ?_
          obtain ⟨R13, eR13, hR, hok⟩ := g_let2 hR hok
          refine g_callN (host := RX6) (c_X6_isIn l G ((pf 4) ((x2_1).toNatClampNeg)) 0 999 R13 eR13) hx hb hml hown hts hK hP hD hS hA gX3_isInRange_X6_isIn_n38 rfl (n := 3) (by decide +kernel) (List.mem_of_getElem? (i := 12) rfl) (List.mem_of_getElem? (i := 11) rfl) (by decide +kernel) rfl ⟨Nat.le_of_ble_eq_true rfl, Nat.le_of_ble_eq_true rfl⟩ [] rfl (by decide) hl.1 rfl (Nat.le_of_ble_eq_true rfl) ⟨Nat.zero_le _, Nat.zero_le _⟩ dX3_isInRange_28 (fun H locs hP hD hS => ?_)
          have hP : va_P G.1 vwCl (List.flatten [PW G a pf]) H := hP
          have hD : va_D A (List.flatten [PW G a pf]) := hD
          refine lv_if_ne (tgt := 36) hx hb dX3_isInRange_31 (by decide) (fun c15 => ?_) (fun c15 => ?_)
          · rw [if_neg c15] at hR
            have hok := hok.2 c15
            obtain ⟨v16, ev16, hR, hok⟩ := g_let2 hR hok
            refine lv_iinc (v := v16) (lv' := [(1, .int v16), (0, .ref (a 0))]) hx hb dX3_isInRange_36 hl (k := 1) rfl (by subst ev16; rfl) (by decide) rfl (fun ls hl => ?_)
            refine lv_goto (tgt := 2) hx hb dX3_isInRange_39 (by decide) ?_
            exact ih v16 _ _ _ hR hok hP hD hS (lv_sub hl [1, 0] rfl)
          · rw [if_pos c15] at hR
            have hok := hok.1 c15
            refine lv_iconst (v := 0) hx hb dX3_isInRange_34 (by decide) ?_
            subst hR
            exact g_retz hx hb hr hlocks hS rfl dX3_isInRange_35 rfl hP
  exact lp2 6 0 _ _ _ hR hok hP hD hS (lv_sub hl [1, 0] rfl)
def f_X3_limitOf (pf : (Nat → Nat → Int32)) (p1 : Int32) : Int32 := (if ((pf 1) ((p1).toNatClampNeg)) = 1 then (pf 2) ((p1).toNatClampNeg) else (pf 3) ((p1).toNatClampNeg))
def ok_X3_limitOf (pf : (Nat → Nat → Int32)) (p1 : Int32) : Prop := (vp_in p1 5) ∧ ((((pf 1) ((p1).toNatClampNeg)) = 1 → (vp_in p1 5) ∧ True) ∧ (¬ ((pf 1) ((p1).toNatClampNeg)) = 1 → (vp_in p1 5) ∧ True))
set_option maxHeartbeats 4000000 in
set_option maxRecDepth 100000 in
theorem c_X3_limitOf (l : Launch) (G : gG) (a : Nat → Nat) (pf : (Nat → Nat → Int32)) (p1 : Int32) (R : Int32) (hR : R = f_X3_limitOf pf p1) (hok : ok_X3_limitOf pf p1) : CT l G yX3_limitOf wsX3_limitOf 0 0 [.ref (a 0), .int p1] [PW G a pf] (some (.int R)) [PW G a pf] := by
  unfold f_X3_limitOf at hR
  unfold ok_X3_limitOf at hok
  refine CT.of (cc := cX3_limitOf) (maxL := 2) (ret := (some .int)) (plainFor_of_name (by decide +kernel)) rfl rfl (Nat.le_of_ble_eq_true rfl) ?_
  intro p e s m below meth c A ls hx hb hml hr hts hown hlocks hK hP hD hA hS hl
  have hown : s.vm.findClass RX3 = some m.cls := hown
  have hl : lv_has ls 2 [(0, .ref (a 0)), (1, .int p1)] := hl
  have hinX3 : ∀ w ∈ wsX30, w ∈ wsX3_limitOf := fun w h => List.mem_cons_of_mem _ (List.mem_append_right _ h)
  refine lv_aload_n hx hb dX3_limitOf_0 rfl (lv_at hl 0 rfl) ?_
  refine g_get (ci := 3) (v := .ref (a 1)) (C := RX3) (T := TX3) (N := 5) hx hb hts hinX3 hown hK hP 0 rfl rfl 1 (by decide) (hts (.fieldLink RX3 15 "ChargeStages$Profile" "kind" "[I") (List.mem_of_getElem? (i := 1) rfl)) rfl dX3_limitOf_1 ?_
  refine lv_iload_n hx hb dX3_limitOf_4 rfl (lv_at hl 1 rfl) ?_
  obtain ⟨k1, hok⟩ := hok
  refine g_ld (n := 5) (f := (pf 1)) (v := (pf 1) ((p1).toNatClampNeg)) (k := ((p1).toNatClampNeg)) hx hb hK hP 1 rfl rfl k1 rfl dX3_limitOf_5 ?_
  refine lv_iconst (v := 1) hx hb dX3_limitOf_6 (by decide) ?_
  refine lv_icmp_ne (tgt := 19) hx hb dX3_limitOf_7 (by decide) (fun c2 => ?_) (fun c2 => ?_)
  · rw [if_neg c2] at hR
    have hok := hok.2 c2
    refine lv_aload_n hx hb dX3_limitOf_19 rfl (lv_at hl 0 rfl) ?_
    refine g_get (ci := 3) (v := .ref (a 3)) (C := RX3) (T := TX3) (N := 5) hx hb hts hinX3 hown hK hP 0 rfl rfl 3 (by decide) (hts (.fieldLink RX3 22 "ChargeStages$Profile" "second" "[I") (List.mem_of_getElem? (i := 3) rfl)) rfl dX3_limitOf_20 ?_
    refine lv_iload_n hx hb dX3_limitOf_23 rfl (lv_at hl 1 rfl) ?_
    obtain ⟨k3, hok⟩ := hok
    refine g_ld (n := 5) (f := (pf 3)) (v := (pf 3) ((p1).toNatClampNeg)) (k := ((p1).toNatClampNeg)) hx hb hK hP 3 rfl rfl k3 rfl dX3_limitOf_24 ?_
    subst hR
    exact g_ret hx hb hr hlocks hS dX3_limitOf_25 rfl hP
  · rw [if_pos c2] at hR
    have hok := hok.1 c2
    refine lv_aload_n hx hb dX3_limitOf_10 rfl (lv_at hl 0 rfl) ?_
    refine g_get (ci := 3) (v := .ref (a 2)) (C := RX3) (T := TX3) (N := 5) hx hb hts hinX3 hown hK hP 0 rfl rfl 2 (by decide) (hts (.fieldLink RX3 19 "ChargeStages$Profile" "first" "[I") (List.mem_of_getElem? (i := 2) rfl)) rfl dX3_limitOf_11 ?_
    refine lv_iload_n hx hb dX3_limitOf_14 rfl (lv_at hl 1 rfl) ?_
    obtain ⟨k4, hok⟩ := hok
    refine g_ld (n := 5) (f := (pf 2)) (v := (pf 2) ((p1).toNatClampNeg)) (k := ((p1).toNatClampNeg)) hx hb hK hP 2 rfl rfl k4 rfl dX3_limitOf_15 ?_
    refine lv_goto (tgt := 25) hx hb dX3_limitOf_16 (by decide) ?_
    subst hR
    exact g_ret hx hb hr hlocks hS dX3_limitOf_25 rfl hP
