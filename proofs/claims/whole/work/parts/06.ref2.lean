def fl_X7_copies112_2 (p1 : Int32) (f : (Nat → Int32)) : Nat → Int32 → (Nat → Int32) → (Nat → Int32)
  | 0, _, _ => (fun _ => 0)
  | n + 1, x2_3, w2_1 => (if 112 ≤ x2_3 then w2_1 else (gL (upd w2_1 ((p1 + x2_3).toNatClampNeg) (f ((x2_3).toNatClampNeg))) (fun (z5 : (Nat → Int32)) => (gL ((x2_3 + 1)) (fun (v7 : Int32) => (fl_X7_copies112_2 p1 f n v7 z5))))))
def okl_X7_copies112_2 (p1 : Int32) (f : (Nat → Int32)) : Nat → Int32 → (Nat → Int32) → Prop
  | 0, _, _ => False
  | n + 1, x2_3, w2_1 => ((112 ≤ x2_3 → True) ∧ (¬ 112 ≤ x2_3 → (vp_in x2_3 112) ∧ (vp_in (p1 + x2_3) 112) ∧ (gL (upd w2_1 ((p1 + x2_3).toNatClampNeg) (f ((x2_3).toNatClampNeg))) (fun (z5 : (Nat → Int32)) => (gL ((x2_3 + 1)) (fun (v7 : Int32) => (okl_X7_copies112_2 p1 f n v7 z5)))))))
def f_X7_copies112 (f : (Nat → Int32)) (f2 : (Nat → Int32)) (p1 : Int32) : (Nat → Int32) := (fl_X7_copies112_2 p1 f 113 0 f2)
def ok_X7_copies112 (f : (Nat → Int32)) (f2 : (Nat → Int32)) (p1 : Int32) : Prop := (okl_X7_copies112_2 p1 f 113 0 f2)
set_option maxHeartbeats 4000000 in
set_option maxRecDepth 100000 in
theorem c_X7_copies112 (l : Launch) (G : gG) (r : Nat) (r2 : Nat) (f : (Nat → Int32)) (f2 : (Nat → Int32)) (p1 : Int32) (R : (Nat → Int32)) (hR : R = f_X7_copies112 f f2 p1) (hok : ok_X7_copies112 f f2 p1) : CT l G yX7_copies wsX7_copies 0 0 [.ref r, .ref r2, .int p1] [AW G r 112 f, AW G r2 112 f2] none [AW G r 112 f, AW G r2 112 R] := by
  unfold f_X7_copies112 at hR
  unfold ok_X7_copies112 at hok
  refine CT.of (cc := cX7_copies) (maxL := 4) (ret := none) (plainFor_of_name (by decide +kernel)) rfl rfl (Nat.le_of_ble_eq_true rfl) ?_
  intro p e s m below meth c A ls hx hb hml hr hts hown hlocks hK hP hD hA hS hl
  have hown : s.vm.findClass RX7 = some m.cls := hown
  have hl : lv_has ls 4 [(0, .ref r), (1, .ref r2), (2, .int p1)] := hl
  refine lv_iconst (v := 0) hx hb dX7_copies_0 (by decide) ?_
  refine lv_istore_n (lv' := [(3, .int 0), (0, .ref r), (1, .ref r2), (2, .int p1)]) hx hb dX7_copies_1 rfl hl (by decide) rfl (fun ls hl => ?_)
  have lp2 : ∀ (n : Nat) (x2_3 : Int32) (w2_1 : (Nat → Int32)) (H : Heap) (locs : List Loc) (ls : Array Slot), R = fl_X7_copies112_2 p1 f n x2_3 w2_1 → okl_X7_copies112_2 p1 f n x2_3 w2_1 → va_P G.1 vwCl (List.flatten [AW G r 112 f, AW G r2 112 w2_1]) H → va_D A (List.flatten [AW G r 112 f, AW G r2 112 w2_1]) → va_S A s.heap H locs → lv_has ls 4 [(0, .ref r), (1, .ref r2), (2, .int p1), (3, .int x2_3)] → W p l e { frames := 0, cells := 0, slots := 0, locals := 0 } s m (List.toArray [.ref r, .ref r2, .int p1]) below meth c H locs 0 0 (gQ G below (List.toArray [.ref r, .ref r2, .int p1]) s none [AW G r 112 f, AW G r2 112 R] A) (F0 m 2 ls []) := by
    intro n
    induction n with
    | zero =>
      intro x2_3 w2_1 H locs ls hR hok hP hD hS hl
      rw [okl_X7_copies112_2] at hok
      exact hok.elim
    | succ n ih =>
      intro x2_3 w2_1 H locs ls hR hok hP hD hS hl
      rw [fl_X7_copies112_2] at hR
      rw [okl_X7_copies112_2] at hok
      refine lv_iload_n hx hb dX7_copies_2 rfl (lv_at hl 3 rfl) ?_
      refine lv_bipush (v := 112) hx hb dX7_copies_3 (by decide) ?_
      refine lv_icmp_ge (tgt := 22) hx hb dX7_copies_5 (by decide) (fun c3 => ?_) (fun c3 => ?_)
      · rw [if_pos c3] at hR
        have hok := hok.1 c3
        subst hR
        exact g_retv hx hb hr hlocks hS dX7_copies_22 rfl hP
      · rw [if_neg c3] at hR
        have hok := hok.2 c3
        refine lv_aload_n hx hb dX7_copies_8 rfl (lv_at hl 1 rfl) ?_
        refine lv_iload_n hx hb dX7_copies_9 rfl (lv_at hl 2 rfl) ?_
        refine lv_iload_n hx hb dX7_copies_10 rfl (lv_at hl 3 rfl) ?_
        refine lv_iadd hx hb dX7_copies_11 ?_
        refine lv_aload_n hx hb dX7_copies_12 rfl (lv_at hl 0 rfl) ?_
        refine lv_iload_n hx hb dX7_copies_13 rfl (lv_at hl 3 rfl) ?_
        obtain ⟨k4, hok⟩ := hok
        refine g_ld (n := 112) (f := f) (v := f ((x2_3).toNatClampNeg)) (k := ((x2_3).toNatClampNeg)) hx hb hK hP 0 rfl rfl k4 rfl dX7_copies_14 ?_
        obtain ⟨k6, hok⟩ := hok
        obtain ⟨z5, ez5, hR, hok⟩ := g_let2 hR hok
        refine g_st (n := 112) (f := w2_1) (k := ((p1 + x2_3).toNatClampNeg)) (B2 := [AW G r 112 f, AW G r2 112 z5]) hx hb hK hP hD hS 1 rfl rfl k6 (by subst ez5; rfl) dX7_copies_15 (fun H locs hP hD hS => ?_)
        obtain ⟨v7, ev7, hR, hok⟩ := g_let2 hR hok
        refine lv_iinc (v := v7) (lv' := [(3, .int v7), (0, .ref r), (1, .ref r2), (2, .int p1)]) hx hb dX7_copies_16 hl (k := 3) rfl (by subst ev7; rfl) (by decide) rfl (fun ls hl => ?_)
        refine lv_goto (tgt := 2) hx hb dX7_copies_19 (by decide) ?_
        exact ih v7 z5 _ _ _ hR hok hP hD hS (lv_sub hl [1, 2, 3, 0] rfl)
  exact lp2 113 0 f2 _ _ _ hR hok hP hD hS (lv_sub hl [1, 2, 3, 0] rfl)
def fl_X7_copies448_2 (p1 : Int32) (f : (Nat → Int32)) : Nat → Int32 → (Nat → Int32) → (Nat → Int32)
  | 0, _, _ => (fun _ => 0)
  | n + 1, x2_3, w2_1 => (if 112 ≤ x2_3 then w2_1 else (gL (upd w2_1 ((p1 + x2_3).toNatClampNeg) (f ((x2_3).toNatClampNeg))) (fun (z5 : (Nat → Int32)) => (gL ((x2_3 + 1)) (fun (v7 : Int32) => (fl_X7_copies448_2 p1 f n v7 z5))))))
def okl_X7_copies448_2 (p1 : Int32) (f : (Nat → Int32)) : Nat → Int32 → (Nat → Int32) → Prop
  | 0, _, _ => False
  | n + 1, x2_3, w2_1 => ((112 ≤ x2_3 → True) ∧ (¬ 112 ≤ x2_3 → (vp_in x2_3 112) ∧ (vp_in (p1 + x2_3) 448) ∧ (gL (upd w2_1 ((p1 + x2_3).toNatClampNeg) (f ((x2_3).toNatClampNeg))) (fun (z5 : (Nat → Int32)) => (gL ((x2_3 + 1)) (fun (v7 : Int32) => (okl_X7_copies448_2 p1 f n v7 z5)))))))
def f_X7_copies448 (f : (Nat → Int32)) (f2 : (Nat → Int32)) (p1 : Int32) : (Nat → Int32) := (fl_X7_copies448_2 p1 f 113 0 f2)
def ok_X7_copies448 (f : (Nat → Int32)) (f2 : (Nat → Int32)) (p1 : Int32) : Prop := (okl_X7_copies448_2 p1 f 113 0 f2)
set_option maxHeartbeats 4000000 in
set_option maxRecDepth 100000 in
theorem c_X7_copies448 (l : Launch) (G : gG) (r : Nat) (r2 : Nat) (f : (Nat → Int32)) (f2 : (Nat → Int32)) (p1 : Int32) (R : (Nat → Int32)) (hR : R = f_X7_copies448 f f2 p1) (hok : ok_X7_copies448 f f2 p1) : CT l G yX7_copies wsX7_copies 0 0 [.ref r, .ref r2, .int p1] [AW G r 112 f, AW G r2 448 f2] none [AW G r 112 f, AW G r2 448 R] := by
  unfold f_X7_copies448 at hR
  unfold ok_X7_copies448 at hok
  refine CT.of (cc := cX7_copies) (maxL := 4) (ret := none) (plainFor_of_name (by decide +kernel)) rfl rfl (Nat.le_of_ble_eq_true rfl) ?_
  intro p e s m below meth c A ls hx hb hml hr hts hown hlocks hK hP hD hA hS hl
  have hown : s.vm.findClass RX7 = some m.cls := hown
  have hl : lv_has ls 4 [(0, .ref r), (1, .ref r2), (2, .int p1)] := hl
  refine lv_iconst (v := 0) hx hb dX7_copies_0 (by decide) ?_
  refine lv_istore_n (lv' := [(3, .int 0), (0, .ref r), (1, .ref r2), (2, .int p1)]) hx hb dX7_copies_1 rfl hl (by decide) rfl (fun ls hl => ?_)
  have lp2 : ∀ (n : Nat) (x2_3 : Int32) (w2_1 : (Nat → Int32)) (H : Heap) (locs : List Loc) (ls : Array Slot), R = fl_X7_copies448_2 p1 f n x2_3 w2_1 → okl_X7_copies448_2 p1 f n x2_3 w2_1 → va_P G.1 vwCl (List.flatten [AW G r 112 f, AW G r2 448 w2_1]) H → va_D A (List.flatten [AW G r 112 f, AW G r2 448 w2_1]) → va_S A s.heap H locs → lv_has ls 4 [(0, .ref r), (1, .ref r2), (2, .int p1), (3, .int x2_3)] → W p l e { frames := 0, cells := 0, slots := 0, locals := 0 } s m (List.toArray [.ref r, .ref r2, .int p1]) below meth c H locs 0 0 (gQ G below (List.toArray [.ref r, .ref r2, .int p1]) s none [AW G r 112 f, AW G r2 448 R] A) (F0 m 2 ls []) := by
    intro n
    induction n with
    | zero =>
      intro x2_3 w2_1 H locs ls hR hok hP hD hS hl
      rw [okl_X7_copies448_2] at hok
      exact hok.elim
    | succ n ih =>
      intro x2_3 w2_1 H locs ls hR hok hP hD hS hl
      rw [fl_X7_copies448_2] at hR
      rw [okl_X7_copies448_2] at hok
      refine lv_iload_n hx hb dX7_copies_2 rfl (lv_at hl 3 rfl) ?_
      refine lv_bipush (v := 112) hx hb dX7_copies_3 (by decide) ?_
      refine lv_icmp_ge (tgt := 22) hx hb dX7_copies_5 (by decide) (fun c3 => ?_) (fun c3 => ?_)
      · rw [if_pos c3] at hR
        have hok := hok.1 c3
        subst hR
        exact g_retv hx hb hr hlocks hS dX7_copies_22 rfl hP
      · rw [if_neg c3] at hR
        have hok := hok.2 c3
        refine lv_aload_n hx hb dX7_copies_8 rfl (lv_at hl 1 rfl) ?_
        refine lv_iload_n hx hb dX7_copies_9 rfl (lv_at hl 2 rfl) ?_
        refine lv_iload_n hx hb dX7_copies_10 rfl (lv_at hl 3 rfl) ?_
        refine lv_iadd hx hb dX7_copies_11 ?_
        refine lv_aload_n hx hb dX7_copies_12 rfl (lv_at hl 0 rfl) ?_
        refine lv_iload_n hx hb dX7_copies_13 rfl (lv_at hl 3 rfl) ?_
        obtain ⟨k4, hok⟩ := hok
        refine g_ld (n := 112) (f := f) (v := f ((x2_3).toNatClampNeg)) (k := ((x2_3).toNatClampNeg)) hx hb hK hP 0 rfl rfl k4 rfl dX7_copies_14 ?_
        obtain ⟨k6, hok⟩ := hok
        obtain ⟨z5, ez5, hR, hok⟩ := g_let2 hR hok
        refine g_st (n := 448) (f := w2_1) (k := ((p1 + x2_3).toNatClampNeg)) (B2 := [AW G r 112 f, AW G r2 448 z5]) hx hb hK hP hD hS 1 rfl rfl k6 (by subst ez5; rfl) dX7_copies_15 (fun H locs hP hD hS => ?_)
        obtain ⟨v7, ev7, hR, hok⟩ := g_let2 hR hok
        refine lv_iinc (v := v7) (lv' := [(3, .int v7), (0, .ref r), (1, .ref r2), (2, .int p1)]) hx hb dX7_copies_16 hl (k := 3) rfl (by subst ev7; rfl) (by decide) rfl (fun ls hl => ?_)
        refine lv_goto (tgt := 2) hx hb dX7_copies_19 (by decide) ?_
        exact ih v7 z5 _ _ _ hR hok hP hD hS (lv_sub hl [1, 2, 3, 0] rfl)
  exact lp2 113 0 f2 _ _ _ hR hok hP hD hS (lv_sub hl [1, 2, 3, 0] rfl)
def f_X7_isCell (f : (Nat → Int32)) (p1 : Int32) : Int32 := (gL (f_X7_in p1 0 ((f 71) - 1)) (fun (R1 : Int32) => R1))
def ok_X7_isCell (f : (Nat → Int32)) (p1 : Int32) : Prop := (gL (f_X7_in p1 0 ((f 71) - 1)) (fun (R1 : Int32) => (gz R1) ∧ True))
set_option maxHeartbeats 4000000 in
set_option maxRecDepth 100000 in
theorem c_X7_isCell (l : Launch) (G : gG) (mm : Nat → Nat) (o : (Nat → Int32)) (f : (Nat → Int32)) (p1 : Int32) (R : Int32) (hR : R = f_X7_isCell f p1) (hok : ok_X7_isCell f p1) : CT l G yX7_isCell wsX7_isCell 1 22 [.ref (mm 0), .int p1] [MO G mm o, AW G (mm 1) 112 f] (some (.int R)) [MO G mm o, AW G (mm 1) 112 f] := by
  unfold f_X7_isCell at hR
  unfold ok_X7_isCell at hok
  refine CT.of (cc := cX7_isCell) (maxL := 2) (ret := (some .boolean)) (plainFor_of_name (by decide +kernel)) rfl rfl (Nat.le_of_ble_eq_true rfl) ?_
  intro p e s m below meth c A ls hx hb hml hr hts hown hlocks hK hP hD hA hS hl
  have hown : s.vm.findClass RX7 = some m.cls := hown
  have hl : lv_has ls 2 [(0, .ref (mm 0)), (1, .int p1)] := hl
  have hinX7 : ∀ w ∈ wsX70, w ∈ wsX7_isCell := fun w h => List.mem_cons_of_mem _ (List.mem_append_right _ h)
  refine lv_iload_n hx hb dX7_isCell_0 rfl (lv_at hl 1 rfl) ?_
  refine lv_iconst (v := 0) hx hb dX7_isCell_1 (by decide) ?_
  refine lv_aload_n hx hb dX7_isCell_2 rfl (lv_at hl 0 rfl) ?_
  refine g_get (ci := 7) (v := .ref (mm 1)) (C := RX7) (T := TX7) (N := 12) hx hb hts hinX7 hown hK hP 0 rfl rfl 0 (by decide) (hts (.fieldLink RX7 7 "ChargeStagesModel" "s" "[I") (List.mem_of_getElem? (i := 1) rfl)) rfl dX7_isCell_3 ?_
  refine lv_bipush (v := 71) hx hb dX7_isCell_6 (by decide) ?_
  refine g_ld (n := 112) (f := f) (v := f 71) (k := 71) hx hb hK hP 1 rfl (by decide) (by unfold vp_in; decide) rfl dX7_isCell_8 ?_
  refine lv_iconst (v := 1) hx hb dX7_isCell_9 (by decide) ?_
  refine lv_isub hx hb dX7_isCell_10 ?_
  obtain ⟨R1, eR1, hR, hok⟩ := g_let2 hR hok
  refine g_callS (c_X7_in l G p1 0 ((f 71) - 1) R1 eR1) hx hb hml hown hts hK hP hD hS hA gX7_isCell_X7_in rfl (n := 3) (by decide +kernel) rfl ⟨Nat.le_of_ble_eq_true rfl, Nat.le_of_ble_eq_true rfl⟩ [] rfl (by decide) hl.1 rfl (Nat.le_of_ble_eq_true rfl) ⟨Nat.zero_le _, Nat.zero_le _⟩ dX7_isCell_11 (fun H locs hP hD hS => ?_)
  have hP : va_P G.1 vwCl (List.flatten [MO G mm o, AW G (mm 1) 112 f]) H := hP
  have hD : va_D A (List.flatten [MO G mm o, AW G (mm 1) 112 f]) := hD
  obtain ⟨k3, hok⟩ := hok
  subst hR
  exact g_retz hx hb hr hlocks hS k3.narrow dX7_isCell_14 rfl hP
def f_X7_cannotBe (f : (Nat → Int32)) (p1 : Int32) (p2 : Int32) : Int32 := (if p1 = 0 then (gL (f_X7_charged f 1) (fun (R8 : Int32) => (if p2 < R8 then 1 else (if p1 = 5 then (if (f 48) < p2 then 1 else (if p1 = 6 then (if (f 47) ≤ p2 then 0 else 1) else 0)) else (if p1 = 6 then (if (f 47) ≤ p2 then 0 else 1) else 0))))) else (if p1 = 5 then (if (f 48) < p2 then 1 else (if p1 = 6 then (if (f 47) ≤ p2 then 0 else 1) else 0)) else (if p1 = 6 then (if (f 47) ≤ p2 then 0 else 1) else 0)))
def ok_X7_cannotBe (f : (Nat → Int32)) (p1 : Int32) : Prop := ((p1 = 0 → (ok_X7_charged f 1) ∧ True) ∧ (¬ p1 = 0 → True))
set_option maxHeartbeats 4000000 in
set_option maxRecDepth 100000 in
theorem c_X7_cannotBe (l : Launch) (G : gG) (mm : Nat → Nat) (o : (Nat → Int32)) (f : (Nat → Int32)) (p1 : Int32) (p2 : Int32) (R : Int32) (hR : R = f_X7_cannotBe f p1 p2) (hok : ok_X7_cannotBe f p1) : CT l G yX7_cannotBe wsX7_cannotBe 2 46 [.ref (mm 0), .int p1, .int p2] [MO G mm o, AW G (mm 1) 112 f] (some (.int R)) [MO G mm o, AW G (mm 1) 112 f] := by
  unfold f_X7_cannotBe at hR
  unfold ok_X7_cannotBe at hok
  refine CT.of (cc := cX7_cannotBe) (maxL := 3) (ret := (some .boolean)) (plainFor_of_name (by decide +kernel)) rfl rfl (Nat.le_of_ble_eq_true rfl) ?_
  intro p e s m below meth c A ls hx hb hml hr hts hown hlocks hK hP hD hA hS hl
  have hown : s.vm.findClass RX7 = some m.cls := hown
  have hl : lv_has ls 3 [(0, .ref (mm 0)), (1, .int p1), (2, .int p2)] := hl
  have hinX7 : ∀ w ∈ wsX70, w ∈ wsX7_cannotBe := fun w h => List.mem_cons_of_mem _ (List.mem_append_right _ h)
  refine lv_iload_n hx hb dX7_cannotBe_0 rfl (lv_at hl 1 rfl) ?_
  refine lv_if_ne (tgt := 16) hx hb dX7_cannotBe_1 (by decide) (fun c1 => ?_) (fun c1 => ?_)
  · rw [if_neg c1] at hR
    have hok := hok.2 c1
    refine lv_iload_n hx hb dX7_cannotBe_16 rfl (lv_at hl 1 rfl) ?_
    refine lv_iconst (v := 5) hx hb dX7_cannotBe_17 (by decide) ?_
    refine lv_icmp_ne (tgt := 32) hx hb dX7_cannotBe_18 (by decide) (fun c2 => ?_) (fun c2 => ?_)
    · rw [if_neg c2] at hR
      refine lv_iload_n hx hb dX7_cannotBe_32 rfl (lv_at hl 1 rfl) ?_
      refine lv_bipush (v := 6) hx hb dX7_cannotBe_33 (by decide) ?_
      refine lv_icmp_ne (tgt := 53) hx hb dX7_cannotBe_35 (by decide) (fun c3 => ?_) (fun c3 => ?_)
      · rw [if_neg c3] at hR
        refine lv_iconst (v := 0) hx hb dX7_cannotBe_53 (by decide) ?_
        subst hR
        exact g_retz hx hb hr hlocks hS rfl dX7_cannotBe_54 rfl hP
      · rw [if_pos c3] at hR
        refine lv_iload_n hx hb dX7_cannotBe_38 rfl (lv_at hl 2 rfl) ?_
        refine lv_aload_n hx hb dX7_cannotBe_39 rfl (lv_at hl 0 rfl) ?_
        refine g_get (ci := 7) (v := .ref (mm 1)) (C := RX7) (T := TX7) (N := 12) hx hb hts hinX7 hown hK hP 0 rfl rfl 0 (by decide) (hts (.fieldLink RX7 7 "ChargeStagesModel" "s" "[I") (List.mem_of_getElem? (i := 1) rfl)) rfl dX7_cannotBe_40 ?_
        refine lv_bipush (v := 47) hx hb dX7_cannotBe_43 (by decide) ?_
        refine g_ld (n := 112) (f := f) (v := f 47) (k := 47) hx hb hK hP 1 rfl (by decide) (by unfold vp_in; decide) rfl dX7_cannotBe_45 ?_
        refine lv_icmp_ge (tgt := 53) hx hb dX7_cannotBe_46 (by decide) (fun c4 => ?_) (fun c4 => ?_)
        · rw [if_pos c4] at hR
          refine lv_iconst (v := 0) hx hb dX7_cannotBe_53 (by decide) ?_
          subst hR
          exact g_retz hx hb hr hlocks hS rfl dX7_cannotBe_54 rfl hP
        · rw [if_neg c4] at hR
          refine lv_iconst (v := 1) hx hb dX7_cannotBe_49 (by decide) ?_
          refine lv_goto (tgt := 54) hx hb dX7_cannotBe_50 (by decide) ?_
          subst hR
          exact g_retz hx hb hr hlocks hS rfl dX7_cannotBe_54 rfl hP
    · rw [if_pos c2] at hR
      refine lv_iload_n hx hb dX7_cannotBe_21 rfl (lv_at hl 2 rfl) ?_
      refine lv_aload_n hx hb dX7_cannotBe_22 rfl (lv_at hl 0 rfl) ?_
      refine g_get (ci := 7) (v := .ref (mm 1)) (C := RX7) (T := TX7) (N := 12) hx hb hts hinX7 hown hK hP 0 rfl rfl 0 (by decide) (hts (.fieldLink RX7 7 "ChargeStagesModel" "s" "[I") (List.mem_of_getElem? (i := 1) rfl)) rfl dX7_cannotBe_23 ?_
      refine lv_bipush (v := 48) hx hb dX7_cannotBe_26 (by decide) ?_
      refine g_ld (n := 112) (f := f) (v := f 48) (k := 48) hx hb hK hP 1 rfl (by decide) (by unfold vp_in; decide) rfl dX7_cannotBe_28 ?_
      refine lv_icmp_gt (tgt := 49) hx hb dX7_cannotBe_29 (by decide) (fun c5 => ?_) (fun c5 => ?_)
      · rw [if_pos c5] at hR
        refine lv_iconst (v := 1) hx hb dX7_cannotBe_49 (by decide) ?_
        refine lv_goto (tgt := 54) hx hb dX7_cannotBe_50 (by decide) ?_
        subst hR
        exact g_retz hx hb hr hlocks hS rfl dX7_cannotBe_54 rfl hP
      · rw [if_neg c5] at hR
        refine lv_iload_n hx hb dX7_cannotBe_32 rfl (lv_at hl 1 rfl) ?_
        refine lv_bipush (v := 6) hx hb dX7_cannotBe_33 (by decide) ?_
        refine lv_icmp_ne (tgt := 53) hx hb dX7_cannotBe_35 (by decide) (fun c6 => ?_) (fun c6 => ?_)
        · rw [if_neg c6] at hR
          refine lv_iconst (v := 0) hx hb dX7_cannotBe_53 (by decide) ?_
          subst hR
          exact g_retz hx hb hr hlocks hS rfl dX7_cannotBe_54 rfl hP
        · rw [if_pos c6] at hR
          refine lv_iload_n hx hb dX7_cannotBe_38 rfl (lv_at hl 2 rfl) ?_
          refine lv_aload_n hx hb dX7_cannotBe_39 rfl (lv_at hl 0 rfl) ?_
          refine g_get (ci := 7) (v := .ref (mm 1)) (C := RX7) (T := TX7) (N := 12) hx hb hts hinX7 hown hK hP 0 rfl rfl 0 (by decide) (hts (.fieldLink RX7 7 "ChargeStagesModel" "s" "[I") (List.mem_of_getElem? (i := 1) rfl)) rfl dX7_cannotBe_40 ?_
          refine lv_bipush (v := 47) hx hb dX7_cannotBe_43 (by decide) ?_
          refine g_ld (n := 112) (f := f) (v := f 47) (k := 47) hx hb hK hP 1 rfl (by decide) (by unfold vp_in; decide) rfl dX7_cannotBe_45 ?_
          refine lv_icmp_ge (tgt := 53) hx hb dX7_cannotBe_46 (by decide) (fun c7 => ?_) (fun c7 => ?_)
          · rw [if_pos c7] at hR
            refine lv_iconst (v := 0) hx hb dX7_cannotBe_53 (by decide) ?_
            subst hR
            exact g_retz hx hb hr hlocks hS rfl dX7_cannotBe_54 rfl hP
          · rw [if_neg c7] at hR
            refine lv_iconst (v := 1) hx hb dX7_cannotBe_49 (by decide) ?_
            refine lv_goto (tgt := 54) hx hb dX7_cannotBe_50 (by decide) ?_
            subst hR
            exact g_retz hx hb hr hlocks hS rfl dX7_cannotBe_54 rfl hP
  · rw [if_pos c1] at hR
    have hok := hok.1 c1
    refine lv_aload_n hx hb dX7_cannotBe_4 rfl (lv_at hl 0 rfl) ?_
    refine g_get (ci := 7) (v := .ref (mm 1)) (C := RX7) (T := TX7) (N := 12) hx hb hts hinX7 hown hK hP 0 rfl rfl 0 (by decide) (hts (.fieldLink RX7 7 "ChargeStagesModel" "s" "[I") (List.mem_of_getElem? (i := 1) rfl)) rfl dX7_cannotBe_5 ?_
    refine lv_iconst (v := 1) hx hb dX7_cannotBe_8 (by decide) ?_
    obtain ⟨k9, hok⟩ := hok
    obtain ⟨R8, eR8, hR⟩ := g_let hR
    refine g_callS (c_X7_charged l G (mm 1) f 1 R8 eR8 k9) hx hb hml hown hts hK hP hD hS hA gX7_cannotBe_X7_charged rfl (n := 2) (by decide +kernel) rfl ⟨Nat.le_of_ble_eq_true rfl, Nat.le_of_ble_eq_true rfl⟩ [1] rfl (by decide) hl.1 rfl (Nat.le_of_ble_eq_true rfl) ⟨Nat.zero_le _, Nat.zero_le _⟩ dX7_cannotBe_9 (fun H locs hP hD hS => ?_)
    have hP : va_P G.1 vwCl (List.flatten [MO G mm o, AW G (mm 1) 112 f]) H := hP
    have hD : va_D A (List.flatten [MO G mm o, AW G (mm 1) 112 f]) := hD
    refine lv_iload_n hx hb dX7_cannotBe_12 rfl (lv_at hl 2 rfl) ?_
    refine lv_icmp_gt (tgt := 49) hx hb dX7_cannotBe_13 (by decide) (fun c10 => ?_) (fun c10 => ?_)
    · rw [if_pos c10] at hR
      refine lv_iconst (v := 1) hx hb dX7_cannotBe_49 (by decide) ?_
      refine lv_goto (tgt := 54) hx hb dX7_cannotBe_50 (by decide) ?_
      subst hR
      exact g_retz hx hb hr hlocks hS rfl dX7_cannotBe_54 rfl hP
    · rw [if_neg c10] at hR
      refine lv_iload_n hx hb dX7_cannotBe_16 rfl (lv_at hl 1 rfl) ?_
      refine lv_iconst (v := 5) hx hb dX7_cannotBe_17 (by decide) ?_
      refine lv_icmp_ne (tgt := 32) hx hb dX7_cannotBe_18 (by decide) (fun c11 => ?_) (fun c11 => ?_)
      · rw [if_neg c11] at hR
        refine lv_iload_n hx hb dX7_cannotBe_32 rfl (lv_at hl 1 rfl) ?_
        refine lv_bipush (v := 6) hx hb dX7_cannotBe_33 (by decide) ?_
        refine lv_icmp_ne (tgt := 53) hx hb dX7_cannotBe_35 (by decide) (fun c12 => ?_) (fun c12 => ?_)
        · rw [if_neg c12] at hR
          refine lv_iconst (v := 0) hx hb dX7_cannotBe_53 (by decide) ?_
          subst hR
          exact g_retz hx hb hr hlocks hS rfl dX7_cannotBe_54 rfl hP
        · rw [if_pos c12] at hR
          refine lv_iload_n hx hb dX7_cannotBe_38 rfl (lv_at hl 2 rfl) ?_
          refine lv_aload_n hx hb dX7_cannotBe_39 rfl (lv_at hl 0 rfl) ?_
          refine g_get (ci := 7) (v := .ref (mm 1)) (C := RX7) (T := TX7) (N := 12) hx hb hts hinX7 hown hK hP 0 rfl rfl 0 (by decide) (hts (.fieldLink RX7 7 "ChargeStagesModel" "s" "[I") (List.mem_of_getElem? (i := 1) rfl)) rfl dX7_cannotBe_40 ?_
          refine lv_bipush (v := 47) hx hb dX7_cannotBe_43 (by decide) ?_
          refine g_ld (n := 112) (f := f) (v := f 47) (k := 47) hx hb hK hP 1 rfl (by decide) (by unfold vp_in; decide) rfl dX7_cannotBe_45 ?_
          refine lv_icmp_ge (tgt := 53) hx hb dX7_cannotBe_46 (by decide) (fun c13 => ?_) (fun c13 => ?_)
          · rw [if_pos c13] at hR
            refine lv_iconst (v := 0) hx hb dX7_cannotBe_53 (by decide) ?_
            subst hR
            exact g_retz hx hb hr hlocks hS rfl dX7_cannotBe_54 rfl hP
          · rw [if_neg c13] at hR
            refine lv_iconst (v := 1) hx hb dX7_cannotBe_49 (by decide) ?_
            refine lv_goto (tgt := 54) hx hb dX7_cannotBe_50 (by decide) ?_
            subst hR
            exact g_retz hx hb hr hlocks hS rfl dX7_cannotBe_54 rfl hP
      · rw [if_pos c11] at hR
        refine lv_iload_n hx hb dX7_cannotBe_21 rfl (lv_at hl 2 rfl) ?_
        refine lv_aload_n hx hb dX7_cannotBe_22 rfl (lv_at hl 0 rfl) ?_
        refine g_get (ci := 7) (v := .ref (mm 1)) (C := RX7) (T := TX7) (N := 12) hx hb hts hinX7 hown hK hP 0 rfl rfl 0 (by decide) (hts (.fieldLink RX7 7 "ChargeStagesModel" "s" "[I") (List.mem_of_getElem? (i := 1) rfl)) rfl dX7_cannotBe_23 ?_
        refine lv_bipush (v := 48) hx hb dX7_cannotBe_26 (by decide) ?_
        refine g_ld (n := 112) (f := f) (v := f 48) (k := 48) hx hb hK hP 1 rfl (by decide) (by unfold vp_in; decide) rfl dX7_cannotBe_28 ?_
        refine lv_icmp_gt (tgt := 49) hx hb dX7_cannotBe_29 (by decide) (fun c14 => ?_) (fun c14 => ?_)
        · rw [if_pos c14] at hR
          refine lv_iconst (v := 1) hx hb dX7_cannotBe_49 (by decide) ?_
          refine lv_goto (tgt := 54) hx hb dX7_cannotBe_50 (by decide) ?_
          subst hR
          exact g_retz hx hb hr hlocks hS rfl dX7_cannotBe_54 rfl hP
        · rw [if_neg c14] at hR
          refine lv_iload_n hx hb dX7_cannotBe_32 rfl (lv_at hl 1 rfl) ?_
          refine lv_bipush (v := 6) hx hb dX7_cannotBe_33 (by decide) ?_
          refine lv_icmp_ne (tgt := 53) hx hb dX7_cannotBe_35 (by decide) (fun c15 => ?_) (fun c15 => ?_)
          · rw [if_neg c15] at hR
            refine lv_iconst (v := 0) hx hb dX7_cannotBe_53 (by decide) ?_
            subst hR
            exact g_retz hx hb hr hlocks hS rfl dX7_cannotBe_54 rfl hP
          · rw [if_pos c15] at hR
            refine lv_iload_n hx hb dX7_cannotBe_38 rfl (lv_at hl 2 rfl) ?_
            refine lv_aload_n hx hb dX7_cannotBe_39 rfl (lv_at hl 0 rfl) ?_
            refine g_get (ci := 7) (v := .ref (mm 1)) (C := RX7) (T := TX7) (N := 12) hx hb hts hinX7 hown hK hP 0 rfl rfl 0 (by decide) (hts (.fieldLink RX7 7 "ChargeStagesModel" "s" "[I") (List.mem_of_getElem? (i := 1) rfl)) rfl dX7_cannotBe_40 ?_
            refine lv_bipush (v := 47) hx hb dX7_cannotBe_43 (by decide) ?_
            refine g_ld (n := 112) (f := f) (v := f 47) (k := 47) hx hb hK hP 1 rfl (by decide) (by unfold vp_in; decide) rfl dX7_cannotBe_45 ?_
            refine lv_icmp_ge (tgt := 53) hx hb dX7_cannotBe_46 (by decide) (fun c16 => ?_) (fun c16 => ?_)
            · rw [if_pos c16] at hR
              refine lv_iconst (v := 0) hx hb dX7_cannotBe_53 (by decide) ?_
              subst hR
              exact g_retz hx hb hr hlocks hS rfl dX7_cannotBe_54 rfl hP
            · rw [if_neg c16] at hR
              refine lv_iconst (v := 1) hx hb dX7_cannotBe_49 (by decide) ?_
              refine lv_goto (tgt := 54) hx hb dX7_cannotBe_50 (by decide) ?_
              subst hR
              exact g_retz hx hb hr hlocks hS rfl dX7_cannotBe_54 rfl hP
def f_X7_isInRange (p1 : Int32) (p2 : Int32) : Int32 := (if p1 = 0 then (gL (f_X7_in p2 100 5000) (fun (R2 : Int32) => R2)) else (if p1 = 1 then (gL (f_X7_in p2 0 200) (fun (R6 : Int32) => R6)) else (if p1 = 2 then (gL (f_X7_in p2 50 100) (fun (R10 : Int32) => R10)) else (if p1 = 3 then (gL (f_X7_in p2 (-30) 80) (fun (R14 : Int32) => R14)) else (if p1 = 4 then (gL (f_X7_in p2 0 10) (fun (R18 : Int32) => R18)) else (if p1 = 5 then (gL (f_X7_in p2 (-30) 80) (fun (R22 : Int32) => R22)) else (if p1 = 6 then (gL (f_X7_in p2 (-30) 80) (fun (R26 : Int32) => R26)) else (if p1 = 7 then (gL (f_X7_in p2 0 500) (fun (R30 : Int32) => R30)) else (gL (f_X7_in p2 0 50) (fun (R33 : Int32) => R33))))))))))
def ok_X7_isInRange (p1 : Int32) (p2 : Int32) : Prop := ((p1 = 0 → (gL (f_X7_in p2 100 5000) (fun (R2 : Int32) => (gz R2) ∧ True))) ∧ (¬ p1 = 0 → ((p1 = 1 → (gL (f_X7_in p2 0 200) (fun (R6 : Int32) => (gz R6) ∧ True))) ∧ (¬ p1 = 1 → ((p1 = 2 → (gL (f_X7_in p2 50 100) (fun (R10 : Int32) => (gz R10) ∧ True))) ∧ (¬ p1 = 2 → ((p1 = 3 → (gL (f_X7_in p2 (-30) 80) (fun (R14 : Int32) => (gz R14) ∧ True))) ∧ (¬ p1 = 3 → ((p1 = 4 → (gL (f_X7_in p2 0 10) (fun (R18 : Int32) => (gz R18) ∧ True))) ∧ (¬ p1 = 4 → ((p1 = 5 → (gL (f_X7_in p2 (-30) 80) (fun (R22 : Int32) => (gz R22) ∧ True))) ∧ (¬ p1 = 5 → ((p1 = 6 → (gL (f_X7_in p2 (-30) 80) (fun (R26 : Int32) => (gz R26) ∧ True))) ∧ (¬ p1 = 6 → ((p1 = 7 → (gL (f_X7_in p2 0 500) (fun (R30 : Int32) => (gz R30) ∧ True))) ∧ (¬ p1 = 7 → (gL (f_X7_in p2 0 50) (fun (R33 : Int32) => (gz R33) ∧ True))))))))))))))))))
set_option maxHeartbeats 4000000 in
set_option maxRecDepth 100000 in
theorem c_X7_isInRange (l : Launch) (G : gG)  (p1 : Int32) (p2 : Int32) (R : Int32) (hR : R = f_X7_isInRange p1 p2) (hok : ok_X7_isInRange p1 p2) : CT l G yX7_isInRange wsX7_isInRange 1 22 [.int p1, .int p2] [] (some (.int R)) [] := by
  unfold f_X7_isInRange at hR
  unfold ok_X7_isInRange at hok
  refine CT.of (cc := cX7_isInRange) (maxL := 2) (ret := (some .boolean)) (plainFor_of_name (by decide +kernel)) rfl rfl (Nat.le_of_ble_eq_true rfl) ?_
  intro p e s m below meth c A ls hx hb hml hr hts hown hlocks hK hP hD hA hS hl
  have hown : s.vm.findClass RX7 = some m.cls := hown
  have hl : lv_has ls 2 [(0, .int p1), (1, .int p2)] := hl
  refine lv_iload_n hx hb dX7_isInRange_0 rfl (lv_at hl 0 rfl) ?_
  by_cases c1 : p1 = 0
  · rw [if_pos c1] at hR
    have hok := hok.1 c1
    refine lv_tableIn (off := 47) (tgt := 48) hx hb dX7_isInRange_1 (by rw [c1]; decide) (by rw [c1]; decide) (by rw [c1]; rfl) (by decide) ?_
    refine lv_iload_n hx hb dX7_isInRange_48 rfl (lv_at hl 1 rfl) ?_
    refine lv_bipush (v := 100) hx hb dX7_isInRange_49 (by decide) ?_
    refine lv_sipush (v := 5000) hx hb dX7_isInRange_51 (by decide) ?_
    obtain ⟨R2, eR2, hR, hok⟩ := g_let2 hR hok
    refine g_callS (c_X7_in l G p2 100 5000 R2 eR2) hx hb hml hown hts hK hP hD hS hA gX7_isInRange_X7_in rfl (n := 3) (by decide +kernel) rfl ⟨Nat.le_of_ble_eq_true rfl, Nat.le_of_ble_eq_true rfl⟩ [] rfl (by decide) hl.1 rfl (Nat.le_of_ble_eq_true rfl) ⟨Nat.zero_le _, Nat.zero_le _⟩ dX7_isInRange_54 (fun H locs hP hD hS => ?_)
    have hP : va_P G.1 vwCl (List.flatten []) H := hP
    have hD : va_D A (List.flatten []) := hD
    obtain ⟨k4, hok⟩ := hok
    subst hR
    exact g_retz hx hb hr hlocks hS k4.narrow dX7_isInRange_57 rfl hP
  · rw [if_neg c1] at hR
    have hok := hok.2 c1
    by_cases c5 : p1 = 1
    · rw [if_pos c5] at hR
      have hok := hok.1 c5
      refine lv_tableIn (off := 57) (tgt := 58) hx hb dX7_isInRange_1 (by rw [c5]; decide) (by rw [c5]; decide) (by rw [c5]; rfl) (by decide) ?_
      refine lv_iload_n hx hb dX7_isInRange_58 rfl (lv_at hl 1 rfl) ?_
      refine lv_iconst (v := 0) hx hb dX7_isInRange_59 (by decide) ?_
      refine lv_sipush (v := 200) hx hb dX7_isInRange_60 (by decide) ?_
      obtain ⟨R6, eR6, hR, hok⟩ := g_let2 hR hok
      refine g_callS (c_X7_in l G p2 0 200 R6 eR6) hx hb hml hown hts hK hP hD hS hA gX7_isInRange_X7_in rfl (n := 3) (by decide +kernel) rfl ⟨Nat.le_of_ble_eq_true rfl, Nat.le_of_ble_eq_true rfl⟩ [] rfl (by decide) hl.1 rfl (Nat.le_of_ble_eq_true rfl) ⟨Nat.zero_le _, Nat.zero_le _⟩ dX7_isInRange_63 (fun H locs hP hD hS => ?_)
      have hP : va_P G.1 vwCl (List.flatten []) H := hP
      have hD : va_D A (List.flatten []) := hD
      obtain ⟨k8, hok⟩ := hok
      subst hR
      exact g_retz hx hb hr hlocks hS k8.narrow dX7_isInRange_66 rfl hP
    · rw [if_neg c5] at hR
      have hok := hok.2 c5
      by_cases c9 : p1 = 2
      · rw [if_pos c9] at hR
        have hok := hok.1 c9
        refine lv_tableIn (off := 66) (tgt := 67) hx hb dX7_isInRange_1 (by rw [c9]; decide) (by rw [c9]; decide) (by rw [c9]; rfl) (by decide) ?_
        refine lv_iload_n hx hb dX7_isInRange_67 rfl (lv_at hl 1 rfl) ?_
        refine lv_bipush (v := 50) hx hb dX7_isInRange_68 (by decide) ?_
        refine lv_bipush (v := 100) hx hb dX7_isInRange_70 (by decide) ?_
        obtain ⟨R10, eR10, hR, hok⟩ := g_let2 hR hok
        refine g_callS (c_X7_in l G p2 50 100 R10 eR10) hx hb hml hown hts hK hP hD hS hA gX7_isInRange_X7_in rfl (n := 3) (by decide +kernel) rfl ⟨Nat.le_of_ble_eq_true rfl, Nat.le_of_ble_eq_true rfl⟩ [] rfl (by decide) hl.1 rfl (Nat.le_of_ble_eq_true rfl) ⟨Nat.zero_le _, Nat.zero_le _⟩ dX7_isInRange_72 (fun H locs hP hD hS => ?_)
        have hP : va_P G.1 vwCl (List.flatten []) H := hP
        have hD : va_D A (List.flatten []) := hD
        obtain ⟨k12, hok⟩ := hok
        subst hR
        exact g_retz hx hb hr hlocks hS k12.narrow dX7_isInRange_75 rfl hP
      · rw [if_neg c9] at hR
        have hok := hok.2 c9
        by_cases c13 : p1 = 3
        · rw [if_pos c13] at hR
          have hok := hok.1 c13
          refine lv_tableIn (off := 75) (tgt := 76) hx hb dX7_isInRange_1 (by rw [c13]; decide) (by rw [c13]; decide) (by rw [c13]; rfl) (by decide) ?_
          refine lv_iload_n hx hb dX7_isInRange_76 rfl (lv_at hl 1 rfl) ?_
          refine lv_bipush (v := (-30)) hx hb dX7_isInRange_77 (by decide) ?_
          refine lv_bipush (v := 80) hx hb dX7_isInRange_79 (by decide) ?_
          obtain ⟨R14, eR14, hR, hok⟩ := g_let2 hR hok
          refine g_callS (c_X7_in l G p2 (-30) 80 R14 eR14) hx hb hml hown hts hK hP hD hS hA gX7_isInRange_X7_in rfl (n := 3) (by decide +kernel) rfl ⟨Nat.le_of_ble_eq_true rfl, Nat.le_of_ble_eq_true rfl⟩ [] rfl (by decide) hl.1 rfl (Nat.le_of_ble_eq_true rfl) ⟨Nat.zero_le _, Nat.zero_le _⟩ dX7_isInRange_81 (fun H locs hP hD hS => ?_)
          have hP : va_P G.1 vwCl (List.flatten []) H := hP
          have hD : va_D A (List.flatten []) := hD
          obtain ⟨k16, hok⟩ := hok
          subst hR
          exact g_retz hx hb hr hlocks hS k16.narrow dX7_isInRange_84 rfl hP
        · rw [if_neg c13] at hR
          have hok := hok.2 c13
          by_cases c17 : p1 = 4
          · rw [if_pos c17] at hR
            have hok := hok.1 c17
            refine lv_tableIn (off := 84) (tgt := 85) hx hb dX7_isInRange_1 (by rw [c17]; decide) (by rw [c17]; decide) (by rw [c17]; rfl) (by decide) ?_
            refine lv_iload_n hx hb dX7_isInRange_85 rfl (lv_at hl 1 rfl) ?_
            refine lv_iconst (v := 0) hx hb dX7_isInRange_86 (by decide) ?_
            refine lv_bipush (v := 10) hx hb dX7_isInRange_87 (by decide) ?_
            obtain ⟨R18, eR18, hR, hok⟩ := g_let2 hR hok
            refine g_callS (c_X7_in l G p2 0 10 R18 eR18) hx hb hml hown hts hK hP hD hS hA gX7_isInRange_X7_in rfl (n := 3) (by decide +kernel) rfl ⟨Nat.le_of_ble_eq_true rfl, Nat.le_of_ble_eq_true rfl⟩ [] rfl (by decide) hl.1 rfl (Nat.le_of_ble_eq_true rfl) ⟨Nat.zero_le _, Nat.zero_le _⟩ dX7_isInRange_89 (fun H locs hP hD hS => ?_)
            have hP : va_P G.1 vwCl (List.flatten []) H := hP
            have hD : va_D A (List.flatten []) := hD
            obtain ⟨k20, hok⟩ := hok
            subst hR
            exact g_retz hx hb hr hlocks hS k20.narrow dX7_isInRange_92 rfl hP
          · rw [if_neg c17] at hR
            have hok := hok.2 c17
            by_cases c21 : p1 = 5
            · rw [if_pos c21] at hR
              have hok := hok.1 c21
              refine lv_tableIn (off := 75) (tgt := 76) hx hb dX7_isInRange_1 (by rw [c21]; decide) (by rw [c21]; decide) (by rw [c21]; rfl) (by decide) ?_
              refine lv_iload_n hx hb dX7_isInRange_76 rfl (lv_at hl 1 rfl) ?_
              refine lv_bipush (v := (-30)) hx hb dX7_isInRange_77 (by decide) ?_
              refine lv_bipush (v := 80) hx hb dX7_isInRange_79 (by decide) ?_
              obtain ⟨R22, eR22, hR, hok⟩ := g_let2 hR hok
              refine g_callS (c_X7_in l G p2 (-30) 80 R22 eR22) hx hb hml hown hts hK hP hD hS hA gX7_isInRange_X7_in rfl (n := 3) (by decide +kernel) rfl ⟨Nat.le_of_ble_eq_true rfl, Nat.le_of_ble_eq_true rfl⟩ [] rfl (by decide) hl.1 rfl (Nat.le_of_ble_eq_true rfl) ⟨Nat.zero_le _, Nat.zero_le _⟩ dX7_isInRange_81 (fun H locs hP hD hS => ?_)
              have hP : va_P G.1 vwCl (List.flatten []) H := hP
              have hD : va_D A (List.flatten []) := hD
              obtain ⟨k24, hok⟩ := hok
              subst hR
              exact g_retz hx hb hr hlocks hS k24.narrow dX7_isInRange_84 rfl hP
            · rw [if_neg c21] at hR
              have hok := hok.2 c21
              by_cases c25 : p1 = 6
              · rw [if_pos c25] at hR
                have hok := hok.1 c25
                refine lv_tableIn (off := 75) (tgt := 76) hx hb dX7_isInRange_1 (by rw [c25]; decide) (by rw [c25]; decide) (by rw [c25]; rfl) (by decide) ?_
                refine lv_iload_n hx hb dX7_isInRange_76 rfl (lv_at hl 1 rfl) ?_
                refine lv_bipush (v := (-30)) hx hb dX7_isInRange_77 (by decide) ?_
                refine lv_bipush (v := 80) hx hb dX7_isInRange_79 (by decide) ?_
                obtain ⟨R26, eR26, hR, hok⟩ := g_let2 hR hok
                refine g_callS (c_X7_in l G p2 (-30) 80 R26 eR26) hx hb hml hown hts hK hP hD hS hA gX7_isInRange_X7_in rfl (n := 3) (by decide +kernel) rfl ⟨Nat.le_of_ble_eq_true rfl, Nat.le_of_ble_eq_true rfl⟩ [] rfl (by decide) hl.1 rfl (Nat.le_of_ble_eq_true rfl) ⟨Nat.zero_le _, Nat.zero_le _⟩ dX7_isInRange_81 (fun H locs hP hD hS => ?_)
                have hP : va_P G.1 vwCl (List.flatten []) H := hP
                have hD : va_D A (List.flatten []) := hD
                obtain ⟨k28, hok⟩ := hok
                subst hR
                exact g_retz hx hb hr hlocks hS k28.narrow dX7_isInRange_84 rfl hP
              · rw [if_neg c25] at hR
                have hok := hok.2 c25
                by_cases c29 : p1 = 7
                · rw [if_pos c29] at hR
                  have hok := hok.1 c29
                  refine lv_tableIn (off := 92) (tgt := 93) hx hb dX7_isInRange_1 (by rw [c29]; decide) (by rw [c29]; decide) (by rw [c29]; rfl) (by decide) ?_
                  refine lv_iload_n hx hb dX7_isInRange_93 rfl (lv_at hl 1 rfl) ?_
                  refine lv_iconst (v := 0) hx hb dX7_isInRange_94 (by decide) ?_
                  refine lv_sipush (v := 500) hx hb dX7_isInRange_95 (by decide) ?_
                  obtain ⟨R30, eR30, hR, hok⟩ := g_let2 hR hok
                  refine g_callS (c_X7_in l G p2 0 500 R30 eR30) hx hb hml hown hts hK hP hD hS hA gX7_isInRange_X7_in rfl (n := 3) (by decide +kernel) rfl ⟨Nat.le_of_ble_eq_true rfl, Nat.le_of_ble_eq_true rfl⟩ [] rfl (by decide) hl.1 rfl (Nat.le_of_ble_eq_true rfl) ⟨Nat.zero_le _, Nat.zero_le _⟩ dX7_isInRange_98 (fun H locs hP hD hS => ?_)
                  have hP : va_P G.1 vwCl (List.flatten []) H := hP
                  have hD : va_D A (List.flatten []) := hD
                  obtain ⟨k32, hok⟩ := hok
                  subst hR
                  exact g_retz hx hb hr hlocks hS k32.narrow dX7_isInRange_101 rfl hP
                · rw [if_neg c29] at hR
                  have hok := hok.2 c29
                  refine lv_tableOut (tgt := 102) hx hb dX7_isInRange_1 (g_out 8 (lt_s (lt_s (lt_s (lt_s (lt_s (lt_s (lt_s (lt_s lt_0 c1) c5) c9) c13) c17) c21) c25) c29)) (by decide) ?_
                  refine lv_iload_n hx hb dX7_isInRange_102 rfl (lv_at hl 1 rfl) ?_
                  refine lv_iconst (v := 0) hx hb dX7_isInRange_103 (by decide) ?_
                  refine lv_bipush (v := 50) hx hb dX7_isInRange_104 (by decide) ?_
                  obtain ⟨R33, eR33, hR, hok⟩ := g_let2 hR hok
                  refine g_callS (c_X7_in l G p2 0 50 R33 eR33) hx hb hml hown hts hK hP hD hS hA gX7_isInRange_X7_in rfl (n := 3) (by decide +kernel) rfl ⟨Nat.le_of_ble_eq_true rfl, Nat.le_of_ble_eq_true rfl⟩ [] rfl (by decide) hl.1 rfl (Nat.le_of_ble_eq_true rfl) ⟨Nat.zero_le _, Nat.zero_le _⟩ dX7_isInRange_106 (fun H locs hP hD hS => ?_)
                  have hP : va_P G.1 vwCl (List.flatten []) H := hP
                  have hD : va_D A (List.flatten []) := hD
                  obtain ⟨k35, hok⟩ := hok
                  subst hR
                  exact g_retz hx hb hr hlocks hS k35.narrow dX7_isInRange_109 rfl hP
def fl_X7_records_10 (o : (Nat → Int32)) (f : (Nat → Int32)) : Nat → Int32 → (Nat → Int32) → (Nat → Int32) × (Nat → Int32)
  | 0, _, _ => ((fun _ => 0), (fun _ => 0))
  | n + 1, x10_1, w10_2 => (if 336 ≤ x10_1 then (gL (f_X7_copies448 f w10_2 (112 * ((o 0) - 1))) (fun (R6 : (Nat → Int32)) => ((upd o 0 (((o 0) - 1) + 1)), R6))) else (gL (upd w10_2 ((x10_1).toNatClampNeg) (w10_2 ((x10_1 + 112).toNatClampNeg))) (fun (z9 : (Nat → Int32)) => (gL ((x10_1 + 1)) (fun (v11 : Int32) => (fl_X7_records_10 o f n v11 z9))))))
def okl_X7_records_10 (o : (Nat → Int32)) (f : (Nat → Int32)) : Nat → Int32 → (Nat → Int32) → Prop
  | 0, _, _ => False
  | n + 1, x10_1, w10_2 => ((336 ≤ x10_1 → (ok_X7_copies448 f w10_2 (112 * ((o 0) - 1))) ∧ True) ∧ (¬ 336 ≤ x10_1 → (vp_in (x10_1 + 112) 448) ∧ (vp_in x10_1 448) ∧ (gL (upd w10_2 ((x10_1).toNatClampNeg) (w10_2 ((x10_1 + 112).toNatClampNeg))) (fun (z9 : (Nat → Int32)) => (gL ((x10_1 + 1)) (fun (v11 : Int32) => (okl_X7_records_10 o f n v11 z9)))))))
def f_X7_records (o : (Nat → Int32)) (f : (Nat → Int32)) (fw : (Nat → Int32)) : (Nat → Int32) × (Nat → Int32) := (if (o 0) = 4 then (fl_X7_records_10 o f 337 0 fw) else (gL (f_X7_copies448 f fw (112 * (o 0))) (fun (R2 : (Nat → Int32)) => ((upd o 0 ((o 0) + 1)), R2))))
def ok_X7_records (o : (Nat → Int32)) (f : (Nat → Int32)) (fw : (Nat → Int32)) : Prop := (((o 0) = 4 → (okl_X7_records_10 o f 337 0 fw)) ∧ (¬ (o 0) = 4 → (ok_X7_copies448 f fw (112 * (o 0))) ∧ True))
set_option maxHeartbeats 4000000 in
set_option maxRecDepth 100000 in
theorem c_X7_records (l : Launch) (G : gG) (mm : Nat → Nat) (o : (Nat → Int32)) (f : (Nat → Int32)) (fw : (Nat → Int32)) (R : (Nat → Int32) × (Nat → Int32)) (hR : R = f_X7_records o f fw) (hok : ok_X7_records o f fw) : CT l G yX7_records wsX7_records 1 23 [.ref (mm 0)] [MO G mm o, AW G (mm 1) 112 f, AW G (mm 3) 448 fw] none [MO G mm R.1, AW G (mm 1) 112 f, AW G (mm 3) 448 R.2] := by
  unfold f_X7_records at hR
  unfold ok_X7_records at hok
  refine CT.of (cc := cX7_records) (maxL := 2) (ret := none) (plainFor_of_name (by decide +kernel)) rfl rfl (Nat.le_of_ble_eq_true rfl) ?_
  intro p e s m below meth c A ls hx hb hml hr hts hown hlocks hK hP hD hA hS hl
  have hown : s.vm.findClass RX7 = some m.cls := hown
  have hl : lv_has ls 2 [(0, .ref (mm 0))] := hl
  have hinX7 : ∀ w ∈ wsX70, w ∈ wsX7_records := fun w h => List.mem_cons_of_mem _ (List.mem_append_right _ h)
  refine lv_aload_n hx hb dX7_records_0 rfl (lv_at hl 0 rfl) ?_
  refine g_get (ci := 7) (v := .int (o 0)) (C := RX7) (T := TX7) (N := 12) hx hb hts hinX7 hown hK hP 0 rfl rfl 3 (by decide) (hts (.fieldLink RX7 29 "ChargeStagesModel" "states" "I") (List.mem_of_getElem? (i := 1) rfl)) rfl dX7_records_1 ?_
  refine lv_iconst (v := 4) hx hb dX7_records_4 (by decide) ?_
  refine lv_icmp_ne (tgt := 48) hx hb dX7_records_5 (by decide) (fun c1 => ?_) (fun c1 => ?_)
  · rw [if_neg c1] at hR
    have hok := hok.2 c1
    refine lv_aload_n hx hb dX7_records_48 rfl (lv_at hl 0 rfl) ?_
    refine g_get (ci := 7) (v := .ref (mm 1)) (C := RX7) (T := TX7) (N := 12) hx hb hts hinX7 hown hK hP 0 rfl rfl 0 (by decide) (hts (.fieldLink RX7 7 "ChargeStagesModel" "s" "[I") (List.mem_of_getElem? (i := 3) rfl)) rfl dX7_records_49 ?_
    refine lv_aload_n hx hb dX7_records_52 rfl (lv_at hl 0 rfl) ?_
    refine g_get (ci := 7) (v := .ref (mm 3)) (C := RX7) (T := TX7) (N := 12) hx hb hts hinX7 hown hK hP 0 rfl rfl 2 (by decide) (hts (.fieldLink RX7 16 "ChargeStagesModel" "was" "[I") (List.mem_of_getElem? (i := 2) rfl)) rfl dX7_records_53 ?_
    refine lv_bipush (v := 112) hx hb dX7_records_56 (by decide) ?_
    refine lv_aload_n hx hb dX7_records_58 rfl (lv_at hl 0 rfl) ?_
    refine g_get (ci := 7) (v := .int (o 0)) (C := RX7) (T := TX7) (N := 12) hx hb hts hinX7 hown hK hP 0 rfl rfl 3 (by decide) (hts (.fieldLink RX7 29 "ChargeStagesModel" "states" "I") (List.mem_of_getElem? (i := 1) rfl)) rfl dX7_records_59 ?_
    refine lv_imul hx hb dX7_records_62 ?_
    obtain ⟨k3, hok⟩ := hok
    obtain ⟨R2, eR2, hR⟩ := g_let hR
    refine g_callS (c_X7_copies448 l G (mm 1) (mm 3) f fw (112 * (o 0)) R2 eR2 k3) hx hb hml hown hts hK hP hD hS hA gX7_records_X7_copies rfl (n := 3) (by decide +kernel) rfl ⟨Nat.le_of_ble_eq_true rfl, Nat.le_of_ble_eq_true rfl⟩ [1, 2] rfl (by decide) hl.1 rfl (Nat.le_of_ble_eq_true rfl) ⟨Nat.zero_le _, Nat.zero_le _⟩ dX7_records_63 (fun H locs hP hD hS => ?_)
    have hP : va_P G.1 vwCl (List.flatten [MO G mm o, AW G (mm 1) 112 f, AW G (mm 3) 448 R2]) H := hP
    have hD : va_D A (List.flatten [MO G mm o, AW G (mm 1) 112 f, AW G (mm 3) 448 R2]) := hD
    refine lv_aload_n hx hb dX7_records_66 rfl (lv_at hl 0 rfl) ?_
    refine lv_dup hx hb dX7_records_67 rfl ?_
    refine g_get (ci := 7) (v := .int (o 0)) (C := RX7) (T := TX7) (N := 12) hx hb hts hinX7 hown hK hP 0 rfl rfl 3 (by decide) (hts (.fieldLink RX7 29 "ChargeStagesModel" "states" "I") (List.mem_of_getElem? (i := 1) rfl)) rfl dX7_records_68 ?_
    refine lv_iconst (v := 1) hx hb dX7_records_71 (by decide) ?_
    refine lv_iadd hx hb dX7_records_72 ?_
    refine g_put (ci := 7) (v := .int ((o 0) + 1)) (ty := .int) (C := RX7) (T := TX7) (N := 12) (B2 := [MO G mm (upd o 0 ((o 0) + 1)), AW G (mm 1) 112 f, AW G (mm 3) 448 R2]) hx hb hts hinX7 tyX7 tyX7_ok nmX7 hown hK hP hD hS 0 rfl rfl 3 (by decide) (hts (.fieldLink RX7 29 "ChargeStagesModel" "states" "I") (List.mem_of_getElem? (i := 1) rfl)) rfl (by decide +kernel) rfl rfl (Nat.le_of_ble_eq_true rfl) rfl dX7_records_73 (fun H locs hP hD hS => ?_)
    subst hR
    exact g_retv hx hb hr hlocks hS dX7_records_76 rfl hP
  · rw [if_pos c1] at hR
    have hok := hok.1 c1
    refine lv_iconst (v := 0) hx hb dX7_records_8 (by decide) ?_
    refine lv_istore_n (lv' := [(1, .int 0), (0, .ref (mm 0))]) hx hb dX7_records_9 rfl hl (by decide) rfl (fun ls hl => ?_)
    have lp10 : ∀ (n : Nat) (x10_1 : Int32) (w10_2 : (Nat → Int32)) (H : Heap) (locs : List Loc) (ls : Array Slot), R = fl_X7_records_10 o f n x10_1 w10_2 → okl_X7_records_10 o f n x10_1 w10_2 → va_P G.1 vwCl (List.flatten [MO G mm o, AW G (mm 1) 112 f, AW G (mm 3) 448 w10_2]) H → va_D A (List.flatten [MO G mm o, AW G (mm 1) 112 f, AW G (mm 3) 448 w10_2]) → va_S A s.heap H locs → lv_has ls 2 [(0, .ref (mm 0)), (1, .int x10_1)] → W p l e { frames := 1, cells := 0, slots := 0, locals := 23 } s m (List.toArray [.ref (mm 0)]) below meth c H locs 0 0 (gQ G below (List.toArray [.ref (mm 0)]) s none [MO G mm R.1, AW G (mm 1) 112 f, AW G (mm 3) 448 R.2] A) (F0 m 10 ls []) := by
      intro n
      induction n with
      | zero =>
        intro x10_1 w10_2 H locs ls hR hok hP hD hS hl
        rw [okl_X7_records_10] at hok
        exact hok.elim
      | succ n ih =>
        intro x10_1 w10_2 H locs ls hR hok hP hD hS hl
        rw [fl_X7_records_10] at hR
        rw [okl_X7_records_10] at hok
        refine lv_iload_n hx hb dX7_records_10 rfl (lv_at hl 1 rfl) ?_
        refine lv_sipush (v := 336) hx hb dX7_records_11 (by decide) ?_
        refine lv_icmp_ge (tgt := 38) hx hb dX7_records_14 (by decide) (fun c5 => ?_) (fun c5 => ?_)
        · rw [if_pos c5] at hR
          have hok := hok.1 c5
          refine lv_aload_n hx hb dX7_records_38 rfl (lv_at hl 0 rfl) ?_
          refine lv_dup hx hb dX7_records_39 rfl ?_
          refine g_get (ci := 7) (v := .int (o 0)) (C := RX7) (T := TX7) (N := 12) hx hb hts hinX7 hown hK hP 0 rfl rfl 3 (by decide) (hts (.fieldLink RX7 29 "ChargeStagesModel" "states" "I") (List.mem_of_getElem? (i := 1) rfl)) rfl dX7_records_40 ?_
          refine lv_iconst (v := 1) hx hb dX7_records_43 (by decide) ?_
          refine lv_isub hx hb dX7_records_44 ?_
          refine g_put (ci := 7) (v := .int ((o 0) - 1)) (ty := .int) (C := RX7) (T := TX7) (N := 12) (B2 := [MO G mm (upd o 0 ((o 0) - 1)), AW G (mm 1) 112 f, AW G (mm 3) 448 w10_2]) hx hb hts hinX7 tyX7 tyX7_ok nmX7 hown hK hP hD hS 0 rfl rfl 3 (by decide) (hts (.fieldLink RX7 29 "ChargeStagesModel" "states" "I") (List.mem_of_getElem? (i := 1) rfl)) rfl (by decide +kernel) rfl rfl (Nat.le_of_ble_eq_true rfl) rfl dX7_records_45 (fun H locs hP hD hS => ?_)
          refine lv_aload_n hx hb dX7_records_48 rfl (lv_at hl 0 rfl) ?_
          refine g_get (ci := 7) (v := .ref (mm 1)) (C := RX7) (T := TX7) (N := 12) hx hb hts hinX7 hown hK hP 0 rfl rfl 0 (by decide) (hts (.fieldLink RX7 7 "ChargeStagesModel" "s" "[I") (List.mem_of_getElem? (i := 3) rfl)) rfl dX7_records_49 ?_
          refine lv_aload_n hx hb dX7_records_52 rfl (lv_at hl 0 rfl) ?_
          refine g_get (ci := 7) (v := .ref (mm 3)) (C := RX7) (T := TX7) (N := 12) hx hb hts hinX7 hown hK hP 0 rfl rfl 2 (by decide) (hts (.fieldLink RX7 16 "ChargeStagesModel" "was" "[I") (List.mem_of_getElem? (i := 2) rfl)) rfl dX7_records_53 ?_
          refine lv_bipush (v := 112) hx hb dX7_records_56 (by decide) ?_
          refine lv_aload_n hx hb dX7_records_58 rfl (lv_at hl 0 rfl) ?_
          refine g_get (ci := 7) (v := .int ((o 0) - 1)) (C := RX7) (T := TX7) (N := 12) hx hb hts hinX7 hown hK hP 0 rfl rfl 3 (by decide) (hts (.fieldLink RX7 29 "ChargeStagesModel" "states" "I") (List.mem_of_getElem? (i := 1) rfl)) rfl dX7_records_59 ?_
          refine lv_imul hx hb dX7_records_62 ?_
          obtain ⟨k7, hok⟩ := hok
          obtain ⟨R6, eR6, hR⟩ := g_let hR
          refine g_callS (c_X7_copies448 l G (mm 1) (mm 3) f w10_2 (112 * ((o 0) - 1)) R6 eR6 k7) hx hb hml hown hts hK hP hD hS hA gX7_records_X7_copies rfl (n := 3) (by decide +kernel) rfl ⟨Nat.le_of_ble_eq_true rfl, Nat.le_of_ble_eq_true rfl⟩ [1, 2] rfl (by decide) hl.1 rfl (Nat.le_of_ble_eq_true rfl) ⟨Nat.zero_le _, Nat.zero_le _⟩ dX7_records_63 (fun H locs hP hD hS => ?_)
          have hP : va_P G.1 vwCl (List.flatten [MO G mm (upd o 0 ((o 0) - 1)), AW G (mm 1) 112 f, AW G (mm 3) 448 R6]) H := hP
          have hD : va_D A (List.flatten [MO G mm (upd o 0 ((o 0) - 1)), AW G (mm 1) 112 f, AW G (mm 3) 448 R6]) := hD
          refine lv_aload_n hx hb dX7_records_66 rfl (lv_at hl 0 rfl) ?_
          refine lv_dup hx hb dX7_records_67 rfl ?_
          refine g_get (ci := 7) (v := .int ((o 0) - 1)) (C := RX7) (T := TX7) (N := 12) hx hb hts hinX7 hown hK hP 0 rfl rfl 3 (by decide) (hts (.fieldLink RX7 29 "ChargeStagesModel" "states" "I") (List.mem_of_getElem? (i := 1) rfl)) rfl dX7_records_68 ?_
          refine lv_iconst (v := 1) hx hb dX7_records_71 (by decide) ?_
          refine lv_iadd hx hb dX7_records_72 ?_
          refine g_put (ci := 7) (v := .int (((o 0) - 1) + 1)) (ty := .int) (C := RX7) (T := TX7) (N := 12) (B2 := [MO G mm (upd o 0 (((o 0) - 1) + 1)), AW G (mm 1) 112 f, AW G (mm 3) 448 R6]) hx hb hts hinX7 tyX7 tyX7_ok nmX7 hown hK hP hD hS 0 rfl rfl 3 (by decide) (hts (.fieldLink RX7 29 "ChargeStagesModel" "states" "I") (List.mem_of_getElem? (i := 1) rfl)) rfl (by decide +kernel) rfl rfl (Nat.le_of_ble_eq_true rfl) rfl dX7_records_73 (fun H locs hP hD hS => ?_)
          subst hR
          exact g_retv hx hb hr hlocks hS dX7_records_76 rfl hP
        · rw [if_neg c5] at hR
          have hok := hok.2 c5
          refine lv_aload_n hx hb dX7_records_17 rfl (lv_at hl 0 rfl) ?_
          refine g_get (ci := 7) (v := .ref (mm 3)) (C := RX7) (T := TX7) (N := 12) hx hb hts hinX7 hown hK hP 0 rfl rfl 2 (by decide) (hts (.fieldLink RX7 16 "ChargeStagesModel" "was" "[I") (List.mem_of_getElem? (i := 2) rfl)) rfl dX7_records_18 ?_
          refine lv_iload_n hx hb dX7_records_21 rfl (lv_at hl 1 rfl) ?_
          refine lv_aload_n hx hb dX7_records_22 rfl (lv_at hl 0 rfl) ?_
          refine g_get (ci := 7) (v := .ref (mm 3)) (C := RX7) (T := TX7) (N := 12) hx hb hts hinX7 hown hK hP 0 rfl rfl 2 (by decide) (hts (.fieldLink RX7 16 "ChargeStagesModel" "was" "[I") (List.mem_of_getElem? (i := 2) rfl)) rfl dX7_records_23 ?_
          refine lv_iload_n hx hb dX7_records_26 rfl (lv_at hl 1 rfl) ?_
          refine lv_bipush (v := 112) hx hb dX7_records_27 (by decide) ?_
          refine lv_iadd hx hb dX7_records_29 ?_
          obtain ⟨k8, hok⟩ := hok
          refine g_ld (n := 448) (f := w10_2) (v := w10_2 ((x10_1 + 112).toNatClampNeg)) (k := ((x10_1 + 112).toNatClampNeg)) hx hb hK hP 2 rfl rfl k8 rfl dX7_records_30 ?_
          obtain ⟨k10, hok⟩ := hok
          obtain ⟨z9, ez9, hR, hok⟩ := g_let2 hR hok
          refine g_st (n := 448) (f := w10_2) (k := ((x10_1).toNatClampNeg)) (B2 := [MO G mm o, AW G (mm 1) 112 f, AW G (mm 3) 448 z9]) hx hb hK hP hD hS 2 rfl rfl k10 (by subst ez9; rfl) dX7_records_31 (fun H locs hP hD hS => ?_)
          obtain ⟨v11, ev11, hR, hok⟩ := g_let2 hR hok
          refine lv_iinc (v := v11) (lv' := [(1, .int v11), (0, .ref (mm 0))]) hx hb dX7_records_32 hl (k := 1) rfl (by subst ev11; rfl) (by decide) rfl (fun ls hl => ?_)
          refine lv_goto (tgt := 10) hx hb dX7_records_35 (by decide) ?_
          exact ih v11 z9 _ _ _ hR hok hP hD hS (lv_sub hl [1, 0] rfl)
    exact lp10 337 0 fw _ _ _ hR hok hP hD hS (lv_sub hl [1, 0] rfl)
def f_X7_sees (o : (Nat → Int32)) (tx : (Nat → Int32)) (p1 : Int32) (p2 : Int32) : Int32 := (if (o 2) ≤ (o 3) then 0 else (gL (f_X7_in (tx ((o 3).toNatClampNeg)) p1 p2) (fun (R3 : Int32) => (if R3 = 0 then 0 else 1))))
def ok_X7_sees (o : (Nat → Int32)) : Prop := (((o 2) ≤ (o 3) → True) ∧ (¬ (o 2) ≤ (o 3) → (vp_in (o 3) 60) ∧ True))
set_option maxHeartbeats 4000000 in
set_option maxRecDepth 100000 in
theorem c_X7_sees (l : Launch) (G : gG) (mm : Nat → Nat) (o : (Nat → Int32)) (tx : (Nat → Int32)) (p1 : Int32) (p2 : Int32) (R : Int32) (hR : R = f_X7_sees o tx p1 p2) (hok : ok_X7_sees o) : CT l G yX7_sees wsX7_sees 1 22 [.ref (mm 0), .int p1, .int p2] [MO G mm o, CX G (mm 5) tx] (some (.int R)) [MO G mm o, CX G (mm 5) tx] := by
  unfold f_X7_sees at hR
  unfold ok_X7_sees at hok
  refine CT.of (cc := cX7_sees) (maxL := 3) (ret := (some .boolean)) (plainFor_of_name (by decide +kernel)) rfl rfl (Nat.le_of_ble_eq_true rfl) ?_
  intro p e s m below meth c A ls hx hb hml hr hts hown hlocks hK hP hD hA hS hl
  have hown : s.vm.findClass RX7 = some m.cls := hown
  have hl : lv_has ls 3 [(0, .ref (mm 0)), (1, .int p1), (2, .int p2)] := hl
  have hinX7 : ∀ w ∈ wsX70, w ∈ wsX7_sees := fun w h => List.mem_cons_of_mem _ (List.mem_append_right _ h)
  refine lv_aload_n hx hb dX7_sees_0 rfl (lv_at hl 0 rfl) ?_
  refine g_get (ci := 7) (v := .int (o 3)) (C := RX7) (T := TX7) (N := 12) hx hb hts hinX7 hown hK hP 0 rfl rfl 8 (by decide) (hts (.fieldLink RX7 129 "ChargeStagesModel" "at" "I") (List.mem_of_getElem? (i := 1) rfl)) rfl dX7_sees_1 ?_
  refine lv_aload_n hx hb dX7_sees_4 rfl (lv_at hl 0 rfl) ?_
  refine g_get (ci := 7) (v := .int (o 2)) (C := RX7) (T := TX7) (N := 12) hx hb hts hinX7 hown hK hP 0 rfl rfl 7 (by decide) (hts (.fieldLink RX7 126 "ChargeStagesModel" "length" "I") (List.mem_of_getElem? (i := 2) rfl)) rfl dX7_sees_5 ?_
  refine lv_icmp_ge (tgt := 32) hx hb dX7_sees_8 (by decide) (fun c1 => ?_) (fun c1 => ?_)
  · rw [if_pos c1] at hR
    have hok := hok.1 c1
    refine lv_iconst (v := 0) hx hb dX7_sees_32 (by decide) ?_
    subst hR
    exact g_retz hx hb hr hlocks hS rfl dX7_sees_33 rfl hP
  · rw [if_neg c1] at hR
    have hok := hok.2 c1
    refine lv_aload_n hx hb dX7_sees_11 rfl (lv_at hl 0 rfl) ?_
    refine g_get (ci := 7) (v := .ref (mm 5)) (C := RX7) (T := TX7) (N := 12) hx hb hts hinX7 hown hK hP 0 rfl rfl 6 (by decide) (hts (.fieldLink RX7 22 "ChargeStagesModel" "text" "[C") (List.mem_of_getElem? (i := 3) rfl)) rfl dX7_sees_12 ?_
    refine lv_aload_n hx hb dX7_sees_15 rfl (lv_at hl 0 rfl) ?_
    refine g_get (ci := 7) (v := .int (o 3)) (C := RX7) (T := TX7) (N := 12) hx hb hts hinX7 hown hK hP 0 rfl rfl 8 (by decide) (hts (.fieldLink RX7 129 "ChargeStagesModel" "at" "I") (List.mem_of_getElem? (i := 1) rfl)) rfl dX7_sees_16 ?_
    obtain ⟨k2, hok⟩ := hok
    refine g_ldc (n := 60) (f := tx) (v := tx ((o 3).toNatClampNeg)) (k := ((o 3).toNatClampNeg)) hx hb hK hP 1 rfl rfl k2 rfl dX7_sees_19 ?_
    refine lv_iload_n hx hb dX7_sees_20 rfl (lv_at hl 1 rfl) ?_
    refine lv_iload_n hx hb dX7_sees_21 rfl (lv_at hl 2 rfl) ?_
    obtain ⟨R3, eR3, hR⟩ := g_let hR
    refine g_callS (c_X7_in l G (tx ((o 3).toNatClampNeg)) p1 p2 R3 eR3) hx hb hml hown hts hK hP hD hS hA gX7_sees_X7_in rfl (n := 3) (by decide +kernel) rfl ⟨Nat.le_of_ble_eq_true rfl, Nat.le_of_ble_eq_true rfl⟩ [] rfl (by decide) hl.1 rfl (Nat.le_of_ble_eq_true rfl) ⟨Nat.zero_le _, Nat.zero_le _⟩ dX7_sees_22 (fun H locs hP hD hS => ?_)
    have hP : va_P G.1 vwCl (List.flatten [MO G mm o, CX G (mm 5) tx]) H := hP
    have hD : va_D A (List.flatten [MO G mm o, CX G (mm 5) tx]) := hD
    refine lv_if_eq (tgt := 32) hx hb dX7_sees_25 (by decide) (fun c5 => ?_) (fun c5 => ?_)
    · rw [if_pos c5] at hR
      refine lv_iconst (v := 0) hx hb dX7_sees_32 (by decide) ?_
      subst hR
      exact g_retz hx hb hr hlocks hS rfl dX7_sees_33 rfl hP
    · rw [if_neg c5] at hR
      refine lv_iconst (v := 1) hx hb dX7_sees_28 (by decide) ?_
      refine lv_goto (tgt := 33) hx hb dX7_sees_29 (by decide) ?_
      subst hR
      exact g_retz hx hb hr hlocks hS rfl dX7_sees_33 rfl hP
def f_X7_takes (o : (Nat → Int32)) (tx : (Nat → Int32)) (p1 : Int32) : Int32 × (Nat → Int32) := (gL (f_X7_sees o tx p1 p1) (fun (R1 : Int32) => (if R1 = 0 then (R1, (upd o 3 ((o 3) + 0))) else (R1, (upd o 3 ((o 3) + 1))))))
def ok_X7_takes (o : (Nat → Int32)) (tx : (Nat → Int32)) (p1 : Int32) : Prop := (ok_X7_sees o) ∧ (gL (f_X7_sees o tx p1 p1) (fun (R1 : Int32) => ((R1 = 0 → (gz R1) ∧ True) ∧ (¬ R1 = 0 → (gz R1) ∧ True))))
set_option maxHeartbeats 4000000 in
set_option maxRecDepth 100000 in
theorem c_X7_takes (l : Launch) (G : gG) (mm : Nat → Nat) (o : (Nat → Int32)) (tx : (Nat → Int32)) (p1 : Int32) (R : Int32 × (Nat → Int32)) (hR : R = f_X7_takes o tx p1) (hok : ok_X7_takes o tx p1) : CT l G yX7_takes wsX7_takes 2 44 [.ref (mm 0), .int p1] [MO G mm o, CX G (mm 5) tx] (some (.int R.1)) [MO G mm R.2, CX G (mm 5) tx] := by
  unfold f_X7_takes at hR
  unfold ok_X7_takes at hok
  refine CT.of (cc := cX7_takes) (maxL := 3) (ret := (some .boolean)) (plainFor_of_name (by decide +kernel)) rfl rfl (Nat.le_of_ble_eq_true rfl) ?_
  intro p e s m below meth c A ls hx hb hml hr hts hown hlocks hK hP hD hA hS hl
  have hown : s.vm.findClass RX7 = some m.cls := hown
  have hl : lv_has ls 3 [(0, .ref (mm 0)), (1, .int p1)] := hl
  have hinX7 : ∀ w ∈ wsX70, w ∈ wsX7_takes := fun w h => List.mem_cons_of_mem _ (List.mem_append_right _ h)
  refine lv_aload_n hx hb dX7_takes_0 rfl (lv_at hl 0 rfl) ?_
  refine lv_iload_n hx hb dX7_takes_1 rfl (lv_at hl 1 rfl) ?_
  refine lv_iload_n hx hb dX7_takes_2 rfl (lv_at hl 1 rfl) ?_
  obtain ⟨k2, hok⟩ := hok
  obtain ⟨R1, eR1, hR, hok⟩ := g_let2 hR hok
  refine g_callV (c_X7_sees l G mm o tx p1 p1 R1 eR1 k2) hx hb hml hown hts hK hP hD hS hA gX7_takes_X7_sees rfl (n := 2) (by decide +kernel) rfl ⟨Nat.le_of_ble_eq_true rfl, Nat.le_of_ble_eq_true rfl⟩ [0, 1] rfl (by decide) 0 rfl (ci := 7) rfl hl.1 rfl (Nat.le_of_ble_eq_true rfl) ⟨Nat.zero_le _, Nat.zero_le _⟩ dX7_takes_3 (fun H locs hP hD hS => ?_)
  have hP : va_P G.1 vwCl (List.flatten [MO G mm o, CX G (mm 5) tx]) H := hP
  have hD : va_D A (List.flatten [MO G mm o, CX G (mm 5) tx]) := hD
  refine lv_istore_n (lv' := [(2, .int R1), (0, .ref (mm 0)), (1, .int p1)]) hx hb dX7_takes_6 rfl hl (by decide) rfl (fun ls hl => ?_)
  refine lv_aload_n hx hb dX7_takes_7 rfl (lv_at hl 1 rfl) ?_
  refine lv_dup hx hb dX7_takes_8 rfl ?_
  refine g_get (ci := 7) (v := .int (o 3)) (C := RX7) (T := TX7) (N := 12) hx hb hts hinX7 hown hK hP 0 rfl rfl 8 (by decide) (hts (.fieldLink RX7 129 "ChargeStagesModel" "at" "I") (List.mem_of_getElem? (i := 1) rfl)) rfl dX7_takes_9 ?_
  refine lv_iload_n hx hb dX7_takes_12 rfl (lv_at hl 0 rfl) ?_
  refine lv_if_eq (tgt := 20) hx hb dX7_takes_13 (by decide) (fun c3 => ?_) (fun c3 => ?_)
  · rw [if_pos c3] at hR
    have hok := hok.1 c3
    refine lv_iconst (v := 0) hx hb dX7_takes_20 (by decide) ?_
    refine lv_iadd hx hb dX7_takes_21 ?_
    refine g_put (ci := 7) (v := .int ((o 3) + 0)) (ty := .int) (C := RX7) (T := TX7) (N := 12) (B2 := [MO G mm (upd o 3 ((o 3) + 0)), CX G (mm 5) tx]) hx hb hts hinX7 tyX7 tyX7_ok nmX7 hown hK hP hD hS 0 rfl rfl 8 (by decide) (hts (.fieldLink RX7 129 "ChargeStagesModel" "at" "I") (List.mem_of_getElem? (i := 1) rfl)) rfl (by decide +kernel) rfl rfl (Nat.le_of_ble_eq_true rfl) rfl dX7_takes_22 (fun H locs hP hD hS => ?_)
    refine lv_iload_n hx hb dX7_takes_25 rfl (lv_at hl 0 rfl) ?_
    obtain ⟨k4, hok⟩ := hok
    subst hR
    exact g_retz hx hb hr hlocks hS k4.narrow dX7_takes_26 rfl hP
  · rw [if_neg c3] at hR
    have hok := hok.2 c3
    refine lv_iconst (v := 1) hx hb dX7_takes_16 (by decide) ?_
    refine lv_goto (tgt := 21) hx hb dX7_takes_17 (by decide) ?_
    refine lv_iadd hx hb dX7_takes_21 ?_
    refine g_put (ci := 7) (v := .int ((o 3) + 1)) (ty := .int) (C := RX7) (T := TX7) (N := 12) (B2 := [MO G mm (upd o 3 ((o 3) + 1)), CX G (mm 5) tx]) hx hb hts hinX7 tyX7 tyX7_ok nmX7 hown hK hP hD hS 0 rfl rfl 8 (by decide) (hts (.fieldLink RX7 129 "ChargeStagesModel" "at" "I") (List.mem_of_getElem? (i := 1) rfl)) rfl (by decide +kernel) rfl rfl (Nat.le_of_ble_eq_true rfl) rfl dX7_takes_22 (fun H locs hP hD hS => ?_)
    refine lv_iload_n hx hb dX7_takes_25 rfl (lv_at hl 0 rfl) ?_
    obtain ⟨k5, hok⟩ := hok
    subst hR
    exact g_retz hx hb hr hlocks hS k5.narrow dX7_takes_26 rfl hP
def fl_X7_takesNumber_40 (tx : (Nat → Int32)) : Nat → Int32 → (Nat → Int32) → Int32 × (Nat → Int32)
  | 0, _, _ => ((0 : Int32), (fun _ => 0))
  | n + 1, x40_2, w40_0 => (if 4 ≤ x40_2 then (1, w40_0) else (if (w40_0 4) ≤ 0 then (1, w40_0) else (gL (f_X7_sees w40_0 tx 48 57) (fun (R12 : Int32) => (if R12 = 0 then (1, w40_0) else (gL ((x40_2 + 1)) (fun (v16 : Int32) => (fl_X7_takesNumber_40 tx n v16 (upd (upd w40_0 4 (((10 * (w40_0 4)) + (tx ((w40_0 3).toNatClampNeg))) - 48)) 3 ((w40_0 3) + 1))))))))))
def okl_X7_takesNumber_40 (tx : (Nat → Int32)) : Nat → Int32 → (Nat → Int32) → Prop
  | 0, _, _ => False
  | n + 1, x40_2, w40_0 => ((4 ≤ x40_2 → True) ∧ (¬ 4 ≤ x40_2 → (((w40_0 4) ≤ 0 → True) ∧ (¬ (w40_0 4) ≤ 0 → (ok_X7_sees w40_0) ∧ (gL (f_X7_sees w40_0 tx 48 57) (fun (R12 : Int32) => ((R12 = 0 → True) ∧ (¬ R12 = 0 → (vp_in (w40_0 3) 60) ∧ (gL ((x40_2 + 1)) (fun (v16 : Int32) => (okl_X7_takesNumber_40 tx n v16 (upd (upd w40_0 4 (((10 * (w40_0 4)) + (tx ((w40_0 3).toNatClampNeg))) - 48)) 3 ((w40_0 3) + 1)))))))))))))
def f_X7_takesNumber (o : (Nat → Int32)) (tx : (Nat → Int32)) (p1 : Int32) : Int32 × (Nat → Int32) := (gL (f_X7_sees o tx p1 57) (fun (R1 : Int32) => (if R1 = 0 then (0, o) else (fl_X7_takesNumber_40 tx 4 1 (upd (upd o 4 ((tx ((o 3).toNatClampNeg)) - 48)) 3 ((o 3) + 1))))))
def ok_X7_takesNumber (o : (Nat → Int32)) (tx : (Nat → Int32)) (p1 : Int32) : Prop := (ok_X7_sees o) ∧ (gL (f_X7_sees o tx p1 57) (fun (R1 : Int32) => ((R1 = 0 → True) ∧ (¬ R1 = 0 → (vp_in (o 3) 60) ∧ (okl_X7_takesNumber_40 tx 4 1 (upd (upd o 4 ((tx ((o 3).toNatClampNeg)) - 48)) 3 ((o 3) + 1)))))))
set_option maxHeartbeats 4000000 in
set_option maxRecDepth 100000 in
theorem c_X7_takesNumber (l : Launch) (G : gG) (mm : Nat → Nat) (o : (Nat → Int32)) (tx : (Nat → Int32)) (p1 : Int32) (R : Int32 × (Nat → Int32)) (hR : R = f_X7_takesNumber o tx p1) (hok : ok_X7_takesNumber o tx p1) : CT l G yX7_takesNumber wsX7_takesNumber 2 44 [.ref (mm 0), .int p1] [MO G mm o, CX G (mm 5) tx] (some (.int R.1)) [MO G mm R.2, CX G (mm 5) tx] := by
  unfold f_X7_takesNumber at hR
  unfold ok_X7_takesNumber at hok
  refine CT.of (cc := cX7_takesNumber) (maxL := 3) (ret := (some .boolean)) (plainFor_of_name (by decide +kernel)) rfl rfl (Nat.le_of_ble_eq_true rfl) ?_
  intro p e s m below meth c A ls hx hb hml hr hts hown hlocks hK hP hD hA hS hl
  have hown : s.vm.findClass RX7 = some m.cls := hown
  have hl : lv_has ls 3 [(0, .ref (mm 0)), (1, .int p1)] := hl
  have hinX7 : ∀ w ∈ wsX70, w ∈ wsX7_takesNumber := fun w h => List.mem_cons_of_mem _ (List.mem_append_right _ h)
  refine lv_aload_n hx hb dX7_takesNumber_0 rfl (lv_at hl 0 rfl) ?_
  refine lv_iload_n hx hb dX7_takesNumber_1 rfl (lv_at hl 1 rfl) ?_
  refine lv_bipush (v := 57) hx hb dX7_takesNumber_2 (by decide) ?_
  obtain ⟨k2, hok⟩ := hok
  obtain ⟨R1, eR1, hR, hok⟩ := g_let2 hR hok
  refine g_callV (c_X7_sees l G mm o tx p1 57 R1 eR1 k2) hx hb hml hown hts hK hP hD hS hA gX7_takesNumber_X7_sees rfl (n := 2) (by decide +kernel) rfl ⟨Nat.le_of_ble_eq_true rfl, Nat.le_of_ble_eq_true rfl⟩ [0, 1] rfl (by decide) 0 rfl (ci := 7) rfl hl.1 rfl (Nat.le_of_ble_eq_true rfl) ⟨Nat.zero_le _, Nat.zero_le _⟩ dX7_takesNumber_4 (fun H locs hP hD hS => ?_)
  have hP : va_P G.1 vwCl (List.flatten [MO G mm o, CX G (mm 5) tx]) H := hP
  have hD : va_D A (List.flatten [MO G mm o, CX G (mm 5) tx]) := hD
  refine lv_if_ne (tgt := 12) hx hb dX7_takesNumber_7 (by decide) (fun c3 => ?_) (fun c3 => ?_)
  · rw [if_neg c3] at hR
    have hok := hok.2 c3
    refine lv_aload_n hx hb dX7_takesNumber_12 rfl (lv_at hl 0 rfl) ?_
    refine lv_aload_n hx hb dX7_takesNumber_13 rfl (lv_at hl 0 rfl) ?_
    refine g_get (ci := 7) (v := .ref (mm 5)) (C := RX7) (T := TX7) (N := 12) hx hb hts hinX7 hown hK hP 0 rfl rfl 6 (by decide) (hts (.fieldLink RX7 22 "ChargeStagesModel" "text" "[C") (List.mem_of_getElem? (i := 1) rfl)) rfl dX7_takesNumber_14 ?_
    refine lv_aload_n hx hb dX7_takesNumber_17 rfl (lv_at hl 0 rfl) ?_
    refine g_get (ci := 7) (v := .int (o 3)) (C := RX7) (T := TX7) (N := 12) hx hb hts hinX7 hown hK hP 0 rfl rfl 8 (by decide) (hts (.fieldLink RX7 129 "ChargeStagesModel" "at" "I") (List.mem_of_getElem? (i := 2) rfl)) rfl dX7_takesNumber_18 ?_
    obtain ⟨k4, hok⟩ := hok
    refine g_ldc (n := 60) (f := tx) (v := tx ((o 3).toNatClampNeg)) (k := ((o 3).toNatClampNeg)) hx hb hK hP 1 rfl rfl k4 rfl dX7_takesNumber_21 ?_
    refine lv_bipush (v := 48) hx hb dX7_takesNumber_22 (by decide) ?_
    refine lv_isub hx hb dX7_takesNumber_24 ?_
    refine g_put (ci := 7) (v := .int ((tx ((o 3).toNatClampNeg)) - 48)) (ty := .int) (C := RX7) (T := TX7) (N := 12) (B2 := [MO G mm (upd o 4 ((tx ((o 3).toNatClampNeg)) - 48)), CX G (mm 5) tx]) hx hb hts hinX7 tyX7 tyX7_ok nmX7 hown hK hP hD hS 0 rfl rfl 9 (by decide) (hts (.fieldLink RX7 135 "ChargeStagesModel" "number" "I") (List.mem_of_getElem? (i := 3) rfl)) rfl (by decide +kernel) rfl rfl (Nat.le_of_ble_eq_true rfl) rfl dX7_takesNumber_25 (fun H locs hP hD hS => ?_)
    refine lv_aload_n hx hb dX7_takesNumber_28 rfl (lv_at hl 0 rfl) ?_
    refine lv_dup hx hb dX7_takesNumber_29 rfl ?_
    refine g_get (ci := 7) (v := .int (o 3)) (C := RX7) (T := TX7) (N := 12) hx hb hts hinX7 hown hK hP 0 rfl rfl 8 (by decide) (hts (.fieldLink RX7 129 "ChargeStagesModel" "at" "I") (List.mem_of_getElem? (i := 2) rfl)) rfl dX7_takesNumber_30 ?_
    refine lv_iconst (v := 1) hx hb dX7_takesNumber_33 (by decide) ?_
    refine lv_iadd hx hb dX7_takesNumber_34 ?_
    refine g_put (ci := 7) (v := .int ((o 3) + 1)) (ty := .int) (C := RX7) (T := TX7) (N := 12) (B2 := [MO G mm (upd (upd o 4 ((tx ((o 3).toNatClampNeg)) - 48)) 3 ((o 3) + 1)), CX G (mm 5) tx]) hx hb hts hinX7 tyX7 tyX7_ok nmX7 hown hK hP hD hS 0 rfl rfl 8 (by decide) (hts (.fieldLink RX7 129 "ChargeStagesModel" "at" "I") (List.mem_of_getElem? (i := 2) rfl)) rfl (by decide +kernel) rfl rfl (Nat.le_of_ble_eq_true rfl) rfl dX7_takesNumber_35 (fun H locs hP hD hS => ?_)
    refine lv_iconst (v := 1) hx hb dX7_takesNumber_38 (by decide) ?_
    refine lv_istore_n (lv' := [(2, .int 1), (0, .ref (mm 0)), (1, .int p1)]) hx hb dX7_takesNumber_39 rfl hl (by decide) rfl (fun ls hl => ?_)
    have lp40 : ∀ (n : Nat) (x40_2 : Int32) (w40_0 : (Nat → Int32)) (H : Heap) (locs : List Loc) (ls : Array Slot), R = fl_X7_takesNumber_40 tx n x40_2 w40_0 → okl_X7_takesNumber_40 tx n x40_2 w40_0 → va_P G.1 vwCl (List.flatten [MO G mm w40_0, CX G (mm 5) tx]) H → va_D A (List.flatten [MO G mm w40_0, CX G (mm 5) tx]) → va_S A s.heap H locs → lv_has ls 3 [(0, .ref (mm 0)), (1, .int p1), (2, .int x40_2)] → W p l e { frames := 2, cells := 0, slots := 0, locals := 44 } s m (List.toArray [.ref (mm 0), .int p1]) below meth c H locs 0 0 (gQ G below (List.toArray [.ref (mm 0), .int p1]) s (some (.int R.1)) [MO G mm R.2, CX G (mm 5) tx] A) (F0 m 40 ls []) := by
      intro n
      induction n with
      | zero =>
        intro x40_2 w40_0 H locs ls hR hok hP hD hS hl
        rw [okl_X7_takesNumber_40] at hok
        exact hok.elim
      | succ n ih =>
        intro x40_2 w40_0 H locs ls hR hok hP hD hS hl
        rw [fl_X7_takesNumber_40] at hR
        rw [okl_X7_takesNumber_40] at hok
        refine lv_iload_n hx hb dX7_takesNumber_40 rfl (lv_at hl 2 rfl) ?_
        refine lv_iconst (v := 4) hx hb dX7_takesNumber_41 (by decide) ?_
        refine lv_icmp_ge (tgt := 103) hx hb dX7_takesNumber_42 (by decide) (fun c10 => ?_) (fun c10 => ?_)
        · rw [if_pos c10] at hR
          have hok := hok.1 c10
          refine lv_iconst (v := 1) hx hb dX7_takesNumber_103 (by decide) ?_
          subst hR
          exact g_retz hx hb hr hlocks hS rfl dX7_takesNumber_104 rfl hP
        · rw [if_neg c10] at hR
          have hok := hok.2 c10
          refine lv_aload_n hx hb dX7_takesNumber_45 rfl (lv_at hl 0 rfl) ?_
          refine g_get (ci := 7) (v := .int (w40_0 4)) (C := RX7) (T := TX7) (N := 12) hx hb hts hinX7 hown hK hP 0 rfl rfl 9 (by decide) (hts (.fieldLink RX7 135 "ChargeStagesModel" "number" "I") (List.mem_of_getElem? (i := 3) rfl)) rfl dX7_takesNumber_46 ?_
          refine lv_if_le (tgt := 103) hx hb dX7_takesNumber_49 (by decide) (fun c11 => ?_) (fun c11 => ?_)
          · rw [if_pos c11] at hR
            have hok := hok.1 c11
            refine lv_iconst (v := 1) hx hb dX7_takesNumber_103 (by decide) ?_
            subst hR
            exact g_retz hx hb hr hlocks hS rfl dX7_takesNumber_104 rfl hP
          · rw [if_neg c11] at hR
            have hok := hok.2 c11
            refine lv_aload_n hx hb dX7_takesNumber_52 rfl (lv_at hl 0 rfl) ?_
            refine lv_bipush (v := 48) hx hb dX7_takesNumber_53 (by decide) ?_
            refine lv_bipush (v := 57) hx hb dX7_takesNumber_55 (by decide) ?_
            obtain ⟨k13, hok⟩ := hok
            obtain ⟨R12, eR12, hR, hok⟩ := g_let2 hR hok
            refine g_callV (c_X7_sees l G mm w40_0 tx 48 57 R12 eR12 k13) hx hb hml hown hts hK hP hD hS hA gX7_takesNumber_X7_sees rfl (n := 2) (by decide +kernel) rfl ⟨Nat.le_of_ble_eq_true rfl, Nat.le_of_ble_eq_true rfl⟩ [0, 1] rfl (by decide) 0 rfl (ci := 7) rfl hl.1 rfl (Nat.le_of_ble_eq_true rfl) ⟨Nat.zero_le _, Nat.zero_le _⟩ dX7_takesNumber_57 (fun H locs hP hD hS => ?_)
            have hP : va_P G.1 vwCl (List.flatten [MO G mm w40_0, CX G (mm 5) tx]) H := hP
            have hD : va_D A (List.flatten [MO G mm w40_0, CX G (mm 5) tx]) := hD
            refine lv_if_eq (tgt := 103) hx hb dX7_takesNumber_60 (by decide) (fun c14 => ?_) (fun c14 => ?_)
            · rw [if_pos c14] at hR
              have hok := hok.1 c14
              refine lv_iconst (v := 1) hx hb dX7_takesNumber_103 (by decide) ?_
              subst hR
              exact g_retz hx hb hr hlocks hS rfl dX7_takesNumber_104 rfl hP
            · rw [if_neg c14] at hR
              have hok := hok.2 c14
              refine lv_aload_n hx hb dX7_takesNumber_63 rfl (lv_at hl 0 rfl) ?_
              refine lv_bipush (v := 10) hx hb dX7_takesNumber_64 (by decide) ?_
              refine lv_aload_n hx hb dX7_takesNumber_66 rfl (lv_at hl 0 rfl) ?_
              refine g_get (ci := 7) (v := .int (w40_0 4)) (C := RX7) (T := TX7) (N := 12) hx hb hts hinX7 hown hK hP 0 rfl rfl 9 (by decide) (hts (.fieldLink RX7 135 "ChargeStagesModel" "number" "I") (List.mem_of_getElem? (i := 3) rfl)) rfl dX7_takesNumber_67 ?_
              refine lv_imul hx hb dX7_takesNumber_70 ?_
              refine lv_aload_n hx hb dX7_takesNumber_71 rfl (lv_at hl 0 rfl) ?_
              refine g_get (ci := 7) (v := .ref (mm 5)) (C := RX7) (T := TX7) (N := 12) hx hb hts hinX7 hown hK hP 0 rfl rfl 6 (by decide) (hts (.fieldLink RX7 22 "ChargeStagesModel" "text" "[C") (List.mem_of_getElem? (i := 1) rfl)) rfl dX7_takesNumber_72 ?_
              refine lv_aload_n hx hb dX7_takesNumber_75 rfl (lv_at hl 0 rfl) ?_
              refine g_get (ci := 7) (v := .int (w40_0 3)) (C := RX7) (T := TX7) (N := 12) hx hb hts hinX7 hown hK hP 0 rfl rfl 8 (by decide) (hts (.fieldLink RX7 129 "ChargeStagesModel" "at" "I") (List.mem_of_getElem? (i := 2) rfl)) rfl dX7_takesNumber_76 ?_
              obtain ⟨k15, hok⟩ := hok
              refine g_ldc (n := 60) (f := tx) (v := tx ((w40_0 3).toNatClampNeg)) (k := ((w40_0 3).toNatClampNeg)) hx hb hK hP 1 rfl rfl k15 rfl dX7_takesNumber_79 ?_
              refine lv_iadd hx hb dX7_takesNumber_80 ?_
              refine lv_bipush (v := 48) hx hb dX7_takesNumber_81 (by decide) ?_
              refine lv_isub hx hb dX7_takesNumber_83 ?_
              refine g_put (ci := 7) (v := .int (((10 * (w40_0 4)) + (tx ((w40_0 3).toNatClampNeg))) - 48)) (ty := .int) (C := RX7) (T := TX7) (N := 12) (B2 := [MO G mm (upd w40_0 4 (((10 * (w40_0 4)) + (tx ((w40_0 3).toNatClampNeg))) - 48)), CX G (mm 5) tx]) hx hb hts hinX7 tyX7 tyX7_ok nmX7 hown hK hP hD hS 0 rfl rfl 9 (by decide) (hts (.fieldLink RX7 135 "ChargeStagesModel" "number" "I") (List.mem_of_getElem? (i := 3) rfl)) rfl (by decide +kernel) rfl rfl (Nat.le_of_ble_eq_true rfl) rfl dX7_takesNumber_84 (fun H locs hP hD hS => ?_)
              refine lv_aload_n hx hb dX7_takesNumber_87 rfl (lv_at hl 0 rfl) ?_
              refine lv_dup hx hb dX7_takesNumber_88 rfl ?_
              refine g_get (ci := 7) (v := .int (w40_0 3)) (C := RX7) (T := TX7) (N := 12) hx hb hts hinX7 hown hK hP 0 rfl rfl 8 (by decide) (hts (.fieldLink RX7 129 "ChargeStagesModel" "at" "I") (List.mem_of_getElem? (i := 2) rfl)) rfl dX7_takesNumber_89 ?_
              refine lv_iconst (v := 1) hx hb dX7_takesNumber_92 (by decide) ?_
              refine lv_iadd hx hb dX7_takesNumber_93 ?_
              refine g_put (ci := 7) (v := .int ((w40_0 3) + 1)) (ty := .int) (C := RX7) (T := TX7) (N := 12) (B2 := [MO G mm (upd (upd w40_0 4 (((10 * (w40_0 4)) + (tx ((w40_0 3).toNatClampNeg))) - 48)) 3 ((w40_0 3) + 1)), CX G (mm 5) tx]) hx hb hts hinX7 tyX7 tyX7_ok nmX7 hown hK hP hD hS 0 rfl rfl 8 (by decide) (hts (.fieldLink RX7 129 "ChargeStagesModel" "at" "I") (List.mem_of_getElem? (i := 2) rfl)) rfl (by decide +kernel) rfl rfl (Nat.le_of_ble_eq_true rfl) rfl dX7_takesNumber_94 (fun H locs hP hD hS => ?_)
              obtain ⟨v16, ev16, hR, hok⟩ := g_let2 hR hok
              refine lv_iinc (v := v16) (lv' := [(2, .int v16), (0, .ref (mm 0)), (1, .int p1)]) hx hb dX7_takesNumber_97 hl (k := 2) rfl (by subst ev16; rfl) (by decide) rfl (fun ls hl => ?_)
              refine lv_goto (tgt := 40) hx hb dX7_takesNumber_100 (by decide) ?_
              exact ih v16 (upd (upd w40_0 4 (((10 * (w40_0 4)) + (tx ((w40_0 3).toNatClampNeg))) - 48)) 3 ((w40_0 3) + 1)) _ _ _ hR hok hP hD hS (lv_sub hl [1, 2, 0] rfl)
    exact lp40 4 1 (upd (upd o 4 ((tx ((o 3).toNatClampNeg)) - 48)) 3 ((o 3) + 1)) _ _ _ hR hok hP hD hS (lv_sub hl [1, 2, 0] rfl)
  · rw [if_pos c3] at hR
    have hok := hok.1 c3
    refine lv_iconst (v := 0) hx hb dX7_takesNumber_10 (by decide) ?_
    subst hR
    exact g_retz hx hb hr hlocks hS rfl dX7_takesNumber_11 rfl hP
def f_X7_takesStage (o : (Nat → Int32)) (tx : (Nat → Int32)) (fr : (Nat → Int32)) : Int32 × (Nat → Int32) × (Nat → Int32) := (gL ((4 * (o 5))) (fun (v1 : Int32) => (gL (f_X7_takes o tx 99) (fun (R2 : Int32 × (Nat → Int32)) => (if R2.1 = 0 then (gL (f_X7_takes R2.2 tx 118) (fun (R5 : Int32 × (Nat → Int32)) => (if R5.1 = 0 then (gL (f_X7_takes R5.2 tx 114) (fun (R8 : Int32 × (Nat → Int32)) => (if R8.1 = 0 then (0, R8.2, fr) else (gL (f_X7_takesNumber R8.2 tx 48) (fun (R11 : Int32 × (Nat → Int32)) => (if R11.1 = 0 then (0, R11.2, fr) else (gL (upd fr ((v1).toNatClampNeg) 2) (fun (z14 : (Nat → Int32)) => (gL (upd z14 ((v1 + 1).toNatClampNeg) (R11.2 4)) (fun (z16 : (Nat → Int32)) => (gL (upd z16 ((v1 + 2).toNatClampNeg) 0) (fun (z18 : (Nat → Int32)) => (gL (upd z18 ((v1 + 3).toNatClampNeg) 0) (fun (z20 : (Nat → Int32)) => (gL (f_X7_takes R11.2 tx 47) (fun (R22 : Int32 × (Nat → Int32)) => (if R22.1 = 0 then (1, (upd R22.2 5 ((R22.2 5) + 1)), z20) else (gL (f_X7_takesNumber R22.2 tx 49) (fun (R25 : Int32 × (Nat → Int32)) => (if R25.1 = 0 then (0, R25.2, z20) else (gL (upd z20 ((v1 + 3).toNatClampNeg) (R25.2 4)) (fun (z28 : (Nat → Int32)) => (1, (upd R25.2 5 ((R25.2 5) + 1)), z28))))))))))))))))))))))) else (gL (f_X7_takesNumber R5.2 tx 48) (fun (R30 : Int32 × (Nat → Int32)) => (if R30.1 = 0 then (0, R30.2, fr) else (gL (upd fr ((v1).toNatClampNeg) 1) (fun (z33 : (Nat → Int32)) => (gL (upd z33 ((v1 + 1).toNatClampNeg) (R30.2 4)) (fun (z35 : (Nat → Int32)) => (gL (upd z35 ((v1 + 2).toNatClampNeg) 0) (fun (z37 : (Nat → Int32)) => (gL (upd z37 ((v1 + 3).toNatClampNeg) 0) (fun (z39 : (Nat → Int32)) => (gL (f_X7_takes R30.2 tx 58) (fun (R41 : Int32 × (Nat → Int32)) => (if R41.1 = 0 then (0, R41.2, z39) else (gL (f_X7_takesNumber R41.2 tx 48) (fun (R44 : Int32 × (Nat → Int32)) => (if R44.1 = 0 then (0, R44.2, z39) else (gL (upd z39 ((v1 + 2).toNatClampNeg) (R44.2 4)) (fun (z47 : (Nat → Int32)) => (gL (f_X7_takes R44.2 tx 47) (fun (R49 : Int32 × (Nat → Int32)) => (if R49.1 = 0 then (1, (upd R49.2 5 ((R49.2 5) + 1)), z47) else (gL (f_X7_takesNumber R49.2 tx 49) (fun (R52 : Int32 × (Nat → Int32)) => (if R52.1 = 0 then (0, R52.2, z47) else (gL (upd z47 ((v1 + 3).toNatClampNeg) (R52.2 4)) (fun (z55 : (Nat → Int32)) => (1, (upd R52.2 5 ((R52.2 5) + 1)), z55))))))))))))))))))))))))))))))) else (gL (f_X7_takesNumber R2.2 tx 48) (fun (R57 : Int32 × (Nat → Int32)) => (if R57.1 = 0 then (0, R57.2, fr) else (gL (upd fr ((v1).toNatClampNeg) 0) (fun (z60 : (Nat → Int32)) => (gL (upd z60 ((v1 + 1).toNatClampNeg) (R57.2 4)) (fun (z62 : (Nat → Int32)) => (gL (upd z62 ((v1 + 2).toNatClampNeg) 0) (fun (z64 : (Nat → Int32)) => (gL (upd z64 ((v1 + 3).toNatClampNeg) 0) (fun (z66 : (Nat → Int32)) => (gL (f_X7_takes R57.2 tx 58) (fun (R68 : Int32 × (Nat → Int32)) => (if R68.1 = 0 then (0, R68.2, z66) else (gL (f_X7_takesNumber R68.2 tx 48) (fun (R71 : Int32 × (Nat → Int32)) => (if R71.1 = 0 then (0, R71.2, z66) else (gL (upd z66 ((v1 + 2).toNatClampNeg) (R71.2 4)) (fun (z74 : (Nat → Int32)) => (gL (f_X7_takes R71.2 tx 47) (fun (R76 : Int32 × (Nat → Int32)) => (if R76.1 = 0 then (1, (upd R76.2 5 ((R76.2 5) + 1)), z74) else (gL (f_X7_takesNumber R76.2 tx 49) (fun (R79 : Int32 × (Nat → Int32)) => (if R79.1 = 0 then (0, R79.2, z74) else (gL (upd z74 ((v1 + 3).toNatClampNeg) (R79.2 4)) (fun (z82 : (Nat → Int32)) => (1, (upd R79.2 5 ((R79.2 5) + 1)), z82)))))))))))))))))))))))))))))))))
def ok_X7_takesStage (o : (Nat → Int32)) (tx : (Nat → Int32)) (fr : (Nat → Int32)) : Prop := (gL ((4 * (o 5))) (fun (v1 : Int32) => (ok_X7_takes o tx 99) ∧ (gL (f_X7_takes o tx 99) (fun (R2 : Int32 × (Nat → Int32)) => ((R2.1 = 0 → (ok_X7_takes R2.2 tx 118) ∧ (gL (f_X7_takes R2.2 tx 118) (fun (R5 : Int32 × (Nat → Int32)) => ((R5.1 = 0 → (ok_X7_takes R5.2 tx 114) ∧ (gL (f_X7_takes R5.2 tx 114) (fun (R8 : Int32 × (Nat → Int32)) => ((R8.1 = 0 → True) ∧ (¬ R8.1 = 0 → (ok_X7_takesNumber R8.2 tx 48) ∧ (gL (f_X7_takesNumber R8.2 tx 48) (fun (R11 : Int32 × (Nat → Int32)) => ((R11.1 = 0 → True) ∧ (¬ R11.1 = 0 → (vp_in v1 20) ∧ (gL (upd fr ((v1).toNatClampNeg) 2) (fun (z14 : (Nat → Int32)) => (vp_in (v1 + 1) 20) ∧ (gL (upd z14 ((v1 + 1).toNatClampNeg) (R11.2 4)) (fun (z16 : (Nat → Int32)) => (vp_in (v1 + 2) 20) ∧ (gL (upd z16 ((v1 + 2).toNatClampNeg) 0) (fun (z18 : (Nat → Int32)) => (vp_in (v1 + 3) 20) ∧ (gL (upd z18 ((v1 + 3).toNatClampNeg) 0) (fun (z20 : (Nat → Int32)) => (ok_X7_takes R11.2 tx 47) ∧ (gL (f_X7_takes R11.2 tx 47) (fun (R22 : Int32 × (Nat → Int32)) => ((R22.1 = 0 → True) ∧ (¬ R22.1 = 0 → (ok_X7_takesNumber R22.2 tx 49) ∧ (gL (f_X7_takesNumber R22.2 tx 49) (fun (R25 : Int32 × (Nat → Int32)) => ((R25.1 = 0 → True) ∧ (¬ R25.1 = 0 → (vp_in (v1 + 3) 20) ∧ True))))))))))))))))))))))))) ∧ (¬ R5.1 = 0 → (ok_X7_takesNumber R5.2 tx 48) ∧ (gL (f_X7_takesNumber R5.2 tx 48) (fun (R30 : Int32 × (Nat → Int32)) => ((R30.1 = 0 → True) ∧ (¬ R30.1 = 0 → (vp_in v1 20) ∧ (gL (upd fr ((v1).toNatClampNeg) 1) (fun (z33 : (Nat → Int32)) => (vp_in (v1 + 1) 20) ∧ (gL (upd z33 ((v1 + 1).toNatClampNeg) (R30.2 4)) (fun (z35 : (Nat → Int32)) => (vp_in (v1 + 2) 20) ∧ (gL (upd z35 ((v1 + 2).toNatClampNeg) 0) (fun (z37 : (Nat → Int32)) => (vp_in (v1 + 3) 20) ∧ (gL (upd z37 ((v1 + 3).toNatClampNeg) 0) (fun (z39 : (Nat → Int32)) => (ok_X7_takes R30.2 tx 58) ∧ (gL (f_X7_takes R30.2 tx 58) (fun (R41 : Int32 × (Nat → Int32)) => ((R41.1 = 0 → True) ∧ (¬ R41.1 = 0 → (ok_X7_takesNumber R41.2 tx 48) ∧ (gL (f_X7_takesNumber R41.2 tx 48) (fun (R44 : Int32 × (Nat → Int32)) => ((R44.1 = 0 → True) ∧ (¬ R44.1 = 0 → (vp_in (v1 + 2) 20) ∧ (gL (upd z39 ((v1 + 2).toNatClampNeg) (R44.2 4)) (fun (z47 : (Nat → Int32)) => (ok_X7_takes R44.2 tx 47) ∧ (gL (f_X7_takes R44.2 tx 47) (fun (R49 : Int32 × (Nat → Int32)) => ((R49.1 = 0 → True) ∧ (¬ R49.1 = 0 → (ok_X7_takesNumber R49.2 tx 49) ∧ (gL (f_X7_takesNumber R49.2 tx 49) (fun (R52 : Int32 × (Nat → Int32)) => ((R52.1 = 0 → True) ∧ (¬ R52.1 = 0 → (vp_in (v1 + 3) 20) ∧ True))))))))))))))))))))))))))))))))))) ∧ (¬ R2.1 = 0 → (ok_X7_takesNumber R2.2 tx 48) ∧ (gL (f_X7_takesNumber R2.2 tx 48) (fun (R57 : Int32 × (Nat → Int32)) => ((R57.1 = 0 → True) ∧ (¬ R57.1 = 0 → (vp_in v1 20) ∧ (gL (upd fr ((v1).toNatClampNeg) 0) (fun (z60 : (Nat → Int32)) => (vp_in (v1 + 1) 20) ∧ (gL (upd z60 ((v1 + 1).toNatClampNeg) (R57.2 4)) (fun (z62 : (Nat → Int32)) => (vp_in (v1 + 2) 20) ∧ (gL (upd z62 ((v1 + 2).toNatClampNeg) 0) (fun (z64 : (Nat → Int32)) => (vp_in (v1 + 3) 20) ∧ (gL (upd z64 ((v1 + 3).toNatClampNeg) 0) (fun (z66 : (Nat → Int32)) => (ok_X7_takes R57.2 tx 58) ∧ (gL (f_X7_takes R57.2 tx 58) (fun (R68 : Int32 × (Nat → Int32)) => ((R68.1 = 0 → True) ∧ (¬ R68.1 = 0 → (ok_X7_takesNumber R68.2 tx 48) ∧ (gL (f_X7_takesNumber R68.2 tx 48) (fun (R71 : Int32 × (Nat → Int32)) => ((R71.1 = 0 → True) ∧ (¬ R71.1 = 0 → (vp_in (v1 + 2) 20) ∧ (gL (upd z66 ((v1 + 2).toNatClampNeg) (R71.2 4)) (fun (z74 : (Nat → Int32)) => (ok_X7_takes R71.2 tx 47) ∧ (gL (f_X7_takes R71.2 tx 47) (fun (R76 : Int32 × (Nat → Int32)) => ((R76.1 = 0 → True) ∧ (¬ R76.1 = 0 → (ok_X7_takesNumber R76.2 tx 49) ∧ (gL (f_X7_takesNumber R76.2 tx 49) (fun (R79 : Int32 × (Nat → Int32)) => ((R79.1 = 0 → True) ∧ (¬ R79.1 = 0 → (vp_in (v1 + 3) 20) ∧ True))))))))))))))))))))))))))))))))))))
set_option maxHeartbeats 4000000 in
set_option maxRecDepth 100000 in
theorem c_X7_takesStage (l : Launch) (G : gG) (mm : Nat → Nat) (o : (Nat → Int32)) (tx : (Nat → Int32)) (fr : (Nat → Int32)) (R : Int32 × (Nat → Int32) × (Nat → Int32)) (hR : R = f_X7_takesStage o tx fr) (hok : ok_X7_takesStage o tx fr) : CT l G yX7_takesStage wsX7_takesStage 3 66 [.ref (mm 0)] [MO G mm o, CX G (mm 5) tx, AW G (mm 6) 20 fr] (some (.int R.1)) [MO G mm R.2.1, CX G (mm 5) tx, AW G (mm 6) 20 R.2.2] := by
  unfold f_X7_takesStage at hR
  unfold ok_X7_takesStage at hok
  refine CT.of (cc := cX7_takesStage) (maxL := 3) (ret := (some .boolean)) (plainFor_of_name (by decide +kernel)) rfl rfl (Nat.le_of_ble_eq_true rfl) ?_
  intro p e s m below meth c A ls hx hb hml hr hts hown hlocks hK hP hD hA hS hl
  have hown : s.vm.findClass RX7 = some m.cls := hown
  have hl : lv_has ls 3 [(0, .ref (mm 0))] := hl
  have hinX7 : ∀ w ∈ wsX70, w ∈ wsX7_takesStage := fun w h => List.mem_cons_of_mem _ (List.mem_append_right _ h)
  refine lv_iconst (v := 4) hx hb dX7_takesStage_0 (by decide) ?_
  refine lv_aload_n hx hb dX7_takesStage_1 rfl (lv_at hl 0 rfl) ?_
  refine g_get (ci := 7) (v := .int (o 5)) (C := RX7) (T := TX7) (N := 12) hx hb hts hinX7 hown hK hP 0 rfl rfl 11 (by decide) (hts (.fieldLink RX7 138 "ChargeStagesModel" "reads" "I") (List.mem_of_getElem? (i := 1) rfl)) rfl dX7_takesStage_2 ?_
  refine lv_imul hx hb dX7_takesStage_5 ?_
  obtain ⟨v1, ev1, hR, hok⟩ := g_let2 hR hok
  refine g_topE ev1.symm ?_
  refine lv_istore_n (lv' := [(1, .int v1), (0, .ref (mm 0))]) hx hb dX7_takesStage_6 rfl hl (by decide) rfl (fun ls hl => ?_)
  refine lv_aload_n hx hb dX7_takesStage_7 rfl (lv_at hl 1 rfl) ?_
  refine lv_bipush (v := 99) hx hb dX7_takesStage_8 (by decide) ?_
  obtain ⟨k3, hok⟩ := hok
  obtain ⟨R2, eR2, hR, hok⟩ := g_let2 hR hok
  refine g_callV (c_X7_takes l G mm o tx 99 R2 eR2 k3) hx hb hml hown hts hK hP hD hS hA gX7_takesStage_X7_takes rfl (n := 1) (by decide +kernel) rfl ⟨Nat.le_of_ble_eq_true rfl, Nat.le_of_ble_eq_true rfl⟩ [0, 1] rfl (by decide) 0 rfl (ci := 7) rfl hl.1 rfl (Nat.le_of_ble_eq_true rfl) ⟨Nat.zero_le _, Nat.zero_le _⟩ dX7_takesStage_10 (fun H locs hP hD hS => ?_)
  have hP : va_P G.1 vwCl (List.flatten [MO G mm R2.2, CX G (mm 5) tx, AW G (mm 6) 20 fr]) H := hP
  have hD : va_D A (List.flatten [MO G mm R2.2, CX G (mm 5) tx, AW G (mm 6) 20 fr]) := hD
  refine lv_if_eq (tgt := 20) hx hb dX7_takesStage_13 (by decide) (fun c4 => ?_) (fun c4 => ?_)
  · rw [if_pos c4] at hR
    have hok := hok.1 c4
    refine lv_aload_n hx hb dX7_takesStage_20 rfl (lv_at hl 1 rfl) ?_
    refine lv_bipush (v := 118) hx hb dX7_takesStage_21 (by decide) ?_
    obtain ⟨k6, hok⟩ := hok
    obtain ⟨R5, eR5, hR, hok⟩ := g_let2 hR hok
    refine g_callV (c_X7_takes l G mm R2.2 tx 118 R5 eR5 k6) hx hb hml hown hts hK hP hD hS hA gX7_takesStage_X7_takes rfl (n := 1) (by decide +kernel) rfl ⟨Nat.le_of_ble_eq_true rfl, Nat.le_of_ble_eq_true rfl⟩ [0, 1] rfl (by decide) 0 rfl (ci := 7) rfl hl.1 rfl (Nat.le_of_ble_eq_true rfl) ⟨Nat.zero_le _, Nat.zero_le _⟩ dX7_takesStage_23 (fun H locs hP hD hS => ?_)
    have hP : va_P G.1 vwCl (List.flatten [MO G mm R5.2, CX G (mm 5) tx, AW G (mm 6) 20 fr]) H := hP
    have hD : va_D A (List.flatten [MO G mm R5.2, CX G (mm 5) tx, AW G (mm 6) 20 fr]) := hD
    refine lv_if_eq (tgt := 33) hx hb dX7_takesStage_26 (by decide) (fun c7 => ?_) (fun c7 => ?_)
    · rw [if_pos c7] at hR
      have hok := hok.1 c7
      refine lv_aload_n hx hb dX7_takesStage_33 rfl (lv_at hl 1 rfl) ?_
      refine lv_bipush (v := 114) hx hb dX7_takesStage_34 (by decide) ?_
      obtain ⟨k9, hok⟩ := hok
      obtain ⟨R8, eR8, hR, hok⟩ := g_let2 hR hok
      refine g_callV (c_X7_takes l G mm R5.2 tx 114 R8 eR8 k9) hx hb hml hown hts hK hP hD hS hA gX7_takesStage_X7_takes rfl (n := 1) (by decide +kernel) rfl ⟨Nat.le_of_ble_eq_true rfl, Nat.le_of_ble_eq_true rfl⟩ [0, 1] rfl (by decide) 0 rfl (ci := 7) rfl hl.1 rfl (Nat.le_of_ble_eq_true rfl) ⟨Nat.zero_le _, Nat.zero_le _⟩ dX7_takesStage_36 (fun H locs hP hD hS => ?_)
      have hP : va_P G.1 vwCl (List.flatten [MO G mm R8.2, CX G (mm 5) tx, AW G (mm 6) 20 fr]) H := hP
      have hD : va_D A (List.flatten [MO G mm R8.2, CX G (mm 5) tx, AW G (mm 6) 20 fr]) := hD
      refine lv_if_eq (tgt := 46) hx hb dX7_takesStage_39 (by decide) (fun c10 => ?_) (fun c10 => ?_)
      · rw [if_pos c10] at hR
        have hok := hok.1 c10
        refine lv_bipush (v := (-5)) hx hb dX7_takesStage_46 (by decide) ?_
        refine lv_istore_n (lv' := [(2, .int (-5)), (1, .int v1), (0, .ref (mm 0))]) hx hb dX7_takesStage_48 rfl hl (by decide) rfl (fun ls hl => ?_)
        refine lv_iload_n hx hb dX7_takesStage_49 rfl (lv_at hl 0 rfl) ?_
        refine lv_if_lt (tgt := 62) hx hb dX7_takesStage_50 (by decide) (fun _ => ?_) (fun c => absurd c (by decide))
        refine lv_iconst (v := 0) hx hb dX7_takesStage_62 (by decide) ?_
        subst hR
        exact g_retz hx hb hr hlocks hS rfl dX7_takesStage_63 rfl hP
      · rw [if_neg c10] at hR
        have hok := hok.2 c10
        refine lv_iconst (v := 2) hx hb dX7_takesStage_42 (by decide) ?_
        refine lv_goto (tgt := 48) hx hb dX7_takesStage_43 (by decide) ?_
        refine lv_istore_n (lv' := [(2, .int 2), (1, .int v1), (0, .ref (mm 0))]) hx hb dX7_takesStage_48 rfl hl (by decide) rfl (fun ls hl => ?_)
        refine lv_iload_n hx hb dX7_takesStage_49 rfl (lv_at hl 0 rfl) ?_
        refine lv_if_lt (tgt := 62) hx hb dX7_takesStage_50 (by decide) (fun c => absurd c (by decide)) (fun _ => ?_)
        refine lv_aload_n hx hb dX7_takesStage_53 rfl (lv_at hl 2 rfl) ?_
        refine lv_bipush (v := 48) hx hb dX7_takesStage_54 (by decide) ?_
        obtain ⟨k12, hok⟩ := hok
        obtain ⟨R11, eR11, hR, hok⟩ := g_let2 hR hok
        refine g_callV (c_X7_takesNumber l G mm R8.2 tx 48 R11 eR11 k12) hx hb hml hown hts hK hP hD hS hA gX7_takesStage_X7_takesNumber rfl (n := 1) (by decide +kernel) rfl ⟨Nat.le_of_ble_eq_true rfl, Nat.le_of_ble_eq_true rfl⟩ [0, 1] rfl (by decide) 0 rfl (ci := 7) rfl hl.1 rfl (Nat.le_of_ble_eq_true rfl) ⟨Nat.zero_le _, Nat.zero_le _⟩ dX7_takesStage_56 (fun H locs hP hD hS => ?_)
        have hP : va_P G.1 vwCl (List.flatten [MO G mm R11.2, CX G (mm 5) tx, AW G (mm 6) 20 fr]) H := hP
        have hD : va_D A (List.flatten [MO G mm R11.2, CX G (mm 5) tx, AW G (mm 6) 20 fr]) := hD
        refine lv_if_ne (tgt := 64) hx hb dX7_takesStage_59 (by decide) (fun c13 => ?_) (fun c13 => ?_)
        · rw [if_neg c13] at hR
          have hok := hok.2 c13
          refine lv_aload_n hx hb dX7_takesStage_64 rfl (lv_at hl 2 rfl) ?_
          refine g_get (ci := 7) (v := .ref (mm 6)) (C := RX7) (T := TX7) (N := 12) hx hb hts hinX7 hown hK hP 0 rfl rfl 10 (by decide) (hts (.fieldLink RX7 26 "ChargeStagesModel" "read" "[I") (List.mem_of_getElem? (i := 2) rfl)) rfl dX7_takesStage_65 ?_
          refine lv_iload_n hx hb dX7_takesStage_68 rfl (lv_at hl 1 rfl) ?_
          refine lv_iload_n hx hb dX7_takesStage_69 rfl (lv_at hl 0 rfl) ?_
          obtain ⟨k15, hok⟩ := hok
          obtain ⟨z14, ez14, hR, hok⟩ := g_let2 hR hok
          refine g_st (n := 20) (f := fr) (k := ((v1).toNatClampNeg)) (B2 := [MO G mm R11.2, CX G (mm 5) tx, AW G (mm 6) 20 z14]) hx hb hK hP hD hS 2 rfl rfl k15 (by subst ez14; rfl) dX7_takesStage_70 (fun H locs hP hD hS => ?_)
          refine lv_aload_n hx hb dX7_takesStage_71 rfl (lv_at hl 2 rfl) ?_
          refine g_get (ci := 7) (v := .ref (mm 6)) (C := RX7) (T := TX7) (N := 12) hx hb hts hinX7 hown hK hP 0 rfl rfl 10 (by decide) (hts (.fieldLink RX7 26 "ChargeStagesModel" "read" "[I") (List.mem_of_getElem? (i := 2) rfl)) rfl dX7_takesStage_72 ?_
          refine lv_iload_n hx hb dX7_takesStage_75 rfl (lv_at hl 1 rfl) ?_
          refine lv_iconst (v := 1) hx hb dX7_takesStage_76 (by decide) ?_
          refine lv_iadd hx hb dX7_takesStage_77 ?_
          refine lv_aload_n hx hb dX7_takesStage_78 rfl (lv_at hl 2 rfl) ?_
          refine g_get (ci := 7) (v := .int (R11.2 4)) (C := RX7) (T := TX7) (N := 12) hx hb hts hinX7 hown hK hP 0 rfl rfl 9 (by decide) (hts (.fieldLink RX7 135 "ChargeStagesModel" "number" "I") (List.mem_of_getElem? (i := 3) rfl)) rfl dX7_takesStage_79 ?_
          obtain ⟨k17, hok⟩ := hok
          obtain ⟨z16, ez16, hR, hok⟩ := g_let2 hR hok
          refine g_st (n := 20) (f := z14) (k := ((v1 + 1).toNatClampNeg)) (B2 := [MO G mm R11.2, CX G (mm 5) tx, AW G (mm 6) 20 z16]) hx hb hK hP hD hS 2 rfl rfl k17 (by subst ez16; rfl) dX7_takesStage_82 (fun H locs hP hD hS => ?_)
          refine lv_aload_n hx hb dX7_takesStage_83 rfl (lv_at hl 2 rfl) ?_
          refine g_get (ci := 7) (v := .ref (mm 6)) (C := RX7) (T := TX7) (N := 12) hx hb hts hinX7 hown hK hP 0 rfl rfl 10 (by decide) (hts (.fieldLink RX7 26 "ChargeStagesModel" "read" "[I") (List.mem_of_getElem? (i := 2) rfl)) rfl dX7_takesStage_84 ?_
          refine lv_iload_n hx hb dX7_takesStage_87 rfl (lv_at hl 1 rfl) ?_
          refine lv_iconst (v := 2) hx hb dX7_takesStage_88 (by decide) ?_
          refine lv_iadd hx hb dX7_takesStage_89 ?_
          refine lv_iconst (v := 0) hx hb dX7_takesStage_90 (by decide) ?_
          obtain ⟨k19, hok⟩ := hok
          obtain ⟨z18, ez18, hR, hok⟩ := g_let2 hR hok
          refine g_st (n := 20) (f := z16) (k := ((v1 + 2).toNatClampNeg)) (B2 := [MO G mm R11.2, CX G (mm 5) tx, AW G (mm 6) 20 z18]) hx hb hK hP hD hS 2 rfl rfl k19 (by subst ez18; rfl) dX7_takesStage_91 (fun H locs hP hD hS => ?_)
          refine lv_aload_n hx hb dX7_takesStage_92 rfl (lv_at hl 2 rfl) ?_
          refine g_get (ci := 7) (v := .ref (mm 6)) (C := RX7) (T := TX7) (N := 12) hx hb hts hinX7 hown hK hP 0 rfl rfl 10 (by decide) (hts (.fieldLink RX7 26 "ChargeStagesModel" "read" "[I") (List.mem_of_getElem? (i := 2) rfl)) rfl dX7_takesStage_93 ?_
          refine lv_iload_n hx hb dX7_takesStage_96 rfl (lv_at hl 1 rfl) ?_
          refine lv_iconst (v := 3) hx hb dX7_takesStage_97 (by decide) ?_
          refine lv_iadd hx hb dX7_takesStage_98 ?_
          refine lv_iconst (v := 0) hx hb dX7_takesStage_99 (by decide) ?_
          obtain ⟨k21, hok⟩ := hok
          obtain ⟨z20, ez20, hR, hok⟩ := g_let2 hR hok
          refine g_st (n := 20) (f := z18) (k := ((v1 + 3).toNatClampNeg)) (B2 := [MO G mm R11.2, CX G (mm 5) tx, AW G (mm 6) 20 z20]) hx hb hK hP hD hS 2 rfl rfl k21 (by subst ez20; rfl) dX7_takesStage_100 (fun H locs hP hD hS => ?_)
          refine lv_iload_n hx hb dX7_takesStage_101 rfl (lv_at hl 0 rfl) ?_
          refine lv_iconst (v := 2) hx hb dX7_takesStage_102 (by decide) ?_
          refine lv_icmp_ge (tgt := 138) hx hb dX7_takesStage_103 (by decide) (fun _ => ?_) (fun c => absurd c (by decide))
          refine lv_aload_n hx hb dX7_takesStage_138 rfl (lv_at hl 2 rfl) ?_
          refine lv_bipush (v := 47) hx hb dX7_takesStage_139 (by decide) ?_
          obtain ⟨k23, hok⟩ := hok
          obtain ⟨R22, eR22, hR, hok⟩ := g_let2 hR hok
          refine g_callV (c_X7_takes l G mm R11.2 tx 47 R22 eR22 k23) hx hb hml hown hts hK hP hD hS hA gX7_takesStage_X7_takes rfl (n := 1) (by decide +kernel) rfl ⟨Nat.le_of_ble_eq_true rfl, Nat.le_of_ble_eq_true rfl⟩ [0, 1] rfl (by decide) 0 rfl (ci := 7) rfl hl.1 rfl (Nat.le_of_ble_eq_true rfl) ⟨Nat.zero_le _, Nat.zero_le _⟩ dX7_takesStage_141 (fun H locs hP hD hS => ?_)
          have hP : va_P G.1 vwCl (List.flatten [MO G mm R22.2, CX G (mm 5) tx, AW G (mm 6) 20 z20]) H := hP
          have hD : va_D A (List.flatten [MO G mm R22.2, CX G (mm 5) tx, AW G (mm 6) 20 z20]) := hD
          refine lv_if_eq (tgt := 170) hx hb dX7_takesStage_144 (by decide) (fun c24 => ?_) (fun c24 => ?_)
          · rw [if_pos c24] at hR
            have hok := hok.1 c24
            refine lv_aload_n hx hb dX7_takesStage_170 rfl (lv_at hl 2 rfl) ?_
            refine lv_dup hx hb dX7_takesStage_171 rfl ?_
            refine g_get (ci := 7) (v := .int (R22.2 5)) (C := RX7) (T := TX7) (N := 12) hx hb hts hinX7 hown hK hP 0 rfl rfl 11 (by decide) (hts (.fieldLink RX7 138 "ChargeStagesModel" "reads" "I") (List.mem_of_getElem? (i := 1) rfl)) rfl dX7_takesStage_172 ?_
            refine lv_iconst (v := 1) hx hb dX7_takesStage_175 (by decide) ?_
            refine lv_iadd hx hb dX7_takesStage_176 ?_
            refine g_put (ci := 7) (v := .int ((R22.2 5) + 1)) (ty := .int) (C := RX7) (T := TX7) (N := 12) (B2 := [MO G mm (upd R22.2 5 ((R22.2 5) + 1)), CX G (mm 5) tx, AW G (mm 6) 20 z20]) hx hb hts hinX7 tyX7 tyX7_ok nmX7 hown hK hP hD hS 0 rfl rfl 11 (by decide) (hts (.fieldLink RX7 138 "ChargeStagesModel" "reads" "I") (List.mem_of_getElem? (i := 1) rfl)) rfl (by decide +kernel) rfl rfl (Nat.le_of_ble_eq_true rfl) rfl dX7_takesStage_177 (fun H locs hP hD hS => ?_)
            refine lv_iconst (v := 1) hx hb dX7_takesStage_180 (by decide) ?_
            subst hR
            exact g_retz hx hb hr hlocks hS rfl dX7_takesStage_181 rfl hP
          · rw [if_neg c24] at hR
            have hok := hok.2 c24
            refine lv_aload_n hx hb dX7_takesStage_147 rfl (lv_at hl 2 rfl) ?_
            refine lv_bipush (v := 49) hx hb dX7_takesStage_148 (by decide) ?_
            obtain ⟨k26, hok⟩ := hok
            obtain ⟨R25, eR25, hR, hok⟩ := g_let2 hR hok
            refine g_callV (c_X7_takesNumber l G mm R22.2 tx 49 R25 eR25 k26) hx hb hml hown hts hK hP hD hS hA gX7_takesStage_X7_takesNumber rfl (n := 1) (by decide +kernel) rfl ⟨Nat.le_of_ble_eq_true rfl, Nat.le_of_ble_eq_true rfl⟩ [0, 1] rfl (by decide) 0 rfl (ci := 7) rfl hl.1 rfl (Nat.le_of_ble_eq_true rfl) ⟨Nat.zero_le _, Nat.zero_le _⟩ dX7_takesStage_150 (fun H locs hP hD hS => ?_)
            have hP : va_P G.1 vwCl (List.flatten [MO G mm R25.2, CX G (mm 5) tx, AW G (mm 6) 20 z20]) H := hP
            have hD : va_D A (List.flatten [MO G mm R25.2, CX G (mm 5) tx, AW G (mm 6) 20 z20]) := hD
            refine lv_if_ne (tgt := 158) hx hb dX7_takesStage_153 (by decide) (fun c27 => ?_) (fun c27 => ?_)
            · rw [if_neg c27] at hR
              have hok := hok.2 c27
              refine lv_aload_n hx hb dX7_takesStage_158 rfl (lv_at hl 2 rfl) ?_
              refine g_get (ci := 7) (v := .ref (mm 6)) (C := RX7) (T := TX7) (N := 12) hx hb hts hinX7 hown hK hP 0 rfl rfl 10 (by decide) (hts (.fieldLink RX7 26 "ChargeStagesModel" "read" "[I") (List.mem_of_getElem? (i := 2) rfl)) rfl dX7_takesStage_159 ?_
              refine lv_iload_n hx hb dX7_takesStage_162 rfl (lv_at hl 1 rfl) ?_
              refine lv_iconst (v := 3) hx hb dX7_takesStage_163 (by decide) ?_
              refine lv_iadd hx hb dX7_takesStage_164 ?_
              refine lv_aload_n hx hb dX7_takesStage_165 rfl (lv_at hl 2 rfl) ?_
              refine g_get (ci := 7) (v := .int (R25.2 4)) (C := RX7) (T := TX7) (N := 12) hx hb hts hinX7 hown hK hP 0 rfl rfl 9 (by decide) (hts (.fieldLink RX7 135 "ChargeStagesModel" "number" "I") (List.mem_of_getElem? (i := 3) rfl)) rfl dX7_takesStage_166 ?_
              obtain ⟨k29, hok⟩ := hok
              obtain ⟨z28, ez28, hR⟩ := g_let hR
              refine g_st (n := 20) (f := z20) (k := ((v1 + 3).toNatClampNeg)) (B2 := [MO G mm R25.2, CX G (mm 5) tx, AW G (mm 6) 20 z28]) hx hb hK hP hD hS 2 rfl rfl k29 (by subst ez28; rfl) dX7_takesStage_169 (fun H locs hP hD hS => ?_)
              refine lv_aload_n hx hb dX7_takesStage_170 rfl (lv_at hl 2 rfl) ?_
              refine lv_dup hx hb dX7_takesStage_171 rfl ?_
              refine g_get (ci := 7) (v := .int (R25.2 5)) (C := RX7) (T := TX7) (N := 12) hx hb hts hinX7 hown hK hP 0 rfl rfl 11 (by decide) (hts (.fieldLink RX7 138 "ChargeStagesModel" "reads" "I") (List.mem_of_getElem? (i := 1) rfl)) rfl dX7_takesStage_172 ?_
              refine lv_iconst (v := 1) hx hb dX7_takesStage_175 (by decide) ?_
              refine lv_iadd hx hb dX7_takesStage_176 ?_
              refine g_put (ci := 7) (v := .int ((R25.2 5) + 1)) (ty := .int) (C := RX7) (T := TX7) (N := 12) (B2 := [MO G mm (upd R25.2 5 ((R25.2 5) + 1)), CX G (mm 5) tx, AW G (mm 6) 20 z28]) hx hb hts hinX7 tyX7 tyX7_ok nmX7 hown hK hP hD hS 0 rfl rfl 11 (by decide) (hts (.fieldLink RX7 138 "ChargeStagesModel" "reads" "I") (List.mem_of_getElem? (i := 1) rfl)) rfl (by decide +kernel) rfl rfl (Nat.le_of_ble_eq_true rfl) rfl dX7_takesStage_177 (fun H locs hP hD hS => ?_)
              refine lv_iconst (v := 1) hx hb dX7_takesStage_180 (by decide) ?_
              subst hR
              exact g_retz hx hb hr hlocks hS rfl dX7_takesStage_181 rfl hP
            · rw [if_pos c27] at hR
              have hok := hok.1 c27
              refine lv_iconst (v := 0) hx hb dX7_takesStage_156 (by decide) ?_
              subst hR
              exact g_retz hx hb hr hlocks hS rfl dX7_takesStage_157 rfl hP
        · rw [if_pos c13] at hR
          have hok := hok.1 c13
          refine lv_iconst (v := 0) hx hb dX7_takesStage_62 (by decide) ?_
          subst hR
          exact g_retz hx hb hr hlocks hS rfl dX7_takesStage_63 rfl hP
    · rw [if_neg c7] at hR
      have hok := hok.2 c7
      refine lv_iconst (v := 1) hx hb dX7_takesStage_29 (by decide) ?_
      refine lv_goto (tgt := 48) hx hb dX7_takesStage_30 (by decide) ?_
      refine lv_istore_n (lv' := [(2, .int 1), (1, .int v1), (0, .ref (mm 0))]) hx hb dX7_takesStage_48 rfl hl (by decide) rfl (fun ls hl => ?_)
      refine lv_iload_n hx hb dX7_takesStage_49 rfl (lv_at hl 0 rfl) ?_
      refine lv_if_lt (tgt := 62) hx hb dX7_takesStage_50 (by decide) (fun c => absurd c (by decide)) (fun _ => ?_)
      refine lv_aload_n hx hb dX7_takesStage_53 rfl (lv_at hl 2 rfl) ?_
      refine lv_bipush (v := 48) hx hb dX7_takesStage_54 (by decide) ?_
      obtain ⟨k31, hok⟩ := hok
      obtain ⟨R30, eR30, hR, hok⟩ := g_let2 hR hok
      refine g_callV (c_X7_takesNumber l G mm R5.2 tx 48 R30 eR30 k31) hx hb hml hown hts hK hP hD hS hA gX7_takesStage_X7_takesNumber rfl (n := 1) (by decide +kernel) rfl ⟨Nat.le_of_ble_eq_true rfl, Nat.le_of_ble_eq_true rfl⟩ [0, 1] rfl (by decide) 0 rfl (ci := 7) rfl hl.1 rfl (Nat.le_of_ble_eq_true rfl) ⟨Nat.zero_le _, Nat.zero_le _⟩ dX7_takesStage_56 (fun H locs hP hD hS => ?_)
      have hP : va_P G.1 vwCl (List.flatten [MO G mm R30.2, CX G (mm 5) tx, AW G (mm 6) 20 fr]) H := hP
      have hD : va_D A (List.flatten [MO G mm R30.2, CX G (mm 5) tx, AW G (mm 6) 20 fr]) := hD
      refine lv_if_ne (tgt := 64) hx hb dX7_takesStage_59 (by decide) (fun c32 => ?_) (fun c32 => ?_)
      · rw [if_neg c32] at hR
        have hok := hok.2 c32
        refine lv_aload_n hx hb dX7_takesStage_64 rfl (lv_at hl 2 rfl) ?_
        refine g_get (ci := 7) (v := .ref (mm 6)) (C := RX7) (T := TX7) (N := 12) hx hb hts hinX7 hown hK hP 0 rfl rfl 10 (by decide) (hts (.fieldLink RX7 26 "ChargeStagesModel" "read" "[I") (List.mem_of_getElem? (i := 2) rfl)) rfl dX7_takesStage_65 ?_
        refine lv_iload_n hx hb dX7_takesStage_68 rfl (lv_at hl 1 rfl) ?_
        refine lv_iload_n hx hb dX7_takesStage_69 rfl (lv_at hl 0 rfl) ?_
        obtain ⟨k34, hok⟩ := hok
        obtain ⟨z33, ez33, hR, hok⟩ := g_let2 hR hok
        refine g_st (n := 20) (f := fr) (k := ((v1).toNatClampNeg)) (B2 := [MO G mm R30.2, CX G (mm 5) tx, AW G (mm 6) 20 z33]) hx hb hK hP hD hS 2 rfl rfl k34 (by subst ez33; rfl) dX7_takesStage_70 (fun H locs hP hD hS => ?_)
        refine lv_aload_n hx hb dX7_takesStage_71 rfl (lv_at hl 2 rfl) ?_
        refine g_get (ci := 7) (v := .ref (mm 6)) (C := RX7) (T := TX7) (N := 12) hx hb hts hinX7 hown hK hP 0 rfl rfl 10 (by decide) (hts (.fieldLink RX7 26 "ChargeStagesModel" "read" "[I") (List.mem_of_getElem? (i := 2) rfl)) rfl dX7_takesStage_72 ?_
        refine lv_iload_n hx hb dX7_takesStage_75 rfl (lv_at hl 1 rfl) ?_
        refine lv_iconst (v := 1) hx hb dX7_takesStage_76 (by decide) ?_
        refine lv_iadd hx hb dX7_takesStage_77 ?_
        refine lv_aload_n hx hb dX7_takesStage_78 rfl (lv_at hl 2 rfl) ?_
        refine g_get (ci := 7) (v := .int (R30.2 4)) (C := RX7) (T := TX7) (N := 12) hx hb hts hinX7 hown hK hP 0 rfl rfl 9 (by decide) (hts (.fieldLink RX7 135 "ChargeStagesModel" "number" "I") (List.mem_of_getElem? (i := 3) rfl)) rfl dX7_takesStage_79 ?_
        obtain ⟨k36, hok⟩ := hok
        obtain ⟨z35, ez35, hR, hok⟩ := g_let2 hR hok
        refine g_st (n := 20) (f := z33) (k := ((v1 + 1).toNatClampNeg)) (B2 := [MO G mm R30.2, CX G (mm 5) tx, AW G (mm 6) 20 z35]) hx hb hK hP hD hS 2 rfl rfl k36 (by subst ez35; rfl) dX7_takesStage_82 (fun H locs hP hD hS => ?_)
        refine lv_aload_n hx hb dX7_takesStage_83 rfl (lv_at hl 2 rfl) ?_
        refine g_get (ci := 7) (v := .ref (mm 6)) (C := RX7) (T := TX7) (N := 12) hx hb hts hinX7 hown hK hP 0 rfl rfl 10 (by decide) (hts (.fieldLink RX7 26 "ChargeStagesModel" "read" "[I") (List.mem_of_getElem? (i := 2) rfl)) rfl dX7_takesStage_84 ?_
        refine lv_iload_n hx hb dX7_takesStage_87 rfl (lv_at hl 1 rfl) ?_
        refine lv_iconst (v := 2) hx hb dX7_takesStage_88 (by decide) ?_
        refine lv_iadd hx hb dX7_takesStage_89 ?_
        refine lv_iconst (v := 0) hx hb dX7_takesStage_90 (by decide) ?_
        obtain ⟨k38, hok⟩ := hok
        obtain ⟨z37, ez37, hR, hok⟩ := g_let2 hR hok
        refine g_st (n := 20) (f := z35) (k := ((v1 + 2).toNatClampNeg)) (B2 := [MO G mm R30.2, CX G (mm 5) tx, AW G (mm 6) 20 z37]) hx hb hK hP hD hS 2 rfl rfl k38 (by subst ez37; rfl) dX7_takesStage_91 (fun H locs hP hD hS => ?_)
        refine lv_aload_n hx hb dX7_takesStage_92 rfl (lv_at hl 2 rfl) ?_
        refine g_get (ci := 7) (v := .ref (mm 6)) (C := RX7) (T := TX7) (N := 12) hx hb hts hinX7 hown hK hP 0 rfl rfl 10 (by decide) (hts (.fieldLink RX7 26 "ChargeStagesModel" "read" "[I") (List.mem_of_getElem? (i := 2) rfl)) rfl dX7_takesStage_93 ?_
        refine lv_iload_n hx hb dX7_takesStage_96 rfl (lv_at hl 1 rfl) ?_
        refine lv_iconst (v := 3) hx hb dX7_takesStage_97 (by decide) ?_
        refine lv_iadd hx hb dX7_takesStage_98 ?_
        refine lv_iconst (v := 0) hx hb dX7_takesStage_99 (by decide) ?_
        obtain ⟨k40, hok⟩ := hok
        obtain ⟨z39, ez39, hR, hok⟩ := g_let2 hR hok
        refine g_st (n := 20) (f := z37) (k := ((v1 + 3).toNatClampNeg)) (B2 := [MO G mm R30.2, CX G (mm 5) tx, AW G (mm 6) 20 z39]) hx hb hK hP hD hS 2 rfl rfl k40 (by subst ez39; rfl) dX7_takesStage_100 (fun H locs hP hD hS => ?_)
        refine lv_iload_n hx hb dX7_takesStage_101 rfl (lv_at hl 0 rfl) ?_
        refine lv_iconst (v := 2) hx hb dX7_takesStage_102 (by decide) ?_
        refine lv_icmp_ge (tgt := 138) hx hb dX7_takesStage_103 (by decide) (fun c => absurd c (by decide)) (fun _ => ?_)
        refine lv_aload_n hx hb dX7_takesStage_106 rfl (lv_at hl 2 rfl) ?_
        refine lv_bipush (v := 58) hx hb dX7_takesStage_107 (by decide) ?_
        obtain ⟨k42, hok⟩ := hok
        obtain ⟨R41, eR41, hR, hok⟩ := g_let2 hR hok
        refine g_callV (c_X7_takes l G mm R30.2 tx 58 R41 eR41 k42) hx hb hml hown hts hK hP hD hS hA gX7_takesStage_X7_takes rfl (n := 1) (by decide +kernel) rfl ⟨Nat.le_of_ble_eq_true rfl, Nat.le_of_ble_eq_true rfl⟩ [0, 1] rfl (by decide) 0 rfl (ci := 7) rfl hl.1 rfl (Nat.le_of_ble_eq_true rfl) ⟨Nat.zero_le _, Nat.zero_le _⟩ dX7_takesStage_109 (fun H locs hP hD hS => ?_)
        have hP : va_P G.1 vwCl (List.flatten [MO G mm R41.2, CX G (mm 5) tx, AW G (mm 6) 20 z39]) H := hP
        have hD : va_D A (List.flatten [MO G mm R41.2, CX G (mm 5) tx, AW G (mm 6) 20 z39]) := hD
        refine lv_if_eq (tgt := 124) hx hb dX7_takesStage_112 (by decide) (fun c43 => ?_) (fun c43 => ?_)
        · rw [if_pos c43] at hR
          have hok := hok.1 c43
          refine lv_iconst (v := 0) hx hb dX7_takesStage_124 (by decide) ?_
          subst hR
          exact g_retz hx hb hr hlocks hS rfl dX7_takesStage_125 rfl hP
        · rw [if_neg c43] at hR
          have hok := hok.2 c43
          refine lv_aload_n hx hb dX7_takesStage_115 rfl (lv_at hl 2 rfl) ?_
          refine lv_bipush (v := 48) hx hb dX7_takesStage_116 (by decide) ?_
          obtain ⟨k45, hok⟩ := hok
          obtain ⟨R44, eR44, hR, hok⟩ := g_let2 hR hok
          refine g_callV (c_X7_takesNumber l G mm R41.2 tx 48 R44 eR44 k45) hx hb hml hown hts hK hP hD hS hA gX7_takesStage_X7_takesNumber rfl (n := 1) (by decide +kernel) rfl ⟨Nat.le_of_ble_eq_true rfl, Nat.le_of_ble_eq_true rfl⟩ [0, 1] rfl (by decide) 0 rfl (ci := 7) rfl hl.1 rfl (Nat.le_of_ble_eq_true rfl) ⟨Nat.zero_le _, Nat.zero_le _⟩ dX7_takesStage_118 (fun H locs hP hD hS => ?_)
          have hP : va_P G.1 vwCl (List.flatten [MO G mm R44.2, CX G (mm 5) tx, AW G (mm 6) 20 z39]) H := hP
          have hD : va_D A (List.flatten [MO G mm R44.2, CX G (mm 5) tx, AW G (mm 6) 20 z39]) := hD
          refine lv_if_ne (tgt := 126) hx hb dX7_takesStage_121 (by decide) (fun c46 => ?_) (fun c46 => ?_)
          · rw [if_neg c46] at hR
            have hok := hok.2 c46
            refine lv_aload_n hx hb dX7_takesStage_126 rfl (lv_at hl 2 rfl) ?_
            refine g_get (ci := 7) (v := .ref (mm 6)) (C := RX7) (T := TX7) (N := 12) hx hb hts hinX7 hown hK hP 0 rfl rfl 10 (by decide) (hts (.fieldLink RX7 26 "ChargeStagesModel" "read" "[I") (List.mem_of_getElem? (i := 2) rfl)) rfl dX7_takesStage_127 ?_
            refine lv_iload_n hx hb dX7_takesStage_130 rfl (lv_at hl 1 rfl) ?_
            refine lv_iconst (v := 2) hx hb dX7_takesStage_131 (by decide) ?_
            refine lv_iadd hx hb dX7_takesStage_132 ?_
            refine lv_aload_n hx hb dX7_takesStage_133 rfl (lv_at hl 2 rfl) ?_
            refine g_get (ci := 7) (v := .int (R44.2 4)) (C := RX7) (T := TX7) (N := 12) hx hb hts hinX7 hown hK hP 0 rfl rfl 9 (by decide) (hts (.fieldLink RX7 135 "ChargeStagesModel" "number" "I") (List.mem_of_getElem? (i := 3) rfl)) rfl dX7_takesStage_134 ?_
            obtain ⟨k48, hok⟩ := hok
            obtain ⟨z47, ez47, hR, hok⟩ := g_let2 hR hok
            refine g_st (n := 20) (f := z39) (k := ((v1 + 2).toNatClampNeg)) (B2 := [MO G mm R44.2, CX G (mm 5) tx, AW G (mm 6) 20 z47]) hx hb hK hP hD hS 2 rfl rfl k48 (by subst ez47; rfl) dX7_takesStage_137 (fun H locs hP hD hS => ?_)
            refine lv_aload_n hx hb dX7_takesStage_138 rfl (lv_at hl 2 rfl) ?_
            refine lv_bipush (v := 47) hx hb dX7_takesStage_139 (by decide) ?_
            obtain ⟨k50, hok⟩ := hok
            obtain ⟨R49, eR49, hR, hok⟩ := g_let2 hR hok
            refine g_callV (c_X7_takes l G mm R44.2 tx 47 R49 eR49 k50) hx hb hml hown hts hK hP hD hS hA gX7_takesStage_X7_takes rfl (n := 1) (by decide +kernel) rfl ⟨Nat.le_of_ble_eq_true rfl, Nat.le_of_ble_eq_true rfl⟩ [0, 1] rfl (by decide) 0 rfl (ci := 7) rfl hl.1 rfl (Nat.le_of_ble_eq_true rfl) ⟨Nat.zero_le _, Nat.zero_le _⟩ dX7_takesStage_141 (fun H locs hP hD hS => ?_)
            have hP : va_P G.1 vwCl (List.flatten [MO G mm R49.2, CX G (mm 5) tx, AW G (mm 6) 20 z47]) H := hP
            have hD : va_D A (List.flatten [MO G mm R49.2, CX G (mm 5) tx, AW G (mm 6) 20 z47]) := hD
            refine lv_if_eq (tgt := 170) hx hb dX7_takesStage_144 (by decide) (fun c51 => ?_) (fun c51 => ?_)
            · rw [if_pos c51] at hR
              have hok := hok.1 c51
              refine lv_aload_n hx hb dX7_takesStage_170 rfl (lv_at hl 2 rfl) ?_
              refine lv_dup hx hb dX7_takesStage_171 rfl ?_
              refine g_get (ci := 7) (v := .int (R49.2 5)) (C := RX7) (T := TX7) (N := 12) hx hb hts hinX7 hown hK hP 0 rfl rfl 11 (by decide) (hts (.fieldLink RX7 138 "ChargeStagesModel" "reads" "I") (List.mem_of_getElem? (i := 1) rfl)) rfl dX7_takesStage_172 ?_
              refine lv_iconst (v := 1) hx hb dX7_takesStage_175 (by decide) ?_
              refine lv_iadd hx hb dX7_takesStage_176 ?_
              refine g_put (ci := 7) (v := .int ((R49.2 5) + 1)) (ty := .int) (C := RX7) (T := TX7) (N := 12) (B2 := [MO G mm (upd R49.2 5 ((R49.2 5) + 1)), CX G (mm 5) tx, AW G (mm 6) 20 z47]) hx hb hts hinX7 tyX7 tyX7_ok nmX7 hown hK hP hD hS 0 rfl rfl 11 (by decide) (hts (.fieldLink RX7 138 "ChargeStagesModel" "reads" "I") (List.mem_of_getElem? (i := 1) rfl)) rfl (by decide +kernel) rfl rfl (Nat.le_of_ble_eq_true rfl) rfl dX7_takesStage_177 (fun H locs hP hD hS => ?_)
              refine lv_iconst (v := 1) hx hb dX7_takesStage_180 (by decide) ?_
              subst hR
              exact g_retz hx hb hr hlocks hS rfl dX7_takesStage_181 rfl hP
            · rw [if_neg c51] at hR
              have hok := hok.2 c51
              refine lv_aload_n hx hb dX7_takesStage_147 rfl (lv_at hl 2 rfl) ?_
              refine lv_bipush (v := 49) hx hb dX7_takesStage_148 (by decide) ?_
              obtain ⟨k53, hok⟩ := hok
              obtain ⟨R52, eR52, hR, hok⟩ := g_let2 hR hok
              refine g_callV (c_X7_takesNumber l G mm R49.2 tx 49 R52 eR52 k53) hx hb hml hown hts hK hP hD hS hA gX7_takesStage_X7_takesNumber rfl (n := 1) (by decide +kernel) rfl ⟨Nat.le_of_ble_eq_true rfl, Nat.le_of_ble_eq_true rfl⟩ [0, 1] rfl (by decide) 0 rfl (ci := 7) rfl hl.1 rfl (Nat.le_of_ble_eq_true rfl) ⟨Nat.zero_le _, Nat.zero_le _⟩ dX7_takesStage_150 (fun H locs hP hD hS => ?_)
              have hP : va_P G.1 vwCl (List.flatten [MO G mm R52.2, CX G (mm 5) tx, AW G (mm 6) 20 z47]) H := hP
              have hD : va_D A (List.flatten [MO G mm R52.2, CX G (mm 5) tx, AW G (mm 6) 20 z47]) := hD
              refine lv_if_ne (tgt := 158) hx hb dX7_takesStage_153 (by decide) (fun c54 => ?_) (fun c54 => ?_)
              · rw [if_neg c54] at hR
                have hok := hok.2 c54
                refine lv_aload_n hx hb dX7_takesStage_158 rfl (lv_at hl 2 rfl) ?_
                refine g_get (ci := 7) (v := .ref (mm 6)) (C := RX7) (T := TX7) (N := 12) hx hb hts hinX7 hown hK hP 0 rfl rfl 10 (by decide) (hts (.fieldLink RX7 26 "ChargeStagesModel" "read" "[I") (List.mem_of_getElem? (i := 2) rfl)) rfl dX7_takesStage_159 ?_
                refine lv_iload_n hx hb dX7_takesStage_162 rfl (lv_at hl 1 rfl) ?_
                refine lv_iconst (v := 3) hx hb dX7_takesStage_163 (by decide) ?_
                refine lv_iadd hx hb dX7_takesStage_164 ?_
                refine lv_aload_n hx hb dX7_takesStage_165 rfl (lv_at hl 2 rfl) ?_
                refine g_get (ci := 7) (v := .int (R52.2 4)) (C := RX7) (T := TX7) (N := 12) hx hb hts hinX7 hown hK hP 0 rfl rfl 9 (by decide) (hts (.fieldLink RX7 135 "ChargeStagesModel" "number" "I") (List.mem_of_getElem? (i := 3) rfl)) rfl dX7_takesStage_166 ?_
                obtain ⟨k56, hok⟩ := hok
                obtain ⟨z55, ez55, hR⟩ := g_let hR
                refine g_st (n := 20) (f := z47) (k := ((v1 + 3).toNatClampNeg)) (B2 := [MO G mm R52.2, CX G (mm 5) tx, AW G (mm 6) 20 z55]) hx hb hK hP hD hS 2 rfl rfl k56 (by subst ez55; rfl) dX7_takesStage_169 (fun H locs hP hD hS => ?_)
                refine lv_aload_n hx hb dX7_takesStage_170 rfl (lv_at hl 2 rfl) ?_
                refine lv_dup hx hb dX7_takesStage_171 rfl ?_
                refine g_get (ci := 7) (v := .int (R52.2 5)) (C := RX7) (T := TX7) (N := 12) hx hb hts hinX7 hown hK hP 0 rfl rfl 11 (by decide) (hts (.fieldLink RX7 138 "ChargeStagesModel" "reads" "I") (List.mem_of_getElem? (i := 1) rfl)) rfl dX7_takesStage_172 ?_
                refine lv_iconst (v := 1) hx hb dX7_takesStage_175 (by decide) ?_
                refine lv_iadd hx hb dX7_takesStage_176 ?_
                refine g_put (ci := 7) (v := .int ((R52.2 5) + 1)) (ty := .int) (C := RX7) (T := TX7) (N := 12) (B2 := [MO G mm (upd R52.2 5 ((R52.2 5) + 1)), CX G (mm 5) tx, AW G (mm 6) 20 z55]) hx hb hts hinX7 tyX7 tyX7_ok nmX7 hown hK hP hD hS 0 rfl rfl 11 (by decide) (hts (.fieldLink RX7 138 "ChargeStagesModel" "reads" "I") (List.mem_of_getElem? (i := 1) rfl)) rfl (by decide +kernel) rfl rfl (Nat.le_of_ble_eq_true rfl) rfl dX7_takesStage_177 (fun H locs hP hD hS => ?_)
                refine lv_iconst (v := 1) hx hb dX7_takesStage_180 (by decide) ?_
                subst hR
                exact g_retz hx hb hr hlocks hS rfl dX7_takesStage_181 rfl hP
              · rw [if_pos c54] at hR
                have hok := hok.1 c54
                refine lv_iconst (v := 0) hx hb dX7_takesStage_156 (by decide) ?_
                subst hR
                exact g_retz hx hb hr hlocks hS rfl dX7_takesStage_157 rfl hP
          · rw [if_pos c46] at hR
            have hok := hok.1 c46
            refine lv_iconst (v := 0) hx hb dX7_takesStage_124 (by decide) ?_
            subst hR
            exact g_retz hx hb hr hlocks hS rfl dX7_takesStage_125 rfl hP
      · rw [if_pos c32] at hR
        have hok := hok.1 c32
        refine lv_iconst (v := 0) hx hb dX7_takesStage_62 (by decide) ?_
        subst hR
        exact g_retz hx hb hr hlocks hS rfl dX7_takesStage_63 rfl hP
  · rw [if_neg c4] at hR
    have hok := hok.2 c4
    refine lv_iconst (v := 0) hx hb dX7_takesStage_16 (by decide) ?_
    refine lv_goto (tgt := 48) hx hb dX7_takesStage_17 (by decide) ?_
    refine lv_istore_n (lv' := [(2, .int 0), (1, .int v1), (0, .ref (mm 0))]) hx hb dX7_takesStage_48 rfl hl (by decide) rfl (fun ls hl => ?_)
    refine lv_iload_n hx hb dX7_takesStage_49 rfl (lv_at hl 0 rfl) ?_
    refine lv_if_lt (tgt := 62) hx hb dX7_takesStage_50 (by decide) (fun c => absurd c (by decide)) (fun _ => ?_)
    refine lv_aload_n hx hb dX7_takesStage_53 rfl (lv_at hl 2 rfl) ?_
    refine lv_bipush (v := 48) hx hb dX7_takesStage_54 (by decide) ?_
    obtain ⟨k58, hok⟩ := hok
    obtain ⟨R57, eR57, hR, hok⟩ := g_let2 hR hok
    refine g_callV (c_X7_takesNumber l G mm R2.2 tx 48 R57 eR57 k58) hx hb hml hown hts hK hP hD hS hA gX7_takesStage_X7_takesNumber rfl (n := 1) (by decide +kernel) rfl ⟨Nat.le_of_ble_eq_true rfl, Nat.le_of_ble_eq_true rfl⟩ [0, 1] rfl (by decide) 0 rfl (ci := 7) rfl hl.1 rfl (Nat.le_of_ble_eq_true rfl) ⟨Nat.zero_le _, Nat.zero_le _⟩ dX7_takesStage_56 (fun H locs hP hD hS => ?_)
    have hP : va_P G.1 vwCl (List.flatten [MO G mm R57.2, CX G (mm 5) tx, AW G (mm 6) 20 fr]) H := hP
    have hD : va_D A (List.flatten [MO G mm R57.2, CX G (mm 5) tx, AW G (mm 6) 20 fr]) := hD
    refine lv_if_ne (tgt := 64) hx hb dX7_takesStage_59 (by decide) (fun c59 => ?_) (fun c59 => ?_)
    · rw [if_neg c59] at hR
      have hok := hok.2 c59
      refine lv_aload_n hx hb dX7_takesStage_64 rfl (lv_at hl 2 rfl) ?_
      refine g_get (ci := 7) (v := .ref (mm 6)) (C := RX7) (T := TX7) (N := 12) hx hb hts hinX7 hown hK hP 0 rfl rfl 10 (by decide) (hts (.fieldLink RX7 26 "ChargeStagesModel" "read" "[I") (List.mem_of_getElem? (i := 2) rfl)) rfl dX7_takesStage_65 ?_
      refine lv_iload_n hx hb dX7_takesStage_68 rfl (lv_at hl 1 rfl) ?_
      refine lv_iload_n hx hb dX7_takesStage_69 rfl (lv_at hl 0 rfl) ?_
      obtain ⟨k61, hok⟩ := hok
      obtain ⟨z60, ez60, hR, hok⟩ := g_let2 hR hok
      refine g_st (n := 20) (f := fr) (k := ((v1).toNatClampNeg)) (B2 := [MO G mm R57.2, CX G (mm 5) tx, AW G (mm 6) 20 z60]) hx hb hK hP hD hS 2 rfl rfl k61 (by subst ez60; rfl) dX7_takesStage_70 (fun H locs hP hD hS => ?_)
      refine lv_aload_n hx hb dX7_takesStage_71 rfl (lv_at hl 2 rfl) ?_
      refine g_get (ci := 7) (v := .ref (mm 6)) (C := RX7) (T := TX7) (N := 12) hx hb hts hinX7 hown hK hP 0 rfl rfl 10 (by decide) (hts (.fieldLink RX7 26 "ChargeStagesModel" "read" "[I") (List.mem_of_getElem? (i := 2) rfl)) rfl dX7_takesStage_72 ?_
      refine lv_iload_n hx hb dX7_takesStage_75 rfl (lv_at hl 1 rfl) ?_
      refine lv_iconst (v := 1) hx hb dX7_takesStage_76 (by decide) ?_
      refine lv_iadd hx hb dX7_takesStage_77 ?_
      refine lv_aload_n hx hb dX7_takesStage_78 rfl (lv_at hl 2 rfl) ?_
      refine g_get (ci := 7) (v := .int (R57.2 4)) (C := RX7) (T := TX7) (N := 12) hx hb hts hinX7 hown hK hP 0 rfl rfl 9 (by decide) (hts (.fieldLink RX7 135 "ChargeStagesModel" "number" "I") (List.mem_of_getElem? (i := 3) rfl)) rfl dX7_takesStage_79 ?_
      obtain ⟨k63, hok⟩ := hok
      obtain ⟨z62, ez62, hR, hok⟩ := g_let2 hR hok
      refine g_st (n := 20) (f := z60) (k := ((v1 + 1).toNatClampNeg)) (B2 := [MO G mm R57.2, CX G (mm 5) tx, AW G (mm 6) 20 z62]) hx hb hK hP hD hS 2 rfl rfl k63 (by subst ez62; rfl) dX7_takesStage_82 (fun H locs hP hD hS => ?_)
      refine lv_aload_n hx hb dX7_takesStage_83 rfl (lv_at hl 2 rfl) ?_
      refine g_get (ci := 7) (v := .ref (mm 6)) (C := RX7) (T := TX7) (N := 12) hx hb hts hinX7 hown hK hP 0 rfl rfl 10 (by decide) (hts (.fieldLink RX7 26 "ChargeStagesModel" "read" "[I") (List.mem_of_getElem? (i := 2) rfl)) rfl dX7_takesStage_84 ?_
      refine lv_iload_n hx hb dX7_takesStage_87 rfl (lv_at hl 1 rfl) ?_
      refine lv_iconst (v := 2) hx hb dX7_takesStage_88 (by decide) ?_
      refine lv_iadd hx hb dX7_takesStage_89 ?_
      refine lv_iconst (v := 0) hx hb dX7_takesStage_90 (by decide) ?_
      obtain ⟨k65, hok⟩ := hok
      obtain ⟨z64, ez64, hR, hok⟩ := g_let2 hR hok
      refine g_st (n := 20) (f := z62) (k := ((v1 + 2).toNatClampNeg)) (B2 := [MO G mm R57.2, CX G (mm 5) tx, AW G (mm 6) 20 z64]) hx hb hK hP hD hS 2 rfl rfl k65 (by subst ez64; rfl) dX7_takesStage_91 (fun H locs hP hD hS => ?_)
      refine lv_aload_n hx hb dX7_takesStage_92 rfl (lv_at hl 2 rfl) ?_
      refine g_get (ci := 7) (v := .ref (mm 6)) (C := RX7) (T := TX7) (N := 12) hx hb hts hinX7 hown hK hP 0 rfl rfl 10 (by decide) (hts (.fieldLink RX7 26 "ChargeStagesModel" "read" "[I") (List.mem_of_getElem? (i := 2) rfl)) rfl dX7_takesStage_93 ?_
      refine lv_iload_n hx hb dX7_takesStage_96 rfl (lv_at hl 1 rfl) ?_
      refine lv_iconst (v := 3) hx hb dX7_takesStage_97 (by decide) ?_
      refine lv_iadd hx hb dX7_takesStage_98 ?_
      refine lv_iconst (v := 0) hx hb dX7_takesStage_99 (by decide) ?_
      obtain ⟨k67, hok⟩ := hok
      obtain ⟨z66, ez66, hR, hok⟩ := g_let2 hR hok
      refine g_st (n := 20) (f := z64) (k := ((v1 + 3).toNatClampNeg)) (B2 := [MO G mm R57.2, CX G (mm 5) tx, AW G (mm 6) 20 z66]) hx hb hK hP hD hS 2 rfl rfl k67 (by subst ez66; rfl) dX7_takesStage_100 (fun H locs hP hD hS => ?_)
      refine lv_iload_n hx hb dX7_takesStage_101 rfl (lv_at hl 0 rfl) ?_
      refine lv_iconst (v := 2) hx hb dX7_takesStage_102 (by decide) ?_
      refine lv_icmp_ge (tgt := 138) hx hb dX7_takesStage_103 (by decide) (fun c => absurd c (by decide)) (fun _ => ?_)
      refine lv_aload_n hx hb dX7_takesStage_106 rfl (lv_at hl 2 rfl) ?_
      refine lv_bipush (v := 58) hx hb dX7_takesStage_107 (by decide) ?_
      obtain ⟨k69, hok⟩ := hok
      obtain ⟨R68, eR68, hR, hok⟩ := g_let2 hR hok
      refine g_callV (c_X7_takes l G mm R57.2 tx 58 R68 eR68 k69) hx hb hml hown hts hK hP hD hS hA gX7_takesStage_X7_takes rfl (n := 1) (by decide +kernel) rfl ⟨Nat.le_of_ble_eq_true rfl, Nat.le_of_ble_eq_true rfl⟩ [0, 1] rfl (by decide) 0 rfl (ci := 7) rfl hl.1 rfl (Nat.le_of_ble_eq_true rfl) ⟨Nat.zero_le _, Nat.zero_le _⟩ dX7_takesStage_109 (fun H locs hP hD hS => ?_)
      have hP : va_P G.1 vwCl (List.flatten [MO G mm R68.2, CX G (mm 5) tx, AW G (mm 6) 20 z66]) H := hP
      have hD : va_D A (List.flatten [MO G mm R68.2, CX G (mm 5) tx, AW G (mm 6) 20 z66]) := hD
      refine lv_if_eq (tgt := 124) hx hb dX7_takesStage_112 (by decide) (fun c70 => ?_) (fun c70 => ?_)
      · rw [if_pos c70] at hR
        have hok := hok.1 c70
        refine lv_iconst (v := 0) hx hb dX7_takesStage_124 (by decide) ?_
        subst hR
        exact g_retz hx hb hr hlocks hS rfl dX7_takesStage_125 rfl hP
      · rw [if_neg c70] at hR
        have hok := hok.2 c70
        refine lv_aload_n hx hb dX7_takesStage_115 rfl (lv_at hl 2 rfl) ?_
        refine lv_bipush (v := 48) hx hb dX7_takesStage_116 (by decide) ?_
        obtain ⟨k72, hok⟩ := hok
        obtain ⟨R71, eR71, hR, hok⟩ := g_let2 hR hok
        refine g_callV (c_X7_takesNumber l G mm R68.2 tx 48 R71 eR71 k72) hx hb hml hown hts hK hP hD hS hA gX7_takesStage_X7_takesNumber rfl (n := 1) (by decide +kernel) rfl ⟨Nat.le_of_ble_eq_true rfl, Nat.le_of_ble_eq_true rfl⟩ [0, 1] rfl (by decide) 0 rfl (ci := 7) rfl hl.1 rfl (Nat.le_of_ble_eq_true rfl) ⟨Nat.zero_le _, Nat.zero_le _⟩ dX7_takesStage_118 (fun H locs hP hD hS => ?_)
        have hP : va_P G.1 vwCl (List.flatten [MO G mm R71.2, CX G (mm 5) tx, AW G (mm 6) 20 z66]) H := hP
        have hD : va_D A (List.flatten [MO G mm R71.2, CX G (mm 5) tx, AW G (mm 6) 20 z66]) := hD
        refine lv_if_ne (tgt := 126) hx hb dX7_takesStage_121 (by decide) (fun c73 => ?_) (fun c73 => ?_)
        · rw [if_neg c73] at hR
          have hok := hok.2 c73
          refine lv_aload_n hx hb dX7_takesStage_126 rfl (lv_at hl 2 rfl) ?_
          refine g_get (ci := 7) (v := .ref (mm 6)) (C := RX7) (T := TX7) (N := 12) hx hb hts hinX7 hown hK hP 0 rfl rfl 10 (by decide) (hts (.fieldLink RX7 26 "ChargeStagesModel" "read" "[I") (List.mem_of_getElem? (i := 2) rfl)) rfl dX7_takesStage_127 ?_
          refine lv_iload_n hx hb dX7_takesStage_130 rfl (lv_at hl 1 rfl) ?_
          refine lv_iconst (v := 2) hx hb dX7_takesStage_131 (by decide) ?_
          refine lv_iadd hx hb dX7_takesStage_132 ?_
          refine lv_aload_n hx hb dX7_takesStage_133 rfl (lv_at hl 2 rfl) ?_
          refine g_get (ci := 7) (v := .int (R71.2 4)) (C := RX7) (T := TX7) (N := 12) hx hb hts hinX7 hown hK hP 0 rfl rfl 9 (by decide) (hts (.fieldLink RX7 135 "ChargeStagesModel" "number" "I") (List.mem_of_getElem? (i := 3) rfl)) rfl dX7_takesStage_134 ?_
          obtain ⟨k75, hok⟩ := hok
          obtain ⟨z74, ez74, hR, hok⟩ := g_let2 hR hok
          refine g_st (n := 20) (f := z66) (k := ((v1 + 2).toNatClampNeg)) (B2 := [MO G mm R71.2, CX G (mm 5) tx, AW G (mm 6) 20 z74]) hx hb hK hP hD hS 2 rfl rfl k75 (by subst ez74; rfl) dX7_takesStage_137 (fun H locs hP hD hS => ?_)
          refine lv_aload_n hx hb dX7_takesStage_138 rfl (lv_at hl 2 rfl) ?_
          refine lv_bipush (v := 47) hx hb dX7_takesStage_139 (by decide) ?_
          obtain ⟨k77, hok⟩ := hok
          obtain ⟨R76, eR76, hR, hok⟩ := g_let2 hR hok
          refine g_callV (c_X7_takes l G mm R71.2 tx 47 R76 eR76 k77) hx hb hml hown hts hK hP hD hS hA gX7_takesStage_X7_takes rfl (n := 1) (by decide +kernel) rfl ⟨Nat.le_of_ble_eq_true rfl, Nat.le_of_ble_eq_true rfl⟩ [0, 1] rfl (by decide) 0 rfl (ci := 7) rfl hl.1 rfl (Nat.le_of_ble_eq_true rfl) ⟨Nat.zero_le _, Nat.zero_le _⟩ dX7_takesStage_141 (fun H locs hP hD hS => ?_)
          have hP : va_P G.1 vwCl (List.flatten [MO G mm R76.2, CX G (mm 5) tx, AW G (mm 6) 20 z74]) H := hP
          have hD : va_D A (List.flatten [MO G mm R76.2, CX G (mm 5) tx, AW G (mm 6) 20 z74]) := hD
          refine lv_if_eq (tgt := 170) hx hb dX7_takesStage_144 (by decide) (fun c78 => ?_) (fun c78 => ?_)
          · rw [if_pos c78] at hR
            have hok := hok.1 c78
            refine lv_aload_n hx hb dX7_takesStage_170 rfl (lv_at hl 2 rfl) ?_
            refine lv_dup hx hb dX7_takesStage_171 rfl ?_
            refine g_get (ci := 7) (v := .int (R76.2 5)) (C := RX7) (T := TX7) (N := 12) hx hb hts hinX7 hown hK hP 0 rfl rfl 11 (by decide) (hts (.fieldLink RX7 138 "ChargeStagesModel" "reads" "I") (List.mem_of_getElem? (i := 1) rfl)) rfl dX7_takesStage_172 ?_
            refine lv_iconst (v := 1) hx hb dX7_takesStage_175 (by decide) ?_
            refine lv_iadd hx hb dX7_takesStage_176 ?_
            refine g_put (ci := 7) (v := .int ((R76.2 5) + 1)) (ty := .int) (C := RX7) (T := TX7) (N := 12) (B2 := [MO G mm (upd R76.2 5 ((R76.2 5) + 1)), CX G (mm 5) tx, AW G (mm 6) 20 z74]) hx hb hts hinX7 tyX7 tyX7_ok nmX7 hown hK hP hD hS 0 rfl rfl 11 (by decide) (hts (.fieldLink RX7 138 "ChargeStagesModel" "reads" "I") (List.mem_of_getElem? (i := 1) rfl)) rfl (by decide +kernel) rfl rfl (Nat.le_of_ble_eq_true rfl) rfl dX7_takesStage_177 (fun H locs hP hD hS => ?_)
            refine lv_iconst (v := 1) hx hb dX7_takesStage_180 (by decide) ?_
            subst hR
            exact g_retz hx hb hr hlocks hS rfl dX7_takesStage_181 rfl hP
          · rw [if_neg c78] at hR
            have hok := hok.2 c78
            refine lv_aload_n hx hb dX7_takesStage_147 rfl (lv_at hl 2 rfl) ?_
            refine lv_bipush (v := 49) hx hb dX7_takesStage_148 (by decide) ?_
            obtain ⟨k80, hok⟩ := hok
            obtain ⟨R79, eR79, hR, hok⟩ := g_let2 hR hok
            refine g_callV (c_X7_takesNumber l G mm R76.2 tx 49 R79 eR79 k80) hx hb hml hown hts hK hP hD hS hA gX7_takesStage_X7_takesNumber rfl (n := 1) (by decide +kernel) rfl ⟨Nat.le_of_ble_eq_true rfl, Nat.le_of_ble_eq_true rfl⟩ [0, 1] rfl (by decide) 0 rfl (ci := 7) rfl hl.1 rfl (Nat.le_of_ble_eq_true rfl) ⟨Nat.zero_le _, Nat.zero_le _⟩ dX7_takesStage_150 (fun H locs hP hD hS => ?_)
            have hP : va_P G.1 vwCl (List.flatten [MO G mm R79.2, CX G (mm 5) tx, AW G (mm 6) 20 z74]) H := hP
            have hD : va_D A (List.flatten [MO G mm R79.2, CX G (mm 5) tx, AW G (mm 6) 20 z74]) := hD
            refine lv_if_ne (tgt := 158) hx hb dX7_takesStage_153 (by decide) (fun c81 => ?_) (fun c81 => ?_)
            · rw [if_neg c81] at hR
              have hok := hok.2 c81
              refine lv_aload_n hx hb dX7_takesStage_158 rfl (lv_at hl 2 rfl) ?_
              refine g_get (ci := 7) (v := .ref (mm 6)) (C := RX7) (T := TX7) (N := 12) hx hb hts hinX7 hown hK hP 0 rfl rfl 10 (by decide) (hts (.fieldLink RX7 26 "ChargeStagesModel" "read" "[I") (List.mem_of_getElem? (i := 2) rfl)) rfl dX7_takesStage_159 ?_
              refine lv_iload_n hx hb dX7_takesStage_162 rfl (lv_at hl 1 rfl) ?_
              refine lv_iconst (v := 3) hx hb dX7_takesStage_163 (by decide) ?_
              refine lv_iadd hx hb dX7_takesStage_164 ?_
              refine lv_aload_n hx hb dX7_takesStage_165 rfl (lv_at hl 2 rfl) ?_
              refine g_get (ci := 7) (v := .int (R79.2 4)) (C := RX7) (T := TX7) (N := 12) hx hb hts hinX7 hown hK hP 0 rfl rfl 9 (by decide) (hts (.fieldLink RX7 135 "ChargeStagesModel" "number" "I") (List.mem_of_getElem? (i := 3) rfl)) rfl dX7_takesStage_166 ?_
              obtain ⟨k83, hok⟩ := hok
              obtain ⟨z82, ez82, hR⟩ := g_let hR
              refine g_st (n := 20) (f := z74) (k := ((v1 + 3).toNatClampNeg)) (B2 := [MO G mm R79.2, CX G (mm 5) tx, AW G (mm 6) 20 z82]) hx hb hK hP hD hS 2 rfl rfl k83 (by subst ez82; rfl) dX7_takesStage_169 (fun H locs hP hD hS => ?_)
              refine lv_aload_n hx hb dX7_takesStage_170 rfl (lv_at hl 2 rfl) ?_
              refine lv_dup hx hb dX7_takesStage_171 rfl ?_
              refine g_get (ci := 7) (v := .int (R79.2 5)) (C := RX7) (T := TX7) (N := 12) hx hb hts hinX7 hown hK hP 0 rfl rfl 11 (by decide) (hts (.fieldLink RX7 138 "ChargeStagesModel" "reads" "I") (List.mem_of_getElem? (i := 1) rfl)) rfl dX7_takesStage_172 ?_
              refine lv_iconst (v := 1) hx hb dX7_takesStage_175 (by decide) ?_
              refine lv_iadd hx hb dX7_takesStage_176 ?_
              refine g_put (ci := 7) (v := .int ((R79.2 5) + 1)) (ty := .int) (C := RX7) (T := TX7) (N := 12) (B2 := [MO G mm (upd R79.2 5 ((R79.2 5) + 1)), CX G (mm 5) tx, AW G (mm 6) 20 z82]) hx hb hts hinX7 tyX7 tyX7_ok nmX7 hown hK hP hD hS 0 rfl rfl 11 (by decide) (hts (.fieldLink RX7 138 "ChargeStagesModel" "reads" "I") (List.mem_of_getElem? (i := 1) rfl)) rfl (by decide +kernel) rfl rfl (Nat.le_of_ble_eq_true rfl) rfl dX7_takesStage_177 (fun H locs hP hD hS => ?_)
              refine lv_iconst (v := 1) hx hb dX7_takesStage_180 (by decide) ?_
              subst hR
              exact g_retz hx hb hr hlocks hS rfl dX7_takesStage_181 rfl hP
            · rw [if_pos c81] at hR
              have hok := hok.1 c81
              refine lv_iconst (v := 0) hx hb dX7_takesStage_156 (by decide) ?_
              subst hR
              exact g_retz hx hb hr hlocks hS rfl dX7_takesStage_157 rfl hP
        · rw [if_pos c73] at hR
          have hok := hok.1 c73
          refine lv_iconst (v := 0) hx hb dX7_takesStage_124 (by decide) ?_
          subst hR
          exact g_retz hx hb hr hlocks hS rfl dX7_takesStage_125 rfl hP
    · rw [if_pos c59] at hR
      have hok := hok.1 c59
      refine lv_iconst (v := 0) hx hb dX7_takesStage_62 (by decide) ?_
      subst hR
      exact g_retz hx hb hr hlocks hS rfl dX7_takesStage_63 rfl hP
def fl_X7_readsText_12 (tx : (Nat → Int32)) : Nat → Int32 → (Nat → Int32) → (Nat → Int32) → Int32 × (Nat → Int32) × (Nat → Int32)
  | 0, _, _, _ => ((0 : Int32), (fun _ => 0), (fun _ => 0))
  | n + 1, x12_1, w12_0, w12_2 => (if x12_1 = 0 then (if (w12_0 3) = (w12_0 2) then (1, w12_0, w12_2) else (0, w12_0, w12_2)) else (gL (f_X7_takesStage w12_0 tx w12_2) (fun (R10 : Int32 × (Nat → Int32) × (Nat → Int32)) => (if R10.1 = 0 then (0, R10.2.1, R10.2.2) else (if 5 ≤ (R10.2.1 5) then (fl_X7_readsText_12 tx n 0 R10.2.1 R10.2.2) else (gL (f_X7_takes R10.2.1 tx 59) (fun (R14 : Int32 × (Nat → Int32)) => (if R14.1 = 0 then (fl_X7_readsText_12 tx n 0 R14.2 R10.2.2) else (fl_X7_readsText_12 tx n 1 R14.2 R10.2.2)))))))))
def okl_X7_readsText_12 (tx : (Nat → Int32)) : Nat → Int32 → (Nat → Int32) → (Nat → Int32) → Prop
  | 0, _, _, _ => False
  | n + 1, x12_1, w12_0, w12_2 => ((x12_1 = 0 → True) ∧ (¬ x12_1 = 0 → (ok_X7_takesStage w12_0 tx w12_2) ∧ (gL (f_X7_takesStage w12_0 tx w12_2) (fun (R10 : Int32 × (Nat → Int32) × (Nat → Int32)) => ((R10.1 = 0 → True) ∧ (¬ R10.1 = 0 → ((5 ≤ (R10.2.1 5) → (okl_X7_readsText_12 tx n 0 R10.2.1 R10.2.2)) ∧ (¬ 5 ≤ (R10.2.1 5) → (ok_X7_takes R10.2.1 tx 59) ∧ (gL (f_X7_takes R10.2.1 tx 59) (fun (R14 : Int32 × (Nat → Int32)) => ((R14.1 = 0 → (okl_X7_readsText_12 tx n 0 R14.2 R10.2.2)) ∧ (¬ R14.1 = 0 → (okl_X7_readsText_12 tx n 1 R14.2 R10.2.2)))))))))))))
def f_X7_readsText (o : (Nat → Int32)) (tx : (Nat → Int32)) (fr : (Nat → Int32)) : Int32 × (Nat → Int32) × (Nat → Int32) := (fl_X7_readsText_12 tx 6 1 (upd (upd o 3 0) 5 0) fr)
def ok_X7_readsText (o : (Nat → Int32)) (tx : (Nat → Int32)) (fr : (Nat → Int32)) : Prop := (okl_X7_readsText_12 tx 6 1 (upd (upd o 3 0) 5 0) fr)
set_option maxHeartbeats 4000000 in
set_option maxRecDepth 100000 in
theorem c_X7_readsText (l : Launch) (G : gG) (mm : Nat → Nat) (o : (Nat → Int32)) (tx : (Nat → Int32)) (fr : (Nat → Int32)) (R : Int32 × (Nat → Int32) × (Nat → Int32)) (hR : R = f_X7_readsText o tx fr) (hok : ok_X7_readsText o tx fr) : CT l G yX7_readsText wsX7_readsText 4 88 [.ref (mm 0)] [MO G mm o, CX G (mm 5) tx, AW G (mm 6) 20 fr] (some (.int R.1)) [MO G mm R.2.1, CX G (mm 5) tx, AW G (mm 6) 20 R.2.2] := by
  unfold f_X7_readsText at hR
  unfold ok_X7_readsText at hok
  refine CT.of (cc := cX7_readsText) (maxL := 2) (ret := (some .boolean)) (plainFor_of_name (by decide +kernel)) rfl rfl (Nat.le_of_ble_eq_true rfl) ?_
  intro p e s m below meth c A ls hx hb hml hr hts hown hlocks hK hP hD hA hS hl
  have hown : s.vm.findClass RX7 = some m.cls := hown
  have hl : lv_has ls 2 [(0, .ref (mm 0))] := hl
  have hinX7 : ∀ w ∈ wsX70, w ∈ wsX7_readsText := fun w h => List.mem_cons_of_mem _ (List.mem_append_right _ h)
  refine lv_aload_n hx hb dX7_readsText_0 rfl (lv_at hl 0 rfl) ?_
  refine lv_iconst (v := 0) hx hb dX7_readsText_1 (by decide) ?_
  refine g_put (ci := 7) (v := .int 0) (ty := .int) (C := RX7) (T := TX7) (N := 12) (B2 := [MO G mm (upd o 3 0), CX G (mm 5) tx, AW G (mm 6) 20 fr]) hx hb hts hinX7 tyX7 tyX7_ok nmX7 hown hK hP hD hS 0 rfl rfl 8 (by decide) (hts (.fieldLink RX7 129 "ChargeStagesModel" "at" "I") (List.mem_of_getElem? (i := 1) rfl)) rfl (by decide +kernel) rfl rfl (Nat.le_of_ble_eq_true rfl) rfl dX7_readsText_2 (fun H locs hP hD hS => ?_)
  refine lv_aload_n hx hb dX7_readsText_5 rfl (lv_at hl 0 rfl) ?_
  refine lv_iconst (v := 0) hx hb dX7_readsText_6 (by decide) ?_
  refine g_put (ci := 7) (v := .int 0) (ty := .int) (C := RX7) (T := TX7) (N := 12) (B2 := [MO G mm (upd (upd o 3 0) 5 0), CX G (mm 5) tx, AW G (mm 6) 20 fr]) hx hb hts hinX7 tyX7 tyX7_ok nmX7 hown hK hP hD hS 0 rfl rfl 11 (by decide) (hts (.fieldLink RX7 138 "ChargeStagesModel" "reads" "I") (List.mem_of_getElem? (i := 2) rfl)) rfl (by decide +kernel) rfl rfl (Nat.le_of_ble_eq_true rfl) rfl dX7_readsText_7 (fun H locs hP hD hS => ?_)
  refine lv_iconst (v := 1) hx hb dX7_readsText_10 (by decide) ?_
  refine lv_istore_n (lv' := [(1, .int 1), (0, .ref (mm 0))]) hx hb dX7_readsText_11 rfl hl (by decide) rfl (fun ls hl => ?_)
  have lp12 : ∀ (n : Nat) (x12_1 : Int32) (w12_0 : (Nat → Int32)) (w12_2 : (Nat → Int32)) (H : Heap) (locs : List Loc) (ls : Array Slot), R = fl_X7_readsText_12 tx n x12_1 w12_0 w12_2 → okl_X7_readsText_12 tx n x12_1 w12_0 w12_2 → va_P G.1 vwCl (List.flatten [MO G mm w12_0, CX G (mm 5) tx, AW G (mm 6) 20 w12_2]) H → va_D A (List.flatten [MO G mm w12_0, CX G (mm 5) tx, AW G (mm 6) 20 w12_2]) → va_S A s.heap H locs → lv_has ls 2 [(0, .ref (mm 0)), (1, .int x12_1)] → W p l e { frames := 4, cells := 0, slots := 0, locals := 88 } s m (List.toArray [.ref (mm 0)]) below meth c H locs 0 0 (gQ G below (List.toArray [.ref (mm 0)]) s (some (.int R.1)) [MO G mm R.2.1, CX G (mm 5) tx, AW G (mm 6) 20 R.2.2] A) (F0 m 12 ls []) := by
    intro n
    induction n with
    | zero =>
      intro x12_1 w12_0 w12_2 H locs ls hR hok hP hD hS hl
      rw [okl_X7_readsText_12] at hok
      exact hok.elim
    | succ n ih =>
      intro x12_1 w12_0 w12_2 H locs ls hR hok hP hD hS hl
      rw [fl_X7_readsText_12] at hR
      rw [okl_X7_readsText_12] at hok
      refine lv_iload_n hx hb dX7_readsText_12 rfl (lv_at hl 1 rfl) ?_
      refine lv_if_eq (tgt := 51) hx hb dX7_readsText_13 (by decide) (fun c8 => ?_) (fun c8 => ?_)
      · rw [if_pos c8] at hR
        have hok := hok.1 c8
        refine lv_aload_n hx hb dX7_readsText_51 rfl (lv_at hl 0 rfl) ?_
        refine g_get (ci := 7) (v := .int (w12_0 3)) (C := RX7) (T := TX7) (N := 12) hx hb hts hinX7 hown hK hP 0 rfl rfl 8 (by decide) (hts (.fieldLink RX7 129 "ChargeStagesModel" "at" "I") (List.mem_of_getElem? (i := 1) rfl)) rfl dX7_readsText_52 ?_
        refine lv_aload_n hx hb dX7_readsText_55 rfl (lv_at hl 0 rfl) ?_
        refine g_get (ci := 7) (v := .int (w12_0 2)) (C := RX7) (T := TX7) (N := 12) hx hb hts hinX7 hown hK hP 0 rfl rfl 7 (by decide) (hts (.fieldLink RX7 126 "ChargeStagesModel" "length" "I") (List.mem_of_getElem? (i := 3) rfl)) rfl dX7_readsText_56 ?_
        refine lv_icmp_ne (tgt := 66) hx hb dX7_readsText_59 (by decide) (fun c9 => ?_) (fun c9 => ?_)
        · rw [if_neg c9] at hR
          refine lv_iconst (v := 0) hx hb dX7_readsText_66 (by decide) ?_
          subst hR
          exact g_retz hx hb hr hlocks hS rfl dX7_readsText_67 rfl hP
        · rw [if_pos c9] at hR
          refine lv_iconst (v := 1) hx hb dX7_readsText_62 (by decide) ?_
          refine lv_goto (tgt := 67) hx hb dX7_readsText_63 (by decide) ?_
          subst hR
          exact g_retz hx hb hr hlocks hS rfl dX7_readsText_67 rfl hP
      · rw [if_neg c8] at hR
        have hok := hok.2 c8
        refine lv_aload_n hx hb dX7_readsText_16 rfl (lv_at hl 0 rfl) ?_
        obtain ⟨k11, hok⟩ := hok
        obtain ⟨R10, eR10, hR, hok⟩ := g_let2 hR hok
        refine g_callV (c_X7_takesStage l G mm w12_0 tx w12_2 R10 eR10 k11) hx hb hml hown hts hK hP hD hS hA gX7_readsText_X7_takesStage rfl (n := 0) (by decide +kernel) rfl ⟨Nat.le_of_ble_eq_true rfl, Nat.le_of_ble_eq_true rfl⟩ [0, 1, 2] rfl (by decide) 0 rfl (ci := 7) rfl hl.1 rfl (Nat.le_of_ble_eq_true rfl) ⟨Nat.zero_le _, Nat.zero_le _⟩ dX7_readsText_17 (fun H locs hP hD hS => ?_)
        have hP : va_P G.1 vwCl (List.flatten [MO G mm R10.2.1, CX G (mm 5) tx, AW G (mm 6) 20 R10.2.2]) H := hP
        have hD : va_D A (List.flatten [MO G mm R10.2.1, CX G (mm 5) tx, AW G (mm 6) 20 R10.2.2]) := hD
        refine lv_if_ne (tgt := 25) hx hb dX7_readsText_20 (by decide) (fun c12 => ?_) (fun c12 => ?_)
        · rw [if_neg c12] at hR
          have hok := hok.2 c12
          refine lv_aload_n hx hb dX7_readsText_25 rfl (lv_at hl 0 rfl) ?_
          refine g_get (ci := 7) (v := .int (R10.2.1 5)) (C := RX7) (T := TX7) (N := 12) hx hb hts hinX7 hown hK hP 0 rfl rfl 11 (by decide) (hts (.fieldLink RX7 138 "ChargeStagesModel" "reads" "I") (List.mem_of_getElem? (i := 2) rfl)) rfl dX7_readsText_26 ?_
          refine lv_iconst (v := 5) hx hb dX7_readsText_29 (by decide) ?_
          refine lv_icmp_ge (tgt := 46) hx hb dX7_readsText_30 (by decide) (fun c13 => ?_) (fun c13 => ?_)
          · rw [if_pos c13] at hR
            have hok := hok.1 c13
            refine lv_iconst (v := 0) hx hb dX7_readsText_46 (by decide) ?_
            refine lv_istore_n (lv' := [(1, .int 0), (0, .ref (mm 0))]) hx hb dX7_readsText_47 rfl hl (by decide) rfl (fun ls hl => ?_)
            refine lv_goto (tgt := 12) hx hb dX7_readsText_48 (by decide) ?_
            exact ih 0 R10.2.1 R10.2.2 _ _ _ hR hok hP hD hS (lv_sub hl [1, 0] rfl)
          · rw [if_neg c13] at hR
            have hok := hok.2 c13
            refine lv_aload_n hx hb dX7_readsText_33 rfl (lv_at hl 0 rfl) ?_
            refine lv_bipush (v := 59) hx hb dX7_readsText_34 (by decide) ?_
            obtain ⟨k15, hok⟩ := hok
            obtain ⟨R14, eR14, hR, hok⟩ := g_let2 hR hok
            refine g_callV (c_X7_takes l G mm R10.2.1 tx 59 R14 eR14 k15) hx hb hml hown hts hK hP hD hS hA gX7_readsText_X7_takes rfl (n := 1) (by decide +kernel) rfl ⟨Nat.le_of_ble_eq_true rfl, Nat.le_of_ble_eq_true rfl⟩ [0, 1] rfl (by decide) 0 rfl (ci := 7) rfl hl.1 rfl (Nat.le_of_ble_eq_true rfl) ⟨Nat.zero_le _, Nat.zero_le _⟩ dX7_readsText_36 (fun H locs hP hD hS => ?_)
            have hP : va_P G.1 vwCl (List.flatten [MO G mm R14.2, CX G (mm 5) tx, AW G (mm 6) 20 R10.2.2]) H := hP
            have hD : va_D A (List.flatten [MO G mm R14.2, CX G (mm 5) tx, AW G (mm 6) 20 R10.2.2]) := hD
            refine lv_if_eq (tgt := 46) hx hb dX7_readsText_39 (by decide) (fun c16 => ?_) (fun c16 => ?_)
            · rw [if_pos c16] at hR
              have hok := hok.1 c16
              refine lv_iconst (v := 0) hx hb dX7_readsText_46 (by decide) ?_
              refine lv_istore_n (lv' := [(1, .int 0), (0, .ref (mm 0))]) hx hb dX7_readsText_47 rfl hl (by decide) rfl (fun ls hl => ?_)
              refine lv_goto (tgt := 12) hx hb dX7_readsText_48 (by decide) ?_
              exact ih 0 R14.2 R10.2.2 _ _ _ hR hok hP hD hS (lv_sub hl [1, 0] rfl)
            · rw [if_neg c16] at hR
              have hok := hok.2 c16
              refine lv_iconst (v := 1) hx hb dX7_readsText_42 (by decide) ?_
              refine lv_goto (tgt := 47) hx hb dX7_readsText_43 (by decide) ?_
              refine lv_istore_n (lv' := [(1, .int 1), (0, .ref (mm 0))]) hx hb dX7_readsText_47 rfl hl (by decide) rfl (fun ls hl => ?_)
              refine lv_goto (tgt := 12) hx hb dX7_readsText_48 (by decide) ?_
              exact ih 1 R14.2 R10.2.2 _ _ _ hR hok hP hD hS (lv_sub hl [1, 0] rfl)
        · rw [if_pos c12] at hR
          have hok := hok.1 c12
          refine lv_iconst (v := 0) hx hb dX7_readsText_23 (by decide) ?_
          subst hR
          exact g_retz hx hb hr hlocks hS rfl dX7_readsText_24 rfl hP
  exact lp12 6 1 (upd (upd o 3 0) 5 0) fr _ _ _ hR hok hP hD hS (lv_sub hl [1, 0] rfl)
def f_X7_isGood (fr : (Nat → Int32)) (p1 : Int32) : Int32 := (gL (fr ((4 * p1).toNatClampNeg)) (fun (v2 : Int32) => (gL (fr (((4 * p1) + 1).toNatClampNeg)) (fun (v4 : Int32) => (gL (fr (((4 * p1) + 2).toNatClampNeg)) (fun (v6 : Int32) => (if v2 = 0 then (gL (f_X7_in v4 1 2000) (fun (R26 : Int32) => (if R26 = 0 then 0 else (gL (f_X7_in v6 3000 4500) (fun (R29 : Int32) => (if R29 = 0 then 0 else (gL (f_X7_in (fr (((4 * p1) + 3).toNatClampNeg)) 0 999) (fun (R33 : Int32) => (if R33 = 0 then 0 else 1))))))))) else (if v2 = 1 then (gL (f_X7_in v4 3000 4500) (fun (R16 : Int32) => (if R16 = 0 then 0 else (gL (f_X7_in v6 0 2000) (fun (R19 : Int32) => (if R19 = 0 then 0 else (gL (f_X7_in (fr (((4 * p1) + 3).toNatClampNeg)) 0 999) (fun (R23 : Int32) => (if R23 = 0 then 0 else 1))))))))) else (gL (f_X7_in v4 1 999) (fun (R9 : Int32) => (if R9 = 0 then 0 else (gL (f_X7_in (fr (((4 * p1) + 3).toNatClampNeg)) 0 999) (fun (R13 : Int32) => (if R13 = 0 then 0 else 1))))))))))))))
def ok_X7_isGood (fr : (Nat → Int32)) (p1 : Int32) : Prop := (vp_in (4 * p1) 20) ∧ (gL (fr ((4 * p1).toNatClampNeg)) (fun (v2 : Int32) => (vp_in ((4 * p1) + 1) 20) ∧ (gL (fr (((4 * p1) + 1).toNatClampNeg)) (fun (v4 : Int32) => (vp_in ((4 * p1) + 2) 20) ∧ (gL (fr (((4 * p1) + 2).toNatClampNeg)) (fun (v6 : Int32) => ((v2 = 0 → (gL (f_X7_in v4 1 2000) (fun (R26 : Int32) => ((R26 = 0 → True) ∧ (¬ R26 = 0 → (gL (f_X7_in v6 3000 4500) (fun (R29 : Int32) => ((R29 = 0 → True) ∧ (¬ R29 = 0 → (vp_in ((4 * p1) + 3) 20) ∧ True))))))))) ∧ (¬ v2 = 0 → ((v2 = 1 → (gL (f_X7_in v4 3000 4500) (fun (R16 : Int32) => ((R16 = 0 → True) ∧ (¬ R16 = 0 → (gL (f_X7_in v6 0 2000) (fun (R19 : Int32) => ((R19 = 0 → True) ∧ (¬ R19 = 0 → (vp_in ((4 * p1) + 3) 20) ∧ True))))))))) ∧ (¬ v2 = 1 → (gL (f_X7_in v4 1 999) (fun (R9 : Int32) => ((R9 = 0 → True) ∧ (¬ R9 = 0 → (vp_in ((4 * p1) + 3) 20) ∧ True))))))))))))))
set_option maxHeartbeats 4000000 in
set_option maxRecDepth 100000 in
theorem c_X7_isGood (l : Launch) (G : gG) (mm : Nat → Nat) (o : (Nat → Int32)) (fr : (Nat → Int32)) (p1 : Int32) (R : Int32) (hR : R = f_X7_isGood fr p1) (hok : ok_X7_isGood fr p1) : CT l G yX7_isGood wsX7_isGood 1 22 [.ref (mm 0), .int p1] [MO G mm o, AW G (mm 6) 20 fr] (some (.int R)) [MO G mm o, AW G (mm 6) 20 fr] := by
  unfold f_X7_isGood at hR
  unfold ok_X7_isGood at hok
  refine CT.of (cc := cX7_isGood) (maxL := 6) (ret := (some .boolean)) (plainFor_of_name (by decide +kernel)) rfl rfl (Nat.le_of_ble_eq_true rfl) ?_
  intro p e s m below meth c A ls hx hb hml hr hts hown hlocks hK hP hD hA hS hl
  have hown : s.vm.findClass RX7 = some m.cls := hown
  have hl : lv_has ls 6 [(0, .ref (mm 0)), (1, .int p1)] := hl
  have hinX7 : ∀ w ∈ wsX70, w ∈ wsX7_isGood := fun w h => List.mem_cons_of_mem _ (List.mem_append_right _ h)
  refine lv_aload_n hx hb dX7_isGood_0 rfl (lv_at hl 0 rfl) ?_
  refine g_get (ci := 7) (v := .ref (mm 6)) (C := RX7) (T := TX7) (N := 12) hx hb hts hinX7 hown hK hP 0 rfl rfl 10 (by decide) (hts (.fieldLink RX7 26 "ChargeStagesModel" "read" "[I") (List.mem_of_getElem? (i := 1) rfl)) rfl dX7_isGood_1 ?_
  refine lv_iconst (v := 4) hx hb dX7_isGood_4 (by decide) ?_
  refine lv_iload_n hx hb dX7_isGood_5 rfl (lv_at hl 1 rfl) ?_
  refine lv_imul hx hb dX7_isGood_6 ?_
  obtain ⟨k1, hok⟩ := hok
  refine g_ld (n := 20) (f := fr) (v := fr ((4 * p1).toNatClampNeg)) (k := ((4 * p1).toNatClampNeg)) hx hb hK hP 1 rfl rfl k1 rfl dX7_isGood_7 ?_
  obtain ⟨v2, ev2, hR, hok⟩ := g_let2 hR hok
  refine g_topE ev2.symm ?_
  refine lv_istore_n (lv' := [(2, .int v2), (0, .ref (mm 0)), (1, .int p1)]) hx hb dX7_isGood_8 rfl hl (by decide) rfl (fun ls hl => ?_)
  refine lv_aload_n hx hb dX7_isGood_9 rfl (lv_at hl 1 rfl) ?_
  refine g_get (ci := 7) (v := .ref (mm 6)) (C := RX7) (T := TX7) (N := 12) hx hb hts hinX7 hown hK hP 0 rfl rfl 10 (by decide) (hts (.fieldLink RX7 26 "ChargeStagesModel" "read" "[I") (List.mem_of_getElem? (i := 1) rfl)) rfl dX7_isGood_10 ?_
  refine lv_iconst (v := 4) hx hb dX7_isGood_13 (by decide) ?_
  refine lv_iload_n hx hb dX7_isGood_14 rfl (lv_at hl 2 rfl) ?_
  refine lv_imul hx hb dX7_isGood_15 ?_
  refine lv_iconst (v := 1) hx hb dX7_isGood_16 (by decide) ?_
  refine lv_iadd hx hb dX7_isGood_17 ?_
  obtain ⟨k3, hok⟩ := hok
  refine g_ld (n := 20) (f := fr) (v := fr (((4 * p1) + 1).toNatClampNeg)) (k := (((4 * p1) + 1).toNatClampNeg)) hx hb hK hP 1 rfl rfl k3 rfl dX7_isGood_18 ?_
  obtain ⟨v4, ev4, hR, hok⟩ := g_let2 hR hok
  refine g_topE ev4.symm ?_
  refine lv_istore_n (lv' := [(3, .int v4), (2, .int v2), (0, .ref (mm 0)), (1, .int p1)]) hx hb dX7_isGood_19 rfl hl (by decide) rfl (fun ls hl => ?_)
  refine lv_aload_n hx hb dX7_isGood_20 rfl (lv_at hl 2 rfl) ?_
  refine g_get (ci := 7) (v := .ref (mm 6)) (C := RX7) (T := TX7) (N := 12) hx hb hts hinX7 hown hK hP 0 rfl rfl 10 (by decide) (hts (.fieldLink RX7 26 "ChargeStagesModel" "read" "[I") (List.mem_of_getElem? (i := 1) rfl)) rfl dX7_isGood_21 ?_
  refine lv_iconst (v := 4) hx hb dX7_isGood_24 (by decide) ?_
  refine lv_iload_n hx hb dX7_isGood_25 rfl (lv_at hl 3 rfl) ?_
  refine lv_imul hx hb dX7_isGood_26 ?_
  refine lv_iconst (v := 2) hx hb dX7_isGood_27 (by decide) ?_
  refine lv_iadd hx hb dX7_isGood_28 ?_
  obtain ⟨k5, hok⟩ := hok
  refine g_ld (n := 20) (f := fr) (v := fr (((4 * p1) + 2).toNatClampNeg)) (k := (((4 * p1) + 2).toNatClampNeg)) hx hb hK hP 1 rfl rfl k5 rfl dX7_isGood_29 ?_
  obtain ⟨v6, ev6, hR, hok⟩ := g_let2 hR hok
  refine g_topE ev6.symm ?_
  refine lv_istore (lv' := [(4, .int v6), (3, .int v4), (2, .int v2), (0, .ref (mm 0)), (1, .int p1)]) hx hb dX7_isGood_30 hl (by decide) rfl (fun ls hl => ?_)
  refine lv_iload_n hx hb dX7_isGood_32 rfl (lv_at hl 2 rfl) ?_
  refine lv_if_ne (tgt := 69) hx hb dX7_isGood_33 (by decide) (fun c7 => ?_) (fun c7 => ?_)
  · rw [if_neg c7] at hR
    have hok := hok.2 c7
    refine lv_iload_n hx hb dX7_isGood_69 rfl (lv_at hl 2 rfl) ?_
    refine lv_iconst (v := 1) hx hb dX7_isGood_70 (by decide) ?_
    refine lv_icmp_ne (tgt := 107) hx hb dX7_isGood_71 (by decide) (fun c8 => ?_) (fun c8 => ?_)
    · rw [if_neg c8] at hR
      have hok := hok.2 c8
      refine lv_iload_n hx hb dX7_isGood_107 rfl (lv_at hl 1 rfl) ?_
      refine lv_iconst (v := 1) hx hb dX7_isGood_108 (by decide) ?_
      refine lv_sipush (v := 999) hx hb dX7_isGood_109 (by decide) ?_
      obtain ⟨R9, eR9, hR, hok⟩ := g_let2 hR hok
      refine g_callS (c_X7_in l G v4 1 999 R9 eR9) hx hb hml hown hts hK hP hD hS hA gX7_isGood_X7_in rfl (n := 3) (by decide +kernel) rfl ⟨Nat.le_of_ble_eq_true rfl, Nat.le_of_ble_eq_true rfl⟩ [] rfl (by decide) hl.1 rfl (Nat.le_of_ble_eq_true rfl) ⟨Nat.zero_le _, Nat.zero_le _⟩ dX7_isGood_112 (fun H locs hP hD hS => ?_)
      have hP : va_P G.1 vwCl (List.flatten [MO G mm o, AW G (mm 6) 20 fr]) H := hP
      have hD : va_D A (List.flatten [MO G mm o, AW G (mm 6) 20 fr]) := hD
      refine lv_istore (lv' := [(5, .int R9), (4, .int v6), (3, .int v4), (2, .int v2), (0, .ref (mm 0)), (1, .int p1)]) hx hb dX7_isGood_115 hl (by decide) rfl (fun ls hl => ?_)
      refine lv_iload hx hb dX7_isGood_117 (lv_at hl 0 rfl) ?_
      refine lv_if_eq (tgt := 146) hx hb dX7_isGood_119 (by decide) (fun c11 => ?_) (fun c11 => ?_)
      · rw [if_pos c11] at hR
        have hok := hok.1 c11
        refine lv_iconst (v := 0) hx hb dX7_isGood_146 (by decide) ?_
        subst hR
        exact g_retz hx hb hr hlocks hS rfl dX7_isGood_147 rfl hP
      · rw [if_neg c11] at hR
        have hok := hok.2 c11
        refine lv_aload_n hx hb dX7_isGood_122 rfl (lv_at hl 4 rfl) ?_
        refine g_get (ci := 7) (v := .ref (mm 6)) (C := RX7) (T := TX7) (N := 12) hx hb hts hinX7 hown hK hP 0 rfl rfl 10 (by decide) (hts (.fieldLink RX7 26 "ChargeStagesModel" "read" "[I") (List.mem_of_getElem? (i := 1) rfl)) rfl dX7_isGood_123 ?_
        refine lv_iconst (v := 4) hx hb dX7_isGood_126 (by decide) ?_
        refine lv_iload_n hx hb dX7_isGood_127 rfl (lv_at hl 5 rfl) ?_
        refine lv_imul hx hb dX7_isGood_128 ?_
        refine lv_iconst (v := 3) hx hb dX7_isGood_129 (by decide) ?_
        refine lv_iadd hx hb dX7_isGood_130 ?_
        obtain ⟨k12, hok⟩ := hok
        refine g_ld (n := 20) (f := fr) (v := fr (((4 * p1) + 3).toNatClampNeg)) (k := (((4 * p1) + 3).toNatClampNeg)) hx hb hK hP 1 rfl rfl k12 rfl dX7_isGood_131 ?_
        refine lv_iconst (v := 0) hx hb dX7_isGood_132 (by decide) ?_
        refine lv_sipush (v := 999) hx hb dX7_isGood_133 (by decide) ?_
        obtain ⟨R13, eR13, hR⟩ := g_let hR
        refine g_callS (c_X7_in l G (fr (((4 * p1) + 3).toNatClampNeg)) 0 999 R13 eR13) hx hb hml hown hts hK hP hD hS hA gX7_isGood_X7_in rfl (n := 3) (by decide +kernel) rfl ⟨Nat.le_of_ble_eq_true rfl, Nat.le_of_ble_eq_true rfl⟩ [] rfl (by decide) hl.1 rfl (Nat.le_of_ble_eq_true rfl) ⟨Nat.zero_le _, Nat.zero_le _⟩ dX7_isGood_136 (fun H locs hP hD hS => ?_)
        have hP : va_P G.1 vwCl (List.flatten [MO G mm o, AW G (mm 6) 20 fr]) H := hP
        have hD : va_D A (List.flatten [MO G mm o, AW G (mm 6) 20 fr]) := hD
        refine lv_if_eq (tgt := 146) hx hb dX7_isGood_139 (by decide) (fun c15 => ?_) (fun c15 => ?_)
        · rw [if_pos c15] at hR
          refine lv_iconst (v := 0) hx hb dX7_isGood_146 (by decide) ?_
          subst hR
          exact g_retz hx hb hr hlocks hS rfl dX7_isGood_147 rfl hP
        · rw [if_neg c15] at hR
          refine lv_iconst (v := 1) hx hb dX7_isGood_142 (by decide) ?_
          refine lv_goto (tgt := 147) hx hb dX7_isGood_143 (by decide) ?_
          subst hR
          exact g_retz hx hb hr hlocks hS rfl dX7_isGood_147 rfl hP
    · rw [if_pos c8] at hR
      have hok := hok.1 c8
      refine lv_iload_n hx hb dX7_isGood_74 rfl (lv_at hl 1 rfl) ?_
      refine lv_sipush (v := 3000) hx hb dX7_isGood_75 (by decide) ?_
      refine lv_sipush (v := 4500) hx hb dX7_isGood_78 (by decide) ?_
      obtain ⟨R16, eR16, hR, hok⟩ := g_let2 hR hok
      refine g_callS (c_X7_in l G v4 3000 4500 R16 eR16) hx hb hml hown hts hK hP hD hS hA gX7_isGood_X7_in rfl (n := 3) (by decide +kernel) rfl ⟨Nat.le_of_ble_eq_true rfl, Nat.le_of_ble_eq_true rfl⟩ [] rfl (by decide) hl.1 rfl (Nat.le_of_ble_eq_true rfl) ⟨Nat.zero_le _, Nat.zero_le _⟩ dX7_isGood_81 (fun H locs hP hD hS => ?_)
      have hP : va_P G.1 vwCl (List.flatten [MO G mm o, AW G (mm 6) 20 fr]) H := hP
      have hD : va_D A (List.flatten [MO G mm o, AW G (mm 6) 20 fr]) := hD
      refine lv_if_eq (tgt := 103) hx hb dX7_isGood_84 (by decide) (fun c18 => ?_) (fun c18 => ?_)
      · rw [if_pos c18] at hR
        have hok := hok.1 c18
        refine lv_iconst (v := 0) hx hb dX7_isGood_103 (by decide) ?_
        refine lv_goto (tgt := 115) hx hb dX7_isGood_104 (by decide) ?_
        refine lv_istore (lv' := [(5, .int 0), (4, .int v6), (3, .int v4), (2, .int v2), (0, .ref (mm 0)), (1, .int p1)]) hx hb dX7_isGood_115 hl (by decide) rfl (fun ls hl => ?_)
        refine lv_iload hx hb dX7_isGood_117 (lv_at hl 0 rfl) ?_
        refine lv_if_eq (tgt := 146) hx hb dX7_isGood_119 (by decide) (fun _ => ?_) (fun c => absurd c (by decide))
        refine lv_iconst (v := 0) hx hb dX7_isGood_146 (by decide) ?_
        subst hR
        exact g_retz hx hb hr hlocks hS rfl dX7_isGood_147 rfl hP
      · rw [if_neg c18] at hR
        have hok := hok.2 c18
        refine lv_iload hx hb dX7_isGood_87 (lv_at hl 0 rfl) ?_
        refine lv_iconst (v := 0) hx hb dX7_isGood_89 (by decide) ?_
        refine lv_sipush (v := 2000) hx hb dX7_isGood_90 (by decide) ?_
        obtain ⟨R19, eR19, hR, hok⟩ := g_let2 hR hok
        refine g_callS (c_X7_in l G v6 0 2000 R19 eR19) hx hb hml hown hts hK hP hD hS hA gX7_isGood_X7_in rfl (n := 3) (by decide +kernel) rfl ⟨Nat.le_of_ble_eq_true rfl, Nat.le_of_ble_eq_true rfl⟩ [] rfl (by decide) hl.1 rfl (Nat.le_of_ble_eq_true rfl) ⟨Nat.zero_le _, Nat.zero_le _⟩ dX7_isGood_93 (fun H locs hP hD hS => ?_)
        have hP : va_P G.1 vwCl (List.flatten [MO G mm o, AW G (mm 6) 20 fr]) H := hP
        have hD : va_D A (List.flatten [MO G mm o, AW G (mm 6) 20 fr]) := hD
        refine lv_if_eq (tgt := 103) hx hb dX7_isGood_96 (by decide) (fun c21 => ?_) (fun c21 => ?_)
        · rw [if_pos c21] at hR
          have hok := hok.1 c21
          refine lv_iconst (v := 0) hx hb dX7_isGood_103 (by decide) ?_
          refine lv_goto (tgt := 115) hx hb dX7_isGood_104 (by decide) ?_
          refine lv_istore (lv' := [(5, .int 0), (4, .int v6), (3, .int v4), (2, .int v2), (0, .ref (mm 0)), (1, .int p1)]) hx hb dX7_isGood_115 hl (by decide) rfl (fun ls hl => ?_)
          refine lv_iload hx hb dX7_isGood_117 (lv_at hl 0 rfl) ?_
          refine lv_if_eq (tgt := 146) hx hb dX7_isGood_119 (by decide) (fun _ => ?_) (fun c => absurd c (by decide))
          refine lv_iconst (v := 0) hx hb dX7_isGood_146 (by decide) ?_
          subst hR
          exact g_retz hx hb hr hlocks hS rfl dX7_isGood_147 rfl hP
        · rw [if_neg c21] at hR
          have hok := hok.2 c21
          refine lv_iconst (v := 1) hx hb dX7_isGood_99 (by decide) ?_
          refine lv_goto (tgt := 115) hx hb dX7_isGood_100 (by decide) ?_
          refine lv_istore (lv' := [(5, .int 1), (4, .int v6), (3, .int v4), (2, .int v2), (0, .ref (mm 0)), (1, .int p1)]) hx hb dX7_isGood_115 hl (by decide) rfl (fun ls hl => ?_)
          refine lv_iload hx hb dX7_isGood_117 (lv_at hl 0 rfl) ?_
          refine lv_if_eq (tgt := 146) hx hb dX7_isGood_119 (by decide) (fun c => absurd c (by decide)) (fun _ => ?_)
          refine lv_aload_n hx hb dX7_isGood_122 rfl (lv_at hl 4 rfl) ?_
          refine g_get (ci := 7) (v := .ref (mm 6)) (C := RX7) (T := TX7) (N := 12) hx hb hts hinX7 hown hK hP 0 rfl rfl 10 (by decide) (hts (.fieldLink RX7 26 "ChargeStagesModel" "read" "[I") (List.mem_of_getElem? (i := 1) rfl)) rfl dX7_isGood_123 ?_
          refine lv_iconst (v := 4) hx hb dX7_isGood_126 (by decide) ?_
          refine lv_iload_n hx hb dX7_isGood_127 rfl (lv_at hl 5 rfl) ?_
          refine lv_imul hx hb dX7_isGood_128 ?_
          refine lv_iconst (v := 3) hx hb dX7_isGood_129 (by decide) ?_
          refine lv_iadd hx hb dX7_isGood_130 ?_
          obtain ⟨k22, hok⟩ := hok
          refine g_ld (n := 20) (f := fr) (v := fr (((4 * p1) + 3).toNatClampNeg)) (k := (((4 * p1) + 3).toNatClampNeg)) hx hb hK hP 1 rfl rfl k22 rfl dX7_isGood_131 ?_
          refine lv_iconst (v := 0) hx hb dX7_isGood_132 (by decide) ?_
          refine lv_sipush (v := 999) hx hb dX7_isGood_133 (by decide) ?_
          obtain ⟨R23, eR23, hR⟩ := g_let hR
          refine g_callS (c_X7_in l G (fr (((4 * p1) + 3).toNatClampNeg)) 0 999 R23 eR23) hx hb hml hown hts hK hP hD hS hA gX7_isGood_X7_in rfl (n := 3) (by decide +kernel) rfl ⟨Nat.le_of_ble_eq_true rfl, Nat.le_of_ble_eq_true rfl⟩ [] rfl (by decide) hl.1 rfl (Nat.le_of_ble_eq_true rfl) ⟨Nat.zero_le _, Nat.zero_le _⟩ dX7_isGood_136 (fun H locs hP hD hS => ?_)
          have hP : va_P G.1 vwCl (List.flatten [MO G mm o, AW G (mm 6) 20 fr]) H := hP
          have hD : va_D A (List.flatten [MO G mm o, AW G (mm 6) 20 fr]) := hD
          refine lv_if_eq (tgt := 146) hx hb dX7_isGood_139 (by decide) (fun c25 => ?_) (fun c25 => ?_)
          · rw [if_pos c25] at hR
            refine lv_iconst (v := 0) hx hb dX7_isGood_146 (by decide) ?_
            subst hR
            exact g_retz hx hb hr hlocks hS rfl dX7_isGood_147 rfl hP
          · rw [if_neg c25] at hR
            refine lv_iconst (v := 1) hx hb dX7_isGood_142 (by decide) ?_
            refine lv_goto (tgt := 147) hx hb dX7_isGood_143 (by decide) ?_
            subst hR
            exact g_retz hx hb hr hlocks hS rfl dX7_isGood_147 rfl hP
  · rw [if_pos c7] at hR
    have hok := hok.1 c7
    refine lv_iload_n hx hb dX7_isGood_36 rfl (lv_at hl 1 rfl) ?_
    refine lv_iconst (v := 1) hx hb dX7_isGood_37 (by decide) ?_
    refine lv_sipush (v := 2000) hx hb dX7_isGood_38 (by decide) ?_
    obtain ⟨R26, eR26, hR, hok⟩ := g_let2 hR hok
    refine g_callS (c_X7_in l G v4 1 2000 R26 eR26) hx hb hml hown hts hK hP hD hS hA gX7_isGood_X7_in rfl (n := 3) (by decide +kernel) rfl ⟨Nat.le_of_ble_eq_true rfl, Nat.le_of_ble_eq_true rfl⟩ [] rfl (by decide) hl.1 rfl (Nat.le_of_ble_eq_true rfl) ⟨Nat.zero_le _, Nat.zero_le _⟩ dX7_isGood_41 (fun H locs hP hD hS => ?_)
    have hP : va_P G.1 vwCl (List.flatten [MO G mm o, AW G (mm 6) 20 fr]) H := hP
    have hD : va_D A (List.flatten [MO G mm o, AW G (mm 6) 20 fr]) := hD
    refine lv_if_eq (tgt := 65) hx hb dX7_isGood_44 (by decide) (fun c28 => ?_) (fun c28 => ?_)
    · rw [if_pos c28] at hR
      have hok := hok.1 c28
      refine lv_iconst (v := 0) hx hb dX7_isGood_65 (by decide) ?_
      refine lv_goto (tgt := 115) hx hb dX7_isGood_66 (by decide) ?_
      refine lv_istore (lv' := [(5, .int 0), (4, .int v6), (3, .int v4), (2, .int v2), (0, .ref (mm 0)), (1, .int p1)]) hx hb dX7_isGood_115 hl (by decide) rfl (fun ls hl => ?_)
      refine lv_iload hx hb dX7_isGood_117 (lv_at hl 0 rfl) ?_
      refine lv_if_eq (tgt := 146) hx hb dX7_isGood_119 (by decide) (fun _ => ?_) (fun c => absurd c (by decide))
      refine lv_iconst (v := 0) hx hb dX7_isGood_146 (by decide) ?_
      subst hR
      exact g_retz hx hb hr hlocks hS rfl dX7_isGood_147 rfl hP
    · rw [if_neg c28] at hR
      have hok := hok.2 c28
      refine lv_iload hx hb dX7_isGood_47 (lv_at hl 0 rfl) ?_
      refine lv_sipush (v := 3000) hx hb dX7_isGood_49 (by decide) ?_
      refine lv_sipush (v := 4500) hx hb dX7_isGood_52 (by decide) ?_
      obtain ⟨R29, eR29, hR, hok⟩ := g_let2 hR hok
      refine g_callS (c_X7_in l G v6 3000 4500 R29 eR29) hx hb hml hown hts hK hP hD hS hA gX7_isGood_X7_in rfl (n := 3) (by decide +kernel) rfl ⟨Nat.le_of_ble_eq_true rfl, Nat.le_of_ble_eq_true rfl⟩ [] rfl (by decide) hl.1 rfl (Nat.le_of_ble_eq_true rfl) ⟨Nat.zero_le _, Nat.zero_le _⟩ dX7_isGood_55 (fun H locs hP hD hS => ?_)
      have hP : va_P G.1 vwCl (List.flatten [MO G mm o, AW G (mm 6) 20 fr]) H := hP
      have hD : va_D A (List.flatten [MO G mm o, AW G (mm 6) 20 fr]) := hD
      refine lv_if_eq (tgt := 65) hx hb dX7_isGood_58 (by decide) (fun c31 => ?_) (fun c31 => ?_)
      · rw [if_pos c31] at hR
        have hok := hok.1 c31
        refine lv_iconst (v := 0) hx hb dX7_isGood_65 (by decide) ?_
        refine lv_goto (tgt := 115) hx hb dX7_isGood_66 (by decide) ?_
        refine lv_istore (lv' := [(5, .int 0), (4, .int v6), (3, .int v4), (2, .int v2), (0, .ref (mm 0)), (1, .int p1)]) hx hb dX7_isGood_115 hl (by decide) rfl (fun ls hl => ?_)
        refine lv_iload hx hb dX7_isGood_117 (lv_at hl 0 rfl) ?_
        refine lv_if_eq (tgt := 146) hx hb dX7_isGood_119 (by decide) (fun _ => ?_) (fun c => absurd c (by decide))
        refine lv_iconst (v := 0) hx hb dX7_isGood_146 (by decide) ?_
        subst hR
        exact g_retz hx hb hr hlocks hS rfl dX7_isGood_147 rfl hP
      · rw [if_neg c31] at hR
        have hok := hok.2 c31
        refine lv_iconst (v := 1) hx hb dX7_isGood_61 (by decide) ?_
        refine lv_goto (tgt := 115) hx hb dX7_isGood_62 (by decide) ?_
        refine lv_istore (lv' := [(5, .int 1), (4, .int v6), (3, .int v4), (2, .int v2), (0, .ref (mm 0)), (1, .int p1)]) hx hb dX7_isGood_115 hl (by decide) rfl (fun ls hl => ?_)
        refine lv_iload hx hb dX7_isGood_117 (lv_at hl 0 rfl) ?_
        refine lv_if_eq (tgt := 146) hx hb dX7_isGood_119 (by decide) (fun c => absurd c (by decide)) (fun _ => ?_)
        refine lv_aload_n hx hb dX7_isGood_122 rfl (lv_at hl 4 rfl) ?_
        refine g_get (ci := 7) (v := .ref (mm 6)) (C := RX7) (T := TX7) (N := 12) hx hb hts hinX7 hown hK hP 0 rfl rfl 10 (by decide) (hts (.fieldLink RX7 26 "ChargeStagesModel" "read" "[I") (List.mem_of_getElem? (i := 1) rfl)) rfl dX7_isGood_123 ?_
        refine lv_iconst (v := 4) hx hb dX7_isGood_126 (by decide) ?_
        refine lv_iload_n hx hb dX7_isGood_127 rfl (lv_at hl 5 rfl) ?_
        refine lv_imul hx hb dX7_isGood_128 ?_
        refine lv_iconst (v := 3) hx hb dX7_isGood_129 (by decide) ?_
        refine lv_iadd hx hb dX7_isGood_130 ?_
        obtain ⟨k32, hok⟩ := hok
        refine g_ld (n := 20) (f := fr) (v := fr (((4 * p1) + 3).toNatClampNeg)) (k := (((4 * p1) + 3).toNatClampNeg)) hx hb hK hP 1 rfl rfl k32 rfl dX7_isGood_131 ?_
        refine lv_iconst (v := 0) hx hb dX7_isGood_132 (by decide) ?_
        refine lv_sipush (v := 999) hx hb dX7_isGood_133 (by decide) ?_
        obtain ⟨R33, eR33, hR⟩ := g_let hR
        refine g_callS (c_X7_in l G (fr (((4 * p1) + 3).toNatClampNeg)) 0 999 R33 eR33) hx hb hml hown hts hK hP hD hS hA gX7_isGood_X7_in rfl (n := 3) (by decide +kernel) rfl ⟨Nat.le_of_ble_eq_true rfl, Nat.le_of_ble_eq_true rfl⟩ [] rfl (by decide) hl.1 rfl (Nat.le_of_ble_eq_true rfl) ⟨Nat.zero_le _, Nat.zero_le _⟩ dX7_isGood_136 (fun H locs hP hD hS => ?_)
        have hP : va_P G.1 vwCl (List.flatten [MO G mm o, AW G (mm 6) 20 fr]) H := hP
        have hD : va_D A (List.flatten [MO G mm o, AW G (mm 6) 20 fr]) := hD
        refine lv_if_eq (tgt := 146) hx hb dX7_isGood_139 (by decide) (fun c35 => ?_) (fun c35 => ?_)
        · rw [if_pos c35] at hR
          refine lv_iconst (v := 0) hx hb dX7_isGood_146 (by decide) ?_
          subst hR
          exact g_retz hx hb hr hlocks hS rfl dX7_isGood_147 rfl hP
        · rw [if_neg c35] at hR
          refine lv_iconst (v := 1) hx hb dX7_isGood_142 (by decide) ?_
          refine lv_goto (tgt := 147) hx hb dX7_isGood_143 (by decide) ?_
          subst hR
          exact g_retz hx hb hr hlocks hS rfl dX7_isGood_147 rfl hP
def fl_X7_doneBy_2 (p1 : Int32) : Nat → Int32 → (Nat → Int32) → Int32 × (Nat → Int32)
  | 0, _, _ => ((0 : Int32), (fun _ => 0))
  | n + 1, x2_2, w2_1 => (if p1 < x2_2 then ((-5), w2_1) else (if (w2_1 73) = 1 then (gL (f_X7_tick w2_1) (fun (R8 : (Nat → Int32)) => (if (R8 73) = 2 then (x2_2, R8) else (gL ((x2_2 + 1)) (fun (v11 : Int32) => (fl_X7_doneBy_2 p1 n v11 R8)))))) else ((-5), w2_1)))
def okl_X7_doneBy_2 (p1 : Int32) : Nat → Int32 → (Nat → Int32) → Prop
  | 0, _, _ => False
  | n + 1, x2_2, w2_1 => ((p1 < x2_2 → True) ∧ (¬ p1 < x2_2 → (((w2_1 73) = 1 → (ok_X7_tick w2_1) ∧ (gL (f_X7_tick w2_1) (fun (R8 : (Nat → Int32)) => (((R8 73) = 2 → True) ∧ (¬ (R8 73) = 2 → (gL ((x2_2 + 1)) (fun (v11 : Int32) => (okl_X7_doneBy_2 p1 n v11 R8)))))))) ∧ (¬ (w2_1 73) = 1 → True))))
def f_X7_doneBy (ft : (Nat → Int32)) (p1 : Int32) : Int32 × (Nat → Int32) := (fl_X7_doneBy_2 p1 2001 1 ft)
def ok_X7_doneBy (ft : (Nat → Int32)) (p1 : Int32) : Prop := (okl_X7_doneBy_2 p1 2001 1 ft)
set_option maxHeartbeats 4000000 in
set_option maxRecDepth 100000 in
theorem c_X7_doneBy (l : Launch) (G : gG) (mm : Nat → Nat) (o : (Nat → Int32)) (ft : (Nat → Int32)) (p1 : Int32) (R : Int32 × (Nat → Int32)) (hR : R = f_X7_doneBy ft p1) (hok : ok_X7_doneBy ft p1) : CT l G yX7_doneBy wsX7_doneBy 7 152 [.ref (mm 0), .int p1] [MO G mm o, AW G (mm 2) 112 ft] (some (.int R.1)) [MO G mm o, AW G (mm 2) 112 R.2] := by
  unfold f_X7_doneBy at hR
  unfold ok_X7_doneBy at hok
  refine CT.of (cc := cX7_doneBy) (maxL := 3) (ret := (some .int)) (plainFor_of_name (by decide +kernel)) rfl rfl (Nat.le_of_ble_eq_true rfl) ?_
  intro p e s m below meth c A ls hx hb hml hr hts hown hlocks hK hP hD hA hS hl
  have hown : s.vm.findClass RX7 = some m.cls := hown
  have hl : lv_has ls 3 [(0, .ref (mm 0)), (1, .int p1)] := hl
  have hinX7 : ∀ w ∈ wsX70, w ∈ wsX7_doneBy := fun w h => List.mem_cons_of_mem _ (List.mem_append_right _ h)
  refine lv_iconst (v := 1) hx hb dX7_doneBy_0 (by decide) ?_
  refine lv_istore_n (lv' := [(2, .int 1), (0, .ref (mm 0)), (1, .int p1)]) hx hb dX7_doneBy_1 rfl hl (by decide) rfl (fun ls hl => ?_)
  have lp2 : ∀ (n : Nat) (x2_2 : Int32) (w2_1 : (Nat → Int32)) (H : Heap) (locs : List Loc) (ls : Array Slot), R = fl_X7_doneBy_2 p1 n x2_2 w2_1 → okl_X7_doneBy_2 p1 n x2_2 w2_1 → va_P G.1 vwCl (List.flatten [MO G mm o, AW G (mm 2) 112 w2_1]) H → va_D A (List.flatten [MO G mm o, AW G (mm 2) 112 w2_1]) → va_S A s.heap H locs → lv_has ls 3 [(0, .ref (mm 0)), (1, .int p1), (2, .int x2_2)] → W p l e { frames := 7, cells := 0, slots := 0, locals := 152 } s m (List.toArray [.ref (mm 0), .int p1]) below meth c H locs 0 0 (gQ G below (List.toArray [.ref (mm 0), .int p1]) s (some (.int R.1)) [MO G mm o, AW G (mm 2) 112 R.2] A) (F0 m 2 ls []) := by
    intro n
    induction n with
    | zero =>
      intro x2_2 w2_1 H locs ls hR hok hP hD hS hl
      rw [okl_X7_doneBy_2] at hok
      exact hok.elim
    | succ n ih =>
      intro x2_2 w2_1 H locs ls hR hok hP hD hS hl
      rw [fl_X7_doneBy_2] at hR
      rw [okl_X7_doneBy_2] at hok
      refine lv_iload_n hx hb dX7_doneBy_2 rfl (lv_at hl 2 rfl) ?_
      refine lv_iload_n hx hb dX7_doneBy_3 rfl (lv_at hl 1 rfl) ?_
      refine lv_icmp_gt (tgt := 44) hx hb dX7_doneBy_4 (by decide) (fun c6 => ?_) (fun c6 => ?_)
      · rw [if_pos c6] at hR
        have hok := hok.1 c6
        refine lv_bipush (v := (-5)) hx hb dX7_doneBy_44 (by decide) ?_
        subst hR
        exact g_ret hx hb hr hlocks hS dX7_doneBy_46 rfl hP
      · rw [if_neg c6] at hR
        have hok := hok.2 c6
        refine lv_aload_n hx hb dX7_doneBy_7 rfl (lv_at hl 0 rfl) ?_
        refine g_get (ci := 7) (v := .ref (mm 2)) (C := RX7) (T := TX7) (N := 12) hx hb hts hinX7 hown hK hP 0 rfl rfl 1 (by decide) (hts (.fieldLink RX7 13 "ChargeStagesModel" "trial" "[I") (List.mem_of_getElem? (i := 1) rfl)) rfl dX7_doneBy_8 ?_
        refine lv_bipush (v := 73) hx hb dX7_doneBy_11 (by decide) ?_
        refine g_ld (n := 112) (f := w2_1) (v := w2_1 73) (k := 73) hx hb hK hP 1 rfl (by decide) (by unfold vp_in; decide) rfl dX7_doneBy_13 ?_
        refine lv_iconst (v := 1) hx hb dX7_doneBy_14 (by decide) ?_
        refine lv_icmp_ne (tgt := 44) hx hb dX7_doneBy_15 (by decide) (fun c7 => ?_) (fun c7 => ?_)
        · rw [if_neg c7] at hR
          have hok := hok.2 c7
          refine lv_bipush (v := (-5)) hx hb dX7_doneBy_44 (by decide) ?_
          subst hR
          exact g_ret hx hb hr hlocks hS dX7_doneBy_46 rfl hP
        · rw [if_pos c7] at hR
          have hok := hok.1 c7
          refine lv_aload_n hx hb dX7_doneBy_18 rfl (lv_at hl 0 rfl) ?_
          refine g_get (ci := 7) (v := .ref (mm 2)) (C := RX7) (T := TX7) (N := 12) hx hb hts hinX7 hown hK hP 0 rfl rfl 1 (by decide) (hts (.fieldLink RX7 13 "ChargeStagesModel" "trial" "[I") (List.mem_of_getElem? (i := 1) rfl)) rfl dX7_doneBy_19 ?_
          obtain ⟨k9, hok⟩ := hok
          obtain ⟨R8, eR8, hR, hok⟩ := g_let2 hR hok
          refine g_callS (c_X7_tick l G (mm 2) w2_1 R8 eR8 k9) hx hb hml hown hts hK hP hD hS hA gX7_doneBy_X7_tick rfl (n := 1) (by decide +kernel) rfl ⟨Nat.le_of_ble_eq_true rfl, Nat.le_of_ble_eq_true rfl⟩ [1] rfl (by decide) hl.1 rfl (Nat.le_of_ble_eq_true rfl) ⟨Nat.zero_le _, Nat.zero_le _⟩ dX7_doneBy_22 (fun H locs hP hD hS => ?_)
          have hP : va_P G.1 vwCl (List.flatten [MO G mm o, AW G (mm 2) 112 R8]) H := hP
          have hD : va_D A (List.flatten [MO G mm o, AW G (mm 2) 112 R8]) := hD
          refine lv_aload_n hx hb dX7_doneBy_25 rfl (lv_at hl 0 rfl) ?_
          refine g_get (ci := 7) (v := .ref (mm 2)) (C := RX7) (T := TX7) (N := 12) hx hb hts hinX7 hown hK hP 0 rfl rfl 1 (by decide) (hts (.fieldLink RX7 13 "ChargeStagesModel" "trial" "[I") (List.mem_of_getElem? (i := 1) rfl)) rfl dX7_doneBy_26 ?_
          refine lv_bipush (v := 73) hx hb dX7_doneBy_29 (by decide) ?_
          refine g_ld (n := 112) (f := R8) (v := R8 73) (k := 73) hx hb hK hP 1 rfl (by decide) (by unfold vp_in; decide) rfl dX7_doneBy_31 ?_
          refine lv_iconst (v := 2) hx hb dX7_doneBy_32 (by decide) ?_
          refine lv_icmp_ne (tgt := 38) hx hb dX7_doneBy_33 (by decide) (fun c10 => ?_) (fun c10 => ?_)
          · rw [if_neg c10] at hR
            have hok := hok.2 c10
            obtain ⟨v11, ev11, hR, hok⟩ := g_let2 hR hok
            refine lv_iinc (v := v11) (lv' := [(2, .int v11), (0, .ref (mm 0)), (1, .int p1)]) hx hb dX7_doneBy_38 hl (k := 2) rfl (by subst ev11; rfl) (by decide) rfl (fun ls hl => ?_)
            refine lv_goto (tgt := 2) hx hb dX7_doneBy_41 (by decide) ?_
            exact ih v11 R8 _ _ _ hR hok hP hD hS (lv_sub hl [1, 2, 0] rfl)
          · rw [if_pos c10] at hR
            have hok := hok.1 c10
            refine lv_iload_n hx hb dX7_doneBy_36 rfl (lv_at hl 2 rfl) ?_
            subst hR
            exact g_ret hx hb hr hlocks hS dX7_doneBy_37 rfl hP
  exact lp2 2001 1 ft _ _ _ hR hok hP hD hS (lv_sub hl [1, 2, 0] rfl)
