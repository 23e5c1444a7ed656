def f_X7_in (p1 : Int32) (p2 : Int32) (p3 : Int32) : Int32 := (if p1 < p2 then 0 else (if p3 < p1 then 0 else 1))
set_option maxHeartbeats 4000000 in
set_option maxRecDepth 100000 in
theorem c_X7_in (l : Launch) (G : gG)  (p1 : Int32) (p2 : Int32) (p3 : Int32) (R : Int32) (hR : R = f_X7_in p1 p2 p3) : CT l G yX7_in wsX7_in 0 0 [.int p1, .int p2, .int p3] [] (some (.int R)) [] := by
  unfold f_X7_in at hR
  refine CT.of (cc := cX7_in) (maxL := 3) (ret := (some .boolean)) (plainFor_of_name (by decide +kernel)) rfl rfl (Nat.le_of_ble_eq_true rfl) ?_
  intro p e s m below meth c A ls hx hb hml hr hts hown hlocks hK hP hD hA hS hl
  have hown : s.vm.findClass RX7 = some m.cls := hown
  have hl : lv_has ls 3 [(0, .int p1), (1, .int p2), (2, .int p3)] := hl
  refine lv_iload_n hx hb dX7_in_0 rfl (lv_at hl 0 rfl) ?_
  refine lv_iload_n hx hb dX7_in_1 rfl (lv_at hl 1 rfl) ?_
  refine lv_icmp_lt (tgt := 14) hx hb dX7_in_2 (by decide) (fun c1 => ?_) (fun c1 => ?_)
  · rw [if_pos c1] at hR
    refine lv_iconst (v := 0) hx hb dX7_in_14 (by decide) ?_
    subst hR
    exact g_retz hx hb hr hlocks hS rfl dX7_in_15 rfl hP
  · rw [if_neg c1] at hR
    refine lv_iload_n hx hb dX7_in_5 rfl (lv_at hl 0 rfl) ?_
    refine lv_iload_n hx hb dX7_in_6 rfl (lv_at hl 2 rfl) ?_
    refine lv_icmp_gt (tgt := 14) hx hb dX7_in_7 (by decide) (fun c2 => ?_) (fun c2 => ?_)
    · rw [if_pos c2] at hR
      refine lv_iconst (v := 0) hx hb dX7_in_14 (by decide) ?_
      subst hR
      exact g_retz hx hb hr hlocks hS rfl dX7_in_15 rfl hP
    · rw [if_neg c2] at hR
      refine lv_iconst (v := 1) hx hb dX7_in_10 (by decide) ?_
      refine lv_goto (tgt := 15) hx hb dX7_in_11 (by decide) ?_
      subst hR
      exact g_retz hx hb hr hlocks hS rfl dX7_in_15 rfl hP
def f_X7_of (f : (Nat → Int32)) (p1 : Int32) (p2 : Int32) : Int32 := f (((7 * p1) + p2).toNatClampNeg)
def ok_X7_of (p1 : Int32) (p2 : Int32) : Prop := (vp_in ((7 * p1) + p2) 112) ∧ True
set_option maxHeartbeats 4000000 in
set_option maxRecDepth 100000 in
theorem c_X7_of (l : Launch) (G : gG) (r : Nat) (f : (Nat → Int32)) (p1 : Int32) (p2 : Int32) (R : Int32) (hR : R = f_X7_of f p1 p2) (hok : ok_X7_of p1 p2) : CT l G yX7_of wsX7_of 0 0 [.ref r, .int p1, .int p2] [AW G r 112 f] (some (.int R)) [AW G r 112 f] := by
  unfold f_X7_of at hR
  unfold ok_X7_of at hok
  refine CT.of (cc := cX7_of) (maxL := 3) (ret := (some .int)) (plainFor_of_name (by decide +kernel)) rfl rfl (Nat.le_of_ble_eq_true rfl) ?_
  intro p e s m below meth c A ls hx hb hml hr hts hown hlocks hK hP hD hA hS hl
  have hown : s.vm.findClass RX7 = some m.cls := hown
  have hl : lv_has ls 3 [(0, .ref r), (1, .int p1), (2, .int p2)] := hl
  refine lv_aload_n hx hb dX7_of_0 rfl (lv_at hl 0 rfl) ?_
  refine lv_bipush (v := 7) hx hb dX7_of_1 (by decide) ?_
  refine lv_iload_n hx hb dX7_of_3 rfl (lv_at hl 1 rfl) ?_
  refine lv_imul hx hb dX7_of_4 ?_
  refine lv_iload_n hx hb dX7_of_5 rfl (lv_at hl 2 rfl) ?_
  refine lv_iadd hx hb dX7_of_6 ?_
  obtain ⟨k1, hok⟩ := hok
  refine g_ld (n := 112) (f := f) (v := f (((7 * p1) + p2).toNatClampNeg)) (k := (((7 * p1) + p2).toNatClampNeg)) hx hb hK hP 0 rfl rfl k1 rfl dX7_of_7 ?_
  subst hR
  exact g_ret hx hb hr hlocks hS dX7_of_8 rfl hP
def f_X7_base (f : (Nat → Int32)) (p1 : Int32) : Int32 := (gL (f_X7_of f p1 0) (fun (R1 : Int32) => (3000 + ((1200 * R1) / (f 42)))))
def ok_X7_base (f : (Nat → Int32)) (p1 : Int32) : Prop := (ok_X7_of p1 0) ∧ (gL (f_X7_of f p1 0) (fun (R1 : Int32) => (¬ (f 42) = 0) ∧ True))
set_option maxHeartbeats 4000000 in
set_option maxRecDepth 100000 in
theorem c_X7_base (l : Launch) (G : gG) (r : Nat) (f : (Nat → Int32)) (p1 : Int32) (R : Int32) (hR : R = f_X7_base f p1) (hok : ok_X7_base f p1) : CT l G yX7_base wsX7_base 1 22 [.ref r, .int p1] [AW G r 112 f] (some (.int R)) [AW G r 112 f] := by
  unfold f_X7_base at hR
  unfold ok_X7_base at hok
  refine CT.of (cc := cX7_base) (maxL := 2) (ret := (some .int)) (plainFor_of_name (by decide +kernel)) rfl rfl (Nat.le_of_ble_eq_true rfl) ?_
  intro p e s m below meth c A ls hx hb hml hr hts hown hlocks hK hP hD hA hS hl
  have hown : s.vm.findClass RX7 = some m.cls := hown
  have hl : lv_has ls 2 [(0, .ref r), (1, .int p1)] := hl
  refine lv_sipush (v := 3000) hx hb dX7_base_0 (by decide) ?_
  refine lv_sipush (v := 1200) hx hb dX7_base_3 (by decide) ?_
  refine lv_aload_n hx hb dX7_base_6 rfl (lv_at hl 0 rfl) ?_
  refine lv_iload_n hx hb dX7_base_7 rfl (lv_at hl 1 rfl) ?_
  refine lv_iconst (v := 0) hx hb dX7_base_8 (by decide) ?_
  obtain ⟨k2, hok⟩ := hok
  obtain ⟨R1, eR1, hR, hok⟩ := g_let2 hR hok
  refine g_callS (c_X7_of l G r f p1 0 R1 eR1 k2) hx hb hml hown hts hK hP hD hS hA gX7_base_X7_of rfl (n := 3) (by decide +kernel) rfl ⟨Nat.le_of_ble_eq_true rfl, Nat.le_of_ble_eq_true rfl⟩ [0] rfl (by decide) hl.1 rfl (Nat.le_of_ble_eq_true rfl) ⟨Nat.zero_le _, Nat.zero_le _⟩ dX7_base_9 (fun H locs hP hD hS => ?_)
  have hP : va_P G.1 vwCl (List.flatten [AW G r 112 f]) H := hP
  have hD : va_D A (List.flatten [AW G r 112 f]) := hD
  refine lv_imul hx hb dX7_base_12 ?_
  refine lv_aload_n hx hb dX7_base_13 rfl (lv_at hl 0 rfl) ?_
  refine lv_bipush (v := 42) hx hb dX7_base_14 (by decide) ?_
  refine g_ld (n := 112) (f := f) (v := f 42) (k := 42) hx hb hK hP 0 rfl (by decide) (by unfold vp_in; decide) rfl dX7_base_16 ?_
  obtain ⟨k3, hok⟩ := hok
  refine lv_idiv hx hb dX7_base_17 k3 ?_
  refine lv_iadd hx hb dX7_base_18 ?_
  subst hR
  exact g_ret hx hb hr hlocks hS dX7_base_19 rfl hP
def fl_X7_highest_4 (f : (Nat → Int32)) : Nat → Int32 → Int32 → Int32
  | 0, _, _ => (0 : Int32)
  | n + 1, x4_1, x4_2 => (if (f 71) ≤ x4_2 then x4_1 else (gL (f_X7_base f x4_2) (fun (R8 : Int32) => (if R8 ≤ x4_1 then (gL ((x4_2 + 1)) (fun (v11 : Int32) => (fl_X7_highest_4 f n x4_1 v11))) else (gL (f_X7_base f x4_2) (fun (R12 : Int32) => (gL ((x4_2 + 1)) (fun (v14 : Int32) => (fl_X7_highest_4 f n R12 v14)))))))))
def okl_X7_highest_4 (f : (Nat → Int32)) : Nat → Int32 → Int32 → Prop
  | 0, _, _ => False
  | n + 1, x4_1, x4_2 => (((f 71) ≤ x4_2 → True) ∧ (¬ (f 71) ≤ x4_2 → (ok_X7_base f x4_2) ∧ (gL (f_X7_base f x4_2) (fun (R8 : Int32) => ((R8 ≤ x4_1 → (gL ((x4_2 + 1)) (fun (v11 : Int32) => (okl_X7_highest_4 f n x4_1 v11)))) ∧ (¬ R8 ≤ x4_1 → (ok_X7_base f x4_2) ∧ (gL (f_X7_base f x4_2) (fun (R12 : Int32) => (gL ((x4_2 + 1)) (fun (v14 : Int32) => (okl_X7_highest_4 f n R12 v14)))))))))))
def f_X7_highest (f : (Nat → Int32)) : Int32 := (fl_X7_highest_4 f 7 0 0)
def ok_X7_highest (f : (Nat → Int32)) : Prop := (okl_X7_highest_4 f 7 0 0)
set_option maxHeartbeats 4000000 in
set_option maxRecDepth 100000 in
theorem c_X7_highest (l : Launch) (G : gG) (r : Nat) (f : (Nat → Int32)) (R : Int32) (hR : R = f_X7_highest f) (hok : ok_X7_highest f) : CT l G yX7_highest wsX7_highest 2 43 [.ref r] [AW G r 112 f] (some (.int R)) [AW G r 112 f] := by
  unfold f_X7_highest at hR
  unfold ok_X7_highest at hok
  refine CT.of (cc := cX7_highest) (maxL := 3) (ret := (some .int)) (plainFor_of_name (by decide +kernel)) rfl rfl (Nat.le_of_ble_eq_true rfl) ?_
  intro p e s m below meth c A ls hx hb hml hr hts hown hlocks hK hP hD hA hS hl
  have hown : s.vm.findClass RX7 = some m.cls := hown
  have hl : lv_has ls 3 [(0, .ref r)] := hl
  refine lv_iconst (v := 0) hx hb dX7_highest_0 (by decide) ?_
  refine lv_istore_n (lv' := [(1, .int 0), (0, .ref r)]) hx hb dX7_highest_1 rfl hl (by decide) rfl (fun ls hl => ?_)
  refine lv_iconst (v := 0) hx hb dX7_highest_2 (by decide) ?_
  refine lv_istore_n (lv' := [(2, .int 0), (1, .int 0), (0, .ref r)]) hx hb dX7_highest_3 rfl hl (by decide) rfl (fun ls hl => ?_)
  have lp4 : ∀ (n : Nat) (x4_1 : Int32) (x4_2 : Int32) (H : Heap) (locs : List Loc) (ls : Array Slot), R = fl_X7_highest_4 f n x4_1 x4_2 → okl_X7_highest_4 f n x4_1 x4_2 → va_P G.1 vwCl (List.flatten [AW G r 112 f]) H → va_D A (List.flatten [AW G r 112 f]) → va_S A s.heap H locs → lv_has ls 3 [(0, .ref r), (1, .int x4_1), (2, .int x4_2)] → W p l e { frames := 2, cells := 0, slots := 0, locals := 43 } s m (List.toArray [.ref r]) below meth c H locs 0 0 (gQ G below (List.toArray [.ref r]) s (some (.int R)) [AW G r 112 f] A) (F0 m 4 ls []) := by
    intro n
    induction n with
    | zero =>
      intro x4_1 x4_2 H locs ls hR hok hP hD hS hl
      rw [okl_X7_highest_4] at hok
      exact hok.elim
    | succ n ih =>
      intro x4_1 x4_2 H locs ls hR hok hP hD hS hl
      rw [fl_X7_highest_4] at hR
      rw [okl_X7_highest_4] at hok
      refine lv_iload_n hx hb dX7_highest_4 rfl (lv_at hl 2 rfl) ?_
      refine lv_aload_n hx hb dX7_highest_5 rfl (lv_at hl 0 rfl) ?_
      refine lv_bipush (v := 71) hx hb dX7_highest_6 (by decide) ?_
      refine g_ld (n := 112) (f := f) (v := f 71) (k := 71) hx hb hK hP 0 rfl (by decide) (by unfold vp_in; decide) rfl dX7_highest_8 ?_
      refine lv_icmp_ge (tgt := 37) hx hb dX7_highest_9 (by decide) (fun c7 => ?_) (fun c7 => ?_)
      · rw [if_pos c7] at hR
        have hok := hok.1 c7
        refine lv_iload_n hx hb dX7_highest_37 rfl (lv_at hl 1 rfl) ?_
        subst hR
        exact g_ret hx hb hr hlocks hS dX7_highest_38 rfl hP
      · rw [if_neg c7] at hR
        have hok := hok.2 c7
        refine lv_aload_n hx hb dX7_highest_12 rfl (lv_at hl 0 rfl) ?_
        refine lv_iload_n hx hb dX7_highest_13 rfl (lv_at hl 2 rfl) ?_
        obtain ⟨k9, hok⟩ := hok
        obtain ⟨R8, eR8, hR, hok⟩ := g_let2 hR hok
        refine g_callS (c_X7_base l G r f x4_2 R8 eR8 k9) hx hb hml hown hts hK hP hD hS hA gX7_highest_X7_base rfl (n := 2) (by decide +kernel) rfl ⟨Nat.le_of_ble_eq_true rfl, Nat.le_of_ble_eq_true rfl⟩ [0] rfl (by decide) hl.1 rfl (Nat.le_of_ble_eq_true rfl) ⟨Nat.zero_le _, Nat.zero_le _⟩ dX7_highest_14 (fun H locs hP hD hS => ?_)
        have hP : va_P G.1 vwCl (List.flatten [AW G r 112 f]) H := hP
        have hD : va_D A (List.flatten [AW G r 112 f]) := hD
        refine lv_iload_n hx hb dX7_highest_17 rfl (lv_at hl 1 rfl) ?_
        refine lv_icmp_le (tgt := 29) hx hb dX7_highest_18 (by decide) (fun c10 => ?_) (fun c10 => ?_)
        · rw [if_pos c10] at hR
          have hok := hok.1 c10
          refine lv_iload_n hx hb dX7_highest_29 rfl (lv_at hl 1 rfl) ?_
          refine lv_istore_n (lv' := [(1, .int x4_1), (0, .ref r), (2, .int x4_2)]) hx hb dX7_highest_30 rfl hl (by decide) rfl (fun ls hl => ?_)
          obtain ⟨v11, ev11, hR, hok⟩ := g_let2 hR hok
          refine lv_iinc (v := v11) (lv' := [(2, .int v11), (1, .int x4_1), (0, .ref r)]) hx hb dX7_highest_31 hl (k := 2) rfl (by subst ev11; rfl) (by decide) rfl (fun ls hl => ?_)
          refine lv_goto (tgt := 4) hx hb dX7_highest_34 (by decide) ?_
          exact ih x4_1 v11 _ _ _ hR hok hP hD hS (lv_sub hl [2, 1, 0] rfl)
        · rw [if_neg c10] at hR
          have hok := hok.2 c10
          refine lv_aload_n hx hb dX7_highest_21 rfl (lv_at hl 0 rfl) ?_
          refine lv_iload_n hx hb dX7_highest_22 rfl (lv_at hl 2 rfl) ?_
          obtain ⟨k13, hok⟩ := hok
          obtain ⟨R12, eR12, hR, hok⟩ := g_let2 hR hok
          refine g_callS (c_X7_base l G r f x4_2 R12 eR12 k13) hx hb hml hown hts hK hP hD hS hA gX7_highest_X7_base rfl (n := 2) (by decide +kernel) rfl ⟨Nat.le_of_ble_eq_true rfl, Nat.le_of_ble_eq_true rfl⟩ [0] rfl (by decide) hl.1 rfl (Nat.le_of_ble_eq_true rfl) ⟨Nat.zero_le _, Nat.zero_le _⟩ dX7_highest_23 (fun H locs hP hD hS => ?_)
          have hP : va_P G.1 vwCl (List.flatten [AW G r 112 f]) H := hP
          have hD : va_D A (List.flatten [AW G r 112 f]) := hD
          refine lv_goto (tgt := 30) hx hb dX7_highest_26 (by decide) ?_
          refine lv_istore_n (lv' := [(1, .int R12), (0, .ref r), (2, .int x4_2)]) hx hb dX7_highest_30 rfl hl (by decide) rfl (fun ls hl => ?_)
          obtain ⟨v14, ev14, hR, hok⟩ := g_let2 hR hok
          refine lv_iinc (v := v14) (lv' := [(2, .int v14), (1, .int R12), (0, .ref r)]) hx hb dX7_highest_31 hl (k := 2) rfl (by subst ev14; rfl) (by decide) rfl (fun ls hl => ?_)
          refine lv_goto (tgt := 4) hx hb dX7_highest_34 (by decide) ?_
          exact ih R12 v14 _ _ _ hR hok hP hD hS (lv_sub hl [2, 1, 0] rfl)
  exact lp4 7 0 0 _ _ _ hR hok hP hD hS (lv_sub hl [2, 1, 0] rfl)
def fl_X7_lowest_8 (f : (Nat → Int32)) : Nat → Int32 → Int32 → Int32
  | 0, _, _ => (0 : Int32)
  | n + 1, x8_1, x8_2 => (if (f 71) ≤ x8_2 then x8_1 else (gL (f_X7_base f x8_2) (fun (R10 : Int32) => (if x8_1 ≤ R10 then (gL ((x8_2 + 1)) (fun (v13 : Int32) => (fl_X7_lowest_8 f n x8_1 v13))) else (gL (f_X7_base f x8_2) (fun (R14 : Int32) => (gL ((x8_2 + 1)) (fun (v16 : Int32) => (fl_X7_lowest_8 f n R14 v16)))))))))
def okl_X7_lowest_8 (f : (Nat → Int32)) : Nat → Int32 → Int32 → Prop
  | 0, _, _ => False
  | n + 1, x8_1, x8_2 => (((f 71) ≤ x8_2 → True) ∧ (¬ (f 71) ≤ x8_2 → (ok_X7_base f x8_2) ∧ (gL (f_X7_base f x8_2) (fun (R10 : Int32) => ((x8_1 ≤ R10 → (gL ((x8_2 + 1)) (fun (v13 : Int32) => (okl_X7_lowest_8 f n x8_1 v13)))) ∧ (¬ x8_1 ≤ R10 → (ok_X7_base f x8_2) ∧ (gL (f_X7_base f x8_2) (fun (R14 : Int32) => (gL ((x8_2 + 1)) (fun (v16 : Int32) => (okl_X7_lowest_8 f n R14 v16)))))))))))
def f_X7_lowest (f : (Nat → Int32)) : Int32 := (gL (f_X7_base f 0) (fun (R1 : Int32) => (fl_X7_lowest_8 f 7 R1 1)))
def ok_X7_lowest (f : (Nat → Int32)) : Prop := (ok_X7_base f 0) ∧ (gL (f_X7_base f 0) (fun (R1 : Int32) => (okl_X7_lowest_8 f 7 R1 1)))
set_option maxHeartbeats 4000000 in
set_option maxRecDepth 100000 in
theorem c_X7_lowest (l : Launch) (G : gG) (r : Nat) (f : (Nat → Int32)) (R : Int32) (hR : R = f_X7_lowest f) (hok : ok_X7_lowest f) : CT l G yX7_lowest wsX7_lowest 2 43 [.ref r] [AW G r 112 f] (some (.int R)) [AW G r 112 f] := by
  unfold f_X7_lowest at hR
  unfold ok_X7_lowest at hok
  refine CT.of (cc := cX7_lowest) (maxL := 3) (ret := (some .int)) (plainFor_of_name (by decide +kernel)) rfl rfl (Nat.le_of_ble_eq_true rfl) ?_
  intro p e s m below meth c A ls hx hb hml hr hts hown hlocks hK hP hD hA hS hl
  have hown : s.vm.findClass RX7 = some m.cls := hown
  have hl : lv_has ls 3 [(0, .ref r)] := hl
  refine lv_aload_n hx hb dX7_lowest_0 rfl (lv_at hl 0 rfl) ?_
  refine lv_iconst (v := 0) hx hb dX7_lowest_1 (by decide) ?_
  obtain ⟨k2, hok⟩ := hok
  obtain ⟨R1, eR1, hR, hok⟩ := g_let2 hR hok
  refine g_callS (c_X7_base l G r f 0 R1 eR1 k2) hx hb hml hown hts hK hP hD hS hA gX7_lowest_X7_base rfl (n := 2) (by decide +kernel) rfl ⟨Nat.le_of_ble_eq_true rfl, Nat.le_of_ble_eq_true rfl⟩ [0] rfl (by decide) hl.1 rfl (Nat.le_of_ble_eq_true rfl) ⟨Nat.zero_le _, Nat.zero_le _⟩ dX7_lowest_2 (fun H locs hP hD hS => ?_)
  have hP : va_P G.1 vwCl (List.flatten [AW G r 112 f]) H := hP
  have hD : va_D A (List.flatten [AW G r 112 f]) := hD
  refine lv_istore_n (lv' := [(1, .int R1), (0, .ref r)]) hx hb dX7_lowest_5 rfl hl (by decide) rfl (fun ls hl => ?_)
  refine lv_iconst (v := 1) hx hb dX7_lowest_6 (by decide) ?_
  refine lv_istore_n (lv' := [(2, .int 1), (1, .int R1), (0, .ref r)]) hx hb dX7_lowest_7 rfl hl (by decide) rfl (fun ls hl => ?_)
  have lp8 : ∀ (n : Nat) (x8_1 : Int32) (x8_2 : Int32) (H : Heap) (locs : List Loc) (ls : Array Slot), R = fl_X7_lowest_8 f n x8_1 x8_2 → okl_X7_lowest_8 f n x8_1 x8_2 → va_P G.1 vwCl (List.flatten [AW G r 112 f]) H → va_D A (List.flatten [AW G r 112 f]) → va_S A s.heap H locs → lv_has ls 3 [(0, .ref r), (1, .int x8_1), (2, .int x8_2)] → W p l e { frames := 2, cells := 0, slots := 0, locals := 43 } s m (List.toArray [.ref r]) below meth c H locs 0 0 (gQ G below (List.toArray [.ref r]) s (some (.int R)) [AW G r 112 f] A) (F0 m 8 ls []) := by
    intro n
    induction n with
    | zero =>
      intro x8_1 x8_2 H locs ls hR hok hP hD hS hl
      rw [okl_X7_lowest_8] at hok
      exact hok.elim
    | succ n ih =>
      intro x8_1 x8_2 H locs ls hR hok hP hD hS hl
      rw [fl_X7_lowest_8] at hR
      rw [okl_X7_lowest_8] at hok
      refine lv_iload_n hx hb dX7_lowest_8 rfl (lv_at hl 2 rfl) ?_
      refine lv_aload_n hx hb dX7_lowest_9 rfl (lv_at hl 0 rfl) ?_
      refine lv_bipush (v := 71) hx hb dX7_lowest_10 (by decide) ?_
      refine g_ld (n := 112) (f := f) (v := f 71) (k := 71) hx hb hK hP 0 rfl (by decide) (by unfold vp_in; decide) rfl dX7_lowest_12 ?_
      refine lv_icmp_ge (tgt := 41) hx hb dX7_lowest_13 (by decide) (fun c9 => ?_) (fun c9 => ?_)
      · rw [if_pos c9] at hR
        have hok := hok.1 c9
        refine lv_iload_n hx hb dX7_lowest_41 rfl (lv_at hl 1 rfl) ?_
        subst hR
        exact g_ret hx hb hr hlocks hS dX7_lowest_42 rfl hP
      · rw [if_neg c9] at hR
        have hok := hok.2 c9
        refine lv_aload_n hx hb dX7_lowest_16 rfl (lv_at hl 0 rfl) ?_
        refine lv_iload_n hx hb dX7_lowest_17 rfl (lv_at hl 2 rfl) ?_
        obtain ⟨k11, hok⟩ := hok
        obtain ⟨R10, eR10, hR, hok⟩ := g_let2 hR hok
        refine g_callS (c_X7_base l G r f x8_2 R10 eR10 k11) hx hb hml hown hts hK hP hD hS hA gX7_lowest_X7_base rfl (n := 2) (by decide +kernel) rfl ⟨Nat.le_of_ble_eq_true rfl, Nat.le_of_ble_eq_true rfl⟩ [0] rfl (by decide) hl.1 rfl (Nat.le_of_ble_eq_true rfl) ⟨Nat.zero_le _, Nat.zero_le _⟩ dX7_lowest_18 (fun H locs hP hD hS => ?_)
        have hP : va_P G.1 vwCl (List.flatten [AW G r 112 f]) H := hP
        have hD : va_D A (List.flatten [AW G r 112 f]) := hD
        refine lv_iload_n hx hb dX7_lowest_21 rfl (lv_at hl 1 rfl) ?_
        refine lv_icmp_ge (tgt := 33) hx hb dX7_lowest_22 (by decide) (fun c12 => ?_) (fun c12 => ?_)
        · rw [if_pos c12] at hR
          have hok := hok.1 c12
          refine lv_iload_n hx hb dX7_lowest_33 rfl (lv_at hl 1 rfl) ?_
          refine lv_istore_n (lv' := [(1, .int x8_1), (0, .ref r), (2, .int x8_2)]) hx hb dX7_lowest_34 rfl hl (by decide) rfl (fun ls hl => ?_)
          obtain ⟨v13, ev13, hR, hok⟩ := g_let2 hR hok
          refine lv_iinc (v := v13) (lv' := [(2, .int v13), (1, .int x8_1), (0, .ref r)]) hx hb dX7_lowest_35 hl (k := 2) rfl (by subst ev13; rfl) (by decide) rfl (fun ls hl => ?_)
          refine lv_goto (tgt := 8) hx hb dX7_lowest_38 (by decide) ?_
          exact ih x8_1 v13 _ _ _ hR hok hP hD hS (lv_sub hl [2, 1, 0] rfl)
        · rw [if_neg c12] at hR
          have hok := hok.2 c12
          refine lv_aload_n hx hb dX7_lowest_25 rfl (lv_at hl 0 rfl) ?_
          refine lv_iload_n hx hb dX7_lowest_26 rfl (lv_at hl 2 rfl) ?_
          obtain ⟨k15, hok⟩ := hok
          obtain ⟨R14, eR14, hR, hok⟩ := g_let2 hR hok
          refine g_callS (c_X7_base l G r f x8_2 R14 eR14 k15) hx hb hml hown hts hK hP hD hS hA gX7_lowest_X7_base rfl (n := 2) (by decide +kernel) rfl ⟨Nat.le_of_ble_eq_true rfl, Nat.le_of_ble_eq_true rfl⟩ [0] rfl (by decide) hl.1 rfl (Nat.le_of_ble_eq_true rfl) ⟨Nat.zero_le _, Nat.zero_le _⟩ dX7_lowest_27 (fun H locs hP hD hS => ?_)
          have hP : va_P G.1 vwCl (List.flatten [AW G r 112 f]) H := hP
          have hD : va_D A (List.flatten [AW G r 112 f]) := hD
          refine lv_goto (tgt := 34) hx hb dX7_lowest_30 (by decide) ?_
          refine lv_istore_n (lv' := [(1, .int R14), (0, .ref r), (2, .int x8_2)]) hx hb dX7_lowest_34 rfl hl (by decide) rfl (fun ls hl => ?_)
          obtain ⟨v16, ev16, hR, hok⟩ := g_let2 hR hok
          refine lv_iinc (v := v16) (lv' := [(2, .int v16), (1, .int R14), (0, .ref r)]) hx hb dX7_lowest_35 hl (k := 2) rfl (by subst ev16; rfl) (by decide) rfl (fun ls hl => ?_)
          refine lv_goto (tgt := 8) hx hb dX7_lowest_38 (by decide) ?_
          exact ih R14 v16 _ _ _ hR hok hP hD hS (lv_sub hl [2, 1, 0] rfl)
  exact lp8 7 R1 1 _ _ _ hR hok hP hD hS (lv_sub hl [2, 1, 0] rfl)
def f_X7_more (f : (Nat → Int32)) (p1 : Int32) : Int32 := ((p1 * (f 43)) / 1000)
set_option maxHeartbeats 4000000 in
set_option maxRecDepth 100000 in
theorem c_X7_more (l : Launch) (G : gG) (r : Nat) (f : (Nat → Int32)) (p1 : Int32) (R : Int32) (hR : R = f_X7_more f p1) : CT l G yX7_more wsX7_more 0 0 [.ref r, .int p1] [AW G r 112 f] (some (.int R)) [AW G r 112 f] := by
  unfold f_X7_more at hR
  refine CT.of (cc := cX7_more) (maxL := 2) (ret := (some .int)) (plainFor_of_name (by decide +kernel)) rfl rfl (Nat.le_of_ble_eq_true rfl) ?_
  intro p e s m below meth c A ls hx hb hml hr hts hown hlocks hK hP hD hA hS hl
  have hown : s.vm.findClass RX7 = some m.cls := hown
  have hl : lv_has ls 2 [(0, .ref r), (1, .int p1)] := hl
  refine lv_iload_n hx hb dX7_more_0 rfl (lv_at hl 1 rfl) ?_
  refine lv_aload_n hx hb dX7_more_1 rfl (lv_at hl 0 rfl) ?_
  refine lv_bipush (v := 43) hx hb dX7_more_2 (by decide) ?_
  refine g_ld (n := 112) (f := f) (v := f 43) (k := 43) hx hb hK hP 0 rfl (by decide) (by unfold vp_in; decide) rfl dX7_more_4 ?_
  refine lv_imul hx hb dX7_more_5 ?_
  refine lv_sipush (v := 1000) hx hb dX7_more_6 (by decide) ?_
  refine lv_idiv hx hb dX7_more_9 (by decide) ?_
  subst hR
  exact g_ret hx hb hr hlocks hS dX7_more_10 rfl hP
def fl_X7_charged_9 (p1 : Int32) (f : (Nat → Int32)) : Nat → Int32 → Int32 → Int32
  | 0, _, _ => (0 : Int32)
  | n + 1, x9_2, x9_3 => (if (f 71) ≤ x9_3 then x9_2 else (gL (f_X7_of f x9_3 0) (fun (R10 : Int32) => (if p1 = 0 then (if x9_2 ≤ R10 then (gL ((x9_3 + 1)) (fun (v14 : Int32) => (fl_X7_charged_9 p1 f n x9_2 v14))) else (gL ((x9_3 + 1)) (fun (v15 : Int32) => (fl_X7_charged_9 p1 f n R10 v15)))) else (if R10 ≤ x9_2 then (gL ((x9_3 + 1)) (fun (v17 : Int32) => (fl_X7_charged_9 p1 f n x9_2 v17))) else (gL ((x9_3 + 1)) (fun (v18 : Int32) => (fl_X7_charged_9 p1 f n R10 v18))))))))
def okl_X7_charged_9 (p1 : Int32) (f : (Nat → Int32)) : Nat → Int32 → Int32 → Prop
  | 0, _, _ => False
  | n + 1, x9_2, x9_3 => (((f 71) ≤ x9_3 → True) ∧ (¬ (f 71) ≤ x9_3 → (ok_X7_of x9_3 0) ∧ (gL (f_X7_of f x9_3 0) (fun (R10 : Int32) => ((p1 = 0 → ((x9_2 ≤ R10 → (gL ((x9_3 + 1)) (fun (v14 : Int32) => (okl_X7_charged_9 p1 f n x9_2 v14)))) ∧ (¬ x9_2 ≤ R10 → (gL ((x9_3 + 1)) (fun (v15 : Int32) => (okl_X7_charged_9 p1 f n R10 v15)))))) ∧ (¬ p1 = 0 → ((R10 ≤ x9_2 → (gL ((x9_3 + 1)) (fun (v17 : Int32) => (okl_X7_charged_9 p1 f n x9_2 v17)))) ∧ (¬ R10 ≤ x9_2 → (gL ((x9_3 + 1)) (fun (v18 : Int32) => (okl_X7_charged_9 p1 f n R10 v18)))))))))))
def f_X7_charged (f : (Nat → Int32)) (p1 : Int32) : Int32 := (gL (f_X7_of f 0 0) (fun (R1 : Int32) => (fl_X7_charged_9 p1 f 7 R1 1)))
def ok_X7_charged (f : (Nat → Int32)) (p1 : Int32) : Prop := (ok_X7_of 0 0) ∧ (gL (f_X7_of f 0 0) (fun (R1 : Int32) => (okl_X7_charged_9 p1 f 7 R1 1)))
set_option maxHeartbeats 4000000 in
set_option maxRecDepth 100000 in
theorem c_X7_charged (l : Launch) (G : gG) (r : Nat) (f : (Nat → Int32)) (p1 : Int32) (R : Int32) (hR : R = f_X7_charged f p1) (hok : ok_X7_charged f p1) : CT l G yX7_charged wsX7_charged 1 22 [.ref r, .int p1] [AW G r 112 f] (some (.int R)) [AW G r 112 f] := by
  unfold f_X7_charged at hR
  unfold ok_X7_charged at hok
  refine CT.of (cc := cX7_charged) (maxL := 5) (ret := (some .int)) (plainFor_of_name (by decide +kernel)) rfl rfl (Nat.le_of_ble_eq_true rfl) ?_
  intro p e s m below meth c A ls hx hb hml hr hts hown hlocks hK hP hD hA hS hl
  have hown : s.vm.findClass RX7 = some m.cls := hown
  have hl : lv_has ls 5 [(0, .ref r), (1, .int p1)] := hl
  refine lv_aload_n hx hb dX7_charged_0 rfl (lv_at hl 0 rfl) ?_
  refine lv_iconst (v := 0) hx hb dX7_charged_1 (by decide) ?_
  refine lv_iconst (v := 0) hx hb dX7_charged_2 (by decide) ?_
  obtain ⟨k2, hok⟩ := hok
  obtain ⟨R1, eR1, hR, hok⟩ := g_let2 hR hok
  refine g_callS (c_X7_of l G r f 0 0 R1 eR1 k2) hx hb hml hown hts hK hP hD hS hA gX7_charged_X7_of rfl (n := 3) (by decide +kernel) rfl ⟨Nat.le_of_ble_eq_true rfl, Nat.le_of_ble_eq_true rfl⟩ [0] rfl (by decide) hl.1 rfl (Nat.le_of_ble_eq_true rfl) ⟨Nat.zero_le _, Nat.zero_le _⟩ dX7_charged_3 (fun H locs hP hD hS => ?_)
  have hP : va_P G.1 vwCl (List.flatten [AW G r 112 f]) H := hP
  have hD : va_D A (List.flatten [AW G r 112 f]) := hD
  refine lv_istore_n (lv' := [(2, .int R1), (0, .ref r), (1, .int p1)]) hx hb dX7_charged_6 rfl hl (by decide) rfl (fun ls hl => ?_)
  refine lv_iconst (v := 1) hx hb dX7_charged_7 (by decide) ?_
  refine lv_istore_n (lv' := [(3, .int 1), (2, .int R1), (0, .ref r), (1, .int p1)]) hx hb dX7_charged_8 rfl hl (by decide) rfl (fun ls hl => ?_)
  have lp9 : ∀ (n : Nat) (x9_2 : Int32) (x9_3 : Int32) (H : Heap) (locs : List Loc) (ls : Array Slot), R = fl_X7_charged_9 p1 f n x9_2 x9_3 → okl_X7_charged_9 p1 f n x9_2 x9_3 → va_P G.1 vwCl (List.flatten [AW G r 112 f]) H → va_D A (List.flatten [AW G r 112 f]) → va_S A s.heap H locs → lv_has ls 5 [(0, .ref r), (1, .int p1), (2, .int x9_2), (3, .int x9_3)] → W p l e { frames := 1, cells := 0, slots := 0, locals := 22 } s m (List.toArray [.ref r, .int p1]) below meth c H locs 0 0 (gQ G below (List.toArray [.ref r, .int p1]) s (some (.int R)) [AW G r 112 f] A) (F0 m 9 ls []) := by
    intro n
    induction n with
    | zero =>
      intro x9_2 x9_3 H locs ls hR hok hP hD hS hl
      rw [okl_X7_charged_9] at hok
      exact hok.elim
    | succ n ih =>
      intro x9_2 x9_3 H locs ls hR hok hP hD hS hl
      rw [fl_X7_charged_9] at hR
      rw [okl_X7_charged_9] at hok
      refine lv_iload_n hx hb dX7_charged_9 rfl (lv_at hl 3 rfl) ?_
      refine lv_aload_n hx hb dX7_charged_10 rfl (lv_at hl 0 rfl) ?_
      refine lv_bipush (v := 71) hx hb dX7_charged_11 (by decide) ?_
      refine g_ld (n := 112) (f := f) (v := f 71) (k := 71) hx hb hK hP 0 rfl (by decide) (by unfold vp_in; decide) rfl dX7_charged_13 ?_
      refine lv_icmp_ge (tgt := 57) hx hb dX7_charged_14 (by decide) (fun c9 => ?_) (fun c9 => ?_)
      · rw [if_pos c9] at hR
        have hok := hok.1 c9
        refine lv_iload_n hx hb dX7_charged_57 rfl (lv_at hl 2 rfl) ?_
        subst hR
        exact g_ret hx hb hr hlocks hS dX7_charged_58 rfl hP
      · rw [if_neg c9] at hR
        have hok := hok.2 c9
        refine lv_aload_n hx hb dX7_charged_17 rfl (lv_at hl 0 rfl) ?_
        refine lv_iload_n hx hb dX7_charged_18 rfl (lv_at hl 3 rfl) ?_
        refine lv_iconst (v := 0) hx hb dX7_charged_19 (by decide) ?_
        obtain ⟨k11, hok⟩ := hok
        obtain ⟨R10, eR10, hR, hok⟩ := g_let2 hR hok
        refine g_callS (c_X7_of l G r f x9_3 0 R10 eR10 k11) hx hb hml hown hts hK hP hD hS hA gX7_charged_X7_of rfl (n := 3) (by decide +kernel) rfl ⟨Nat.le_of_ble_eq_true rfl, Nat.le_of_ble_eq_true rfl⟩ [0] rfl (by decide) hl.1 rfl (Nat.le_of_ble_eq_true rfl) ⟨Nat.zero_le _, Nat.zero_le _⟩ dX7_charged_20 (fun H locs hP hD hS => ?_)
        have hP : va_P G.1 vwCl (List.flatten [AW G r 112 f]) H := hP
        have hD : va_D A (List.flatten [AW G r 112 f]) := hD
        refine lv_istore (lv' := [(4, .int R10), (0, .ref r), (1, .int p1), (2, .int x9_2), (3, .int x9_3)]) hx hb dX7_charged_23 hl (by decide) rfl (fun ls hl => ?_)
        refine lv_iload_n hx hb dX7_charged_25 rfl (lv_at hl 2 rfl) ?_
        refine lv_if_eq (tgt := 38) hx hb dX7_charged_26 (by decide) (fun c12 => ?_) (fun c12 => ?_)
        · rw [if_pos c12] at hR
          have hok := hok.1 c12
          refine lv_iload hx hb dX7_charged_38 (lv_at hl 0 rfl) ?_
          refine lv_iload_n hx hb dX7_charged_40 rfl (lv_at hl 3 rfl) ?_
          refine lv_icmp_ge (tgt := 49) hx hb dX7_charged_41 (by decide) (fun c13 => ?_) (fun c13 => ?_)
          · rw [if_pos c13] at hR
            have hok := hok.1 c13
            refine lv_iload_n hx hb dX7_charged_49 rfl (lv_at hl 3 rfl) ?_
            refine lv_istore_n (lv' := [(2, .int x9_2), (4, .int R10), (0, .ref r), (1, .int p1), (3, .int x9_3)]) hx hb dX7_charged_50 rfl hl (by decide) rfl (fun ls hl => ?_)
            obtain ⟨v14, ev14, hR, hok⟩ := g_let2 hR hok
            refine lv_iinc (v := v14) (lv' := [(3, .int v14), (2, .int x9_2), (4, .int R10), (0, .ref r), (1, .int p1)]) hx hb dX7_charged_51 hl (k := 4) rfl (by subst ev14; rfl) (by decide) rfl (fun ls hl => ?_)
            refine lv_goto (tgt := 9) hx hb dX7_charged_54 (by decide) ?_
            exact ih x9_2 v14 _ _ _ hR hok hP hD hS (lv_sub hl [3, 4, 1, 0] rfl)
          · rw [if_neg c13] at hR
            have hok := hok.2 c13
            refine lv_iload hx hb dX7_charged_44 (lv_at hl 0 rfl) ?_
            refine lv_goto (tgt := 50) hx hb dX7_charged_46 (by decide) ?_
            refine lv_istore_n (lv' := [(2, .int R10), (4, .int R10), (0, .ref r), (1, .int p1), (3, .int x9_3)]) hx hb dX7_charged_50 rfl hl (by decide) rfl (fun ls hl => ?_)
            obtain ⟨v15, ev15, hR, hok⟩ := g_let2 hR hok
            refine lv_iinc (v := v15) (lv' := [(3, .int v15), (2, .int R10), (4, .int R10), (0, .ref r), (1, .int p1)]) hx hb dX7_charged_51 hl (k := 4) rfl (by subst ev15; rfl) (by decide) rfl (fun ls hl => ?_)
            refine lv_goto (tgt := 9) hx hb dX7_charged_54 (by decide) ?_
            exact ih R10 v15 _ _ _ hR hok hP hD hS (lv_sub hl [3, 4, 1, 0] rfl)
        · rw [if_neg c12] at hR
          have hok := hok.2 c12
          refine lv_iload hx hb dX7_charged_29 (lv_at hl 0 rfl) ?_
          refine lv_iload_n hx hb dX7_charged_31 rfl (lv_at hl 3 rfl) ?_
          refine lv_icmp_le (tgt := 49) hx hb dX7_charged_32 (by decide) (fun c16 => ?_) (fun c16 => ?_)
          · rw [if_pos c16] at hR
            have hok := hok.1 c16
            refine lv_iload_n hx hb dX7_charged_49 rfl (lv_at hl 3 rfl) ?_
            refine lv_istore_n (lv' := [(2, .int x9_2), (4, .int R10), (0, .ref r), (1, .int p1), (3, .int x9_3)]) hx hb dX7_charged_50 rfl hl (by decide) rfl (fun ls hl => ?_)
            obtain ⟨v17, ev17, hR, hok⟩ := g_let2 hR hok
            refine lv_iinc (v := v17) (lv' := [(3, .int v17), (2, .int x9_2), (4, .int R10), (0, .ref r), (1, .int p1)]) hx hb dX7_charged_51 hl (k := 4) rfl (by subst ev17; rfl) (by decide) rfl (fun ls hl => ?_)
            refine lv_goto (tgt := 9) hx hb dX7_charged_54 (by decide) ?_
            exact ih x9_2 v17 _ _ _ hR hok hP hD hS (lv_sub hl [3, 4, 1, 0] rfl)
          · rw [if_neg c16] at hR
            have hok := hok.2 c16
            refine lv_goto (tgt := 44) hx hb dX7_charged_35 (by decide) ?_
            refine lv_iload hx hb dX7_charged_44 (lv_at hl 0 rfl) ?_
            refine lv_goto (tgt := 50) hx hb dX7_charged_46 (by decide) ?_
            refine lv_istore_n (lv' := [(2, .int R10), (4, .int R10), (0, .ref r), (1, .int p1), (3, .int x9_3)]) hx hb dX7_charged_50 rfl hl (by decide) rfl (fun ls hl => ?_)
            obtain ⟨v18, ev18, hR, hok⟩ := g_let2 hR hok
            refine lv_iinc (v := v18) (lv' := [(3, .int v18), (2, .int R10), (4, .int R10), (0, .ref r), (1, .int p1)]) hx hb dX7_charged_51 hl (k := 4) rfl (by subst ev18; rfl) (by decide) rfl (fun ls hl => ?_)
            refine lv_goto (tgt := 9) hx hb dX7_charged_54 (by decide) ?_
            exact ih R10 v18 _ _ _ hR hok hP hD hS (lv_sub hl [3, 4, 1, 0] rfl)
  exact lp9 7 R1 1 _ _ _ hR hok hP hD hS (lv_sub hl [2, 3, 1, 0] rfl)
def fl_X7_logs_12 (p1 : Int32) : Nat → Int32 → (Nat → Int32) → (Nat → Int32)
  | 0, _, _ => (fun _ => 0)
  | n + 1, x12_2, w12_0 => (if 109 ≤ x12_2 then (gL (upd w12_0 81 ((w12_0 81) - 1)) (fun (z12 : (Nat → Int32)) => (gL ((82 + (3 * (z12 81)))) (fun (v13 : Int32) => (gL (upd z12 ((v13).toNatClampNeg) p1) (fun (z14 : (Nat → Int32)) => (gL (upd z14 ((v13 + 1).toNatClampNeg) (z14 76)) (fun (z16 : (Nat → Int32)) => (gL (upd z16 ((v13 + 2).toNatClampNeg) (z16 74)) (fun (z18 : (Nat → Int32)) => (gL (upd z18 81 ((z18 81) + 1)) (fun (z20 : (Nat → Int32)) => z20)))))))))))) else (gL (upd w12_0 ((x12_2).toNatClampNeg) (w12_0 ((x12_2 + 3).toNatClampNeg))) (fun (z22 : (Nat → Int32)) => (gL ((x12_2 + 1)) (fun (v24 : Int32) => (fl_X7_logs_12 p1 n v24 z22))))))
def okl_X7_logs_12 (p1 : Int32) : Nat → Int32 → (Nat → Int32) → Prop
  | 0, _, _ => False
  | n + 1, x12_2, w12_0 => ((109 ≤ x12_2 → (gL (upd w12_0 81 ((w12_0 81) - 1)) (fun (z12 : (Nat → Int32)) => (gL ((82 + (3 * (z12 81)))) (fun (v13 : Int32) => (vp_in v13 112) ∧ (gL (upd z12 ((v13).toNatClampNeg) p1) (fun (z14 : (Nat → Int32)) => (vp_in (v13 + 1) 112) ∧ (gL (upd z14 ((v13 + 1).toNatClampNeg) (z14 76)) (fun (z16 : (Nat → Int32)) => (vp_in (v13 + 2) 112) ∧ True))))))))) ∧ (¬ 109 ≤ x12_2 → (vp_in (x12_2 + 3) 112) ∧ (vp_in x12_2 112) ∧ (gL (upd w12_0 ((x12_2).toNatClampNeg) (w12_0 ((x12_2 + 3).toNatClampNeg))) (fun (z22 : (Nat → Int32)) => (gL ((x12_2 + 1)) (fun (v24 : Int32) => (okl_X7_logs_12 p1 n v24 z22)))))))
def f_X7_logs (f : (Nat → Int32)) (p1 : Int32) : (Nat → Int32) := (if (f 81) = 10 then (fl_X7_logs_12 p1 28 82 f) else (gL ((82 + (3 * (f 81)))) (fun (v2 : Int32) => (gL (upd f ((v2).toNatClampNeg) p1) (fun (z3 : (Nat → Int32)) => (gL (upd z3 ((v2 + 1).toNatClampNeg) (z3 76)) (fun (z5 : (Nat → Int32)) => (gL (upd z5 ((v2 + 2).toNatClampNeg) (z5 74)) (fun (z7 : (Nat → Int32)) => (gL (upd z7 81 ((z7 81) + 1)) (fun (z9 : (Nat → Int32)) => z9)))))))))))
def ok_X7_logs (f : (Nat → Int32)) (p1 : Int32) : Prop := (((f 81) = 10 → (okl_X7_logs_12 p1 28 82 f)) ∧ (¬ (f 81) = 10 → (gL ((82 + (3 * (f 81)))) (fun (v2 : Int32) => (vp_in v2 112) ∧ (gL (upd f ((v2).toNatClampNeg) p1) (fun (z3 : (Nat → Int32)) => (vp_in (v2 + 1) 112) ∧ (gL (upd z3 ((v2 + 1).toNatClampNeg) (z3 76)) (fun (z5 : (Nat → Int32)) => (vp_in (v2 + 2) 112) ∧ True))))))))
set_option maxHeartbeats 4000000 in
set_option maxRecDepth 100000 in
theorem c_X7_logs (l : Launch) (G : gG) (r : Nat) (f : (Nat → Int32)) (p1 : Int32) (R : (Nat → Int32)) (hR : R = f_X7_logs f p1) (hok : ok_X7_logs f p1) : CT l G yX7_logs wsX7_logs 0 0 [.ref r, .int p1] [AW G r 112 f] none [AW G r 112 R] := by
  unfold f_X7_logs at hR
  unfold ok_X7_logs at hok
  refine CT.of (cc := cX7_logs) (maxL := 3) (ret := none) (plainFor_of_name (by decide +kernel)) rfl rfl (Nat.le_of_ble_eq_true rfl) ?_
  intro p e s m below meth c A ls hx hb hml hr hts hown hlocks hK hP hD hA hS hl
  have hown : s.vm.findClass RX7 = some m.cls := hown
  have hl : lv_has ls 3 [(0, .ref r), (1, .int p1)] := hl
  refine lv_aload_n hx hb dX7_logs_0 rfl (lv_at hl 0 rfl) ?_
  refine lv_bipush (v := 81) hx hb dX7_logs_1 (by decide) ?_
  refine g_ld (n := 112) (f := f) (v := f 81) (k := 81) hx hb hK hP 0 rfl (by decide) (by unfold vp_in; decide) rfl dX7_logs_3 ?_
  refine lv_bipush (v := 10) hx hb dX7_logs_4 (by decide) ?_
  refine lv_icmp_ne (tgt := 40) hx hb dX7_logs_6 (by decide) (fun c1 => ?_) (fun c1 => ?_)
  · rw [if_neg c1] at hR
    have hok := hok.2 c1
    refine lv_bipush (v := 82) hx hb dX7_logs_40 (by decide) ?_
    refine lv_iconst (v := 3) hx hb dX7_logs_42 (by decide) ?_
    refine lv_aload_n hx hb dX7_logs_43 rfl (lv_at hl 0 rfl) ?_
    refine lv_bipush (v := 81) hx hb dX7_logs_44 (by decide) ?_
    refine g_ld (n := 112) (f := f) (v := f 81) (k := 81) hx hb hK hP 0 rfl (by decide) (by unfold vp_in; decide) rfl dX7_logs_46 ?_
    refine lv_imul hx hb dX7_logs_47 ?_
    refine lv_iadd hx hb dX7_logs_48 ?_
    obtain ⟨v2, ev2, hR, hok⟩ := g_let2 hR hok
    refine g_topE ev2.symm ?_
    refine lv_istore_n (lv' := [(2, .int v2), (0, .ref r), (1, .int p1)]) hx hb dX7_logs_49 rfl hl (by decide) rfl (fun ls hl => ?_)
    refine lv_aload_n hx hb dX7_logs_50 rfl (lv_at hl 1 rfl) ?_
    refine lv_iload_n hx hb dX7_logs_51 rfl (lv_at hl 0 rfl) ?_
    refine lv_iload_n hx hb dX7_logs_52 rfl (lv_at hl 2 rfl) ?_
    obtain ⟨k4, hok⟩ := hok
    obtain ⟨z3, ez3, hR, hok⟩ := g_let2 hR hok
    refine g_st (n := 112) (f := f) (k := ((v2).toNatClampNeg)) (B2 := [AW G r 112 z3]) hx hb hK hP hD hS 0 rfl rfl k4 (by subst ez3; rfl) dX7_logs_53 (fun H locs hP hD hS => ?_)
    refine lv_aload_n hx hb dX7_logs_54 rfl (lv_at hl 1 rfl) ?_
    refine lv_iload_n hx hb dX7_logs_55 rfl (lv_at hl 0 rfl) ?_
    refine lv_iconst (v := 1) hx hb dX7_logs_56 (by decide) ?_
    refine lv_iadd hx hb dX7_logs_57 ?_
    refine lv_aload_n hx hb dX7_logs_58 rfl (lv_at hl 1 rfl) ?_
    refine lv_bipush (v := 76) hx hb dX7_logs_59 (by decide) ?_
    refine g_ld (n := 112) (f := z3) (v := z3 76) (k := 76) hx hb hK hP 0 rfl (by decide) (by unfold vp_in; decide) rfl dX7_logs_61 ?_
    obtain ⟨k6, hok⟩ := hok
    obtain ⟨z5, ez5, hR, hok⟩ := g_let2 hR hok
    refine g_st (n := 112) (f := z3) (k := ((v2 + 1).toNatClampNeg)) (B2 := [AW G r 112 z5]) hx hb hK hP hD hS 0 rfl rfl k6 (by subst ez5; rfl) dX7_logs_62 (fun H locs hP hD hS => ?_)
    refine lv_aload_n hx hb dX7_logs_63 rfl (lv_at hl 1 rfl) ?_
    refine lv_iload_n hx hb dX7_logs_64 rfl (lv_at hl 0 rfl) ?_
    refine lv_iconst (v := 2) hx hb dX7_logs_65 (by decide) ?_
    refine lv_iadd hx hb dX7_logs_66 ?_
    refine lv_aload_n hx hb dX7_logs_67 rfl (lv_at hl 1 rfl) ?_
    refine lv_bipush (v := 74) hx hb dX7_logs_68 (by decide) ?_
    refine g_ld (n := 112) (f := z5) (v := z5 74) (k := 74) hx hb hK hP 0 rfl (by decide) (by unfold vp_in; decide) rfl dX7_logs_70 ?_
    obtain ⟨k8, hok⟩ := hok
    obtain ⟨z7, ez7, hR⟩ := g_let hR
    refine g_st (n := 112) (f := z5) (k := ((v2 + 2).toNatClampNeg)) (B2 := [AW G r 112 z7]) hx hb hK hP hD hS 0 rfl rfl k8 (by subst ez7; rfl) dX7_logs_71 (fun H locs hP hD hS => ?_)
    refine lv_aload_n hx hb dX7_logs_72 rfl (lv_at hl 1 rfl) ?_
    refine lv_bipush (v := 81) hx hb dX7_logs_73 (by decide) ?_
    refine lv_dup2_11 hx hb dX7_logs_75 rfl rfl ?_
    refine g_ld (n := 112) (f := z7) (v := z7 81) (k := 81) hx hb hK hP 0 rfl (by decide) (by unfold vp_in; decide) rfl dX7_logs_76 ?_
    refine lv_iconst (v := 1) hx hb dX7_logs_77 (by decide) ?_
    refine lv_iadd hx hb dX7_logs_78 ?_
    obtain ⟨z9, ez9, hR⟩ := g_let hR
    refine g_st (n := 112) (f := z7) (k := 81) (B2 := [AW G r 112 z9]) hx hb hK hP hD hS 0 rfl (by decide) (by unfold vp_in; decide) (by subst ez9; rfl) dX7_logs_79 (fun H locs hP hD hS => ?_)
    subst hR
    exact g_retv hx hb hr hlocks hS dX7_logs_80 rfl hP
  · rw [if_pos c1] at hR
    have hok := hok.1 c1
    refine lv_bipush (v := 82) hx hb dX7_logs_9 (by decide) ?_
    refine lv_istore_n (lv' := [(2, .int 82), (0, .ref r), (1, .int p1)]) hx hb dX7_logs_11 rfl hl (by decide) rfl (fun ls hl => ?_)
    have lp12 : ∀ (n : Nat) (x12_2 : Int32) (w12_0 : (Nat → Int32)) (H : Heap) (locs : List Loc) (ls : Array Slot), R = fl_X7_logs_12 p1 n x12_2 w12_0 → okl_X7_logs_12 p1 n x12_2 w12_0 → va_P G.1 vwCl (List.flatten [AW G r 112 w12_0]) H → va_D A (List.flatten [AW G r 112 w12_0]) → va_S A s.heap H locs → lv_has ls 3 [(0, .ref r), (1, .int p1), (2, .int x12_2)] → W p l e { frames := 0, cells := 0, slots := 0, locals := 0 } s m (List.toArray [.ref r, .int p1]) below meth c H locs 0 0 (gQ G below (List.toArray [.ref r, .int p1]) s none [AW G r 112 R] A) (F0 m 12 ls []) := by
      intro n
      induction n with
      | zero =>
        intro x12_2 w12_0 H locs ls hR hok hP hD hS hl
        rw [okl_X7_logs_12] at hok
        exact hok.elim
      | succ n ih =>
        intro x12_2 w12_0 H locs ls hR hok hP hD hS hl
        rw [fl_X7_logs_12] at hR
        rw [okl_X7_logs_12] at hok
        refine lv_iload_n hx hb dX7_logs_12 rfl (lv_at hl 2 rfl) ?_
        refine lv_bipush (v := 109) hx hb dX7_logs_13 (by decide) ?_
        refine lv_icmp_ge (tgt := 32) hx hb dX7_logs_15 (by decide) (fun c11 => ?_) (fun c11 => ?_)
        · rw [if_pos c11] at hR
          have hok := hok.1 c11
          refine lv_aload_n hx hb dX7_logs_32 rfl (lv_at hl 0 rfl) ?_
          refine lv_bipush (v := 81) hx hb dX7_logs_33 (by decide) ?_
          refine lv_dup2_11 hx hb dX7_logs_35 rfl rfl ?_
          refine g_ld (n := 112) (f := w12_0) (v := w12_0 81) (k := 81) hx hb hK hP 0 rfl (by decide) (by unfold vp_in; decide) rfl dX7_logs_36 ?_
          refine lv_iconst (v := 1) hx hb dX7_logs_37 (by decide) ?_
          refine lv_isub hx hb dX7_logs_38 ?_
          obtain ⟨z12, ez12, hR, hok⟩ := g_let2 hR hok
          refine g_st (n := 112) (f := w12_0) (k := 81) (B2 := [AW G r 112 z12]) hx hb hK hP hD hS 0 rfl (by decide) (by unfold vp_in; decide) (by subst ez12; rfl) dX7_logs_39 (fun H locs hP hD hS => ?_)
          refine lv_bipush (v := 82) hx hb dX7_logs_40 (by decide) ?_
          refine lv_iconst (v := 3) hx hb dX7_logs_42 (by decide) ?_
          refine lv_aload_n hx hb dX7_logs_43 rfl (lv_at hl 0 rfl) ?_
          refine lv_bipush (v := 81) hx hb dX7_logs_44 (by decide) ?_
          refine g_ld (n := 112) (f := z12) (v := z12 81) (k := 81) hx hb hK hP 0 rfl (by decide) (by unfold vp_in; decide) rfl dX7_logs_46 ?_
          refine lv_imul hx hb dX7_logs_47 ?_
          refine lv_iadd hx hb dX7_logs_48 ?_
          obtain ⟨v13, ev13, hR, hok⟩ := g_let2 hR hok
          refine g_topE ev13.symm ?_
          refine lv_istore_n (lv' := [(2, .int v13), (0, .ref r), (1, .int p1)]) hx hb dX7_logs_49 rfl hl (by decide) rfl (fun ls hl => ?_)
          refine lv_aload_n hx hb dX7_logs_50 rfl (lv_at hl 1 rfl) ?_
          refine lv_iload_n hx hb dX7_logs_51 rfl (lv_at hl 0 rfl) ?_
          refine lv_iload_n hx hb dX7_logs_52 rfl (lv_at hl 2 rfl) ?_
          obtain ⟨k15, hok⟩ := hok
          obtain ⟨z14, ez14, hR, hok⟩ := g_let2 hR hok
          refine g_st (n := 112) (f := z12) (k := ((v13).toNatClampNeg)) (B2 := [AW G r 112 z14]) hx hb hK hP hD hS 0 rfl rfl k15 (by subst ez14; rfl) dX7_logs_53 (fun H locs hP hD hS => ?_)
          refine lv_aload_n hx hb dX7_logs_54 rfl (lv_at hl 1 rfl) ?_
          refine lv_iload_n hx hb dX7_logs_55 rfl (lv_at hl 0 rfl) ?_
          refine lv_iconst (v := 1) hx hb dX7_logs_56 (by decide) ?_
          refine lv_iadd hx hb dX7_logs_57 ?_
          refine lv_aload_n hx hb dX7_logs_58 rfl (lv_at hl 1 rfl) ?_
          refine lv_bipush (v := 76) hx hb dX7_logs_59 (by decide) ?_
          refine g_ld (n := 112) (f := z14) (v := z14 76) (k := 76) hx hb hK hP 0 rfl (by decide) (by unfold vp_in; decide) rfl dX7_logs_61 ?_
          obtain ⟨k17, hok⟩ := hok
          obtain ⟨z16, ez16, hR, hok⟩ := g_let2 hR hok
          refine g_st (n := 112) (f := z14) (k := ((v13 + 1).toNatClampNeg)) (B2 := [AW G r 112 z16]) hx hb hK hP hD hS 0 rfl rfl k17 (by subst ez16; rfl) dX7_logs_62 (fun H locs hP hD hS => ?_)
          refine lv_aload_n hx hb dX7_logs_63 rfl (lv_at hl 1 rfl) ?_
          refine lv_iload_n hx hb dX7_logs_64 rfl (lv_at hl 0 rfl) ?_
          refine lv_iconst (v := 2) hx hb dX7_logs_65 (by decide) ?_
          refine lv_iadd hx hb dX7_logs_66 ?_
          refine lv_aload_n hx hb dX7_logs_67 rfl (lv_at hl 1 rfl) ?_
          refine lv_bipush (v := 74) hx hb dX7_logs_68 (by decide) ?_
          refine g_ld (n := 112) (f := z16) (v := z16 74) (k := 74) hx hb hK hP 0 rfl (by decide) (by unfold vp_in; decide) rfl dX7_logs_70 ?_
          obtain ⟨k19, hok⟩ := hok
          obtain ⟨z18, ez18, hR⟩ := g_let hR
          refine g_st (n := 112) (f := z16) (k := ((v13 + 2).toNatClampNeg)) (B2 := [AW G r 112 z18]) hx hb hK hP hD hS 0 rfl rfl k19 (by subst ez18; rfl) dX7_logs_71 (fun H locs hP hD hS => ?_)
          refine lv_aload_n hx hb dX7_logs_72 rfl (lv_at hl 1 rfl) ?_
          refine lv_bipush (v := 81) hx hb dX7_logs_73 (by decide) ?_
          refine lv_dup2_11 hx hb dX7_logs_75 rfl rfl ?_
          refine g_ld (n := 112) (f := z18) (v := z18 81) (k := 81) hx hb hK hP 0 rfl (by decide) (by unfold vp_in; decide) rfl dX7_logs_76 ?_
          refine lv_iconst (v := 1) hx hb dX7_logs_77 (by decide) ?_
          refine lv_iadd hx hb dX7_logs_78 ?_
          obtain ⟨z20, ez20, hR⟩ := g_let hR
          refine g_st (n := 112) (f := z18) (k := 81) (B2 := [AW G r 112 z20]) hx hb hK hP hD hS 0 rfl (by decide) (by unfold vp_in; decide) (by subst ez20; rfl) dX7_logs_79 (fun H locs hP hD hS => ?_)
          subst hR
          exact g_retv hx hb hr hlocks hS dX7_logs_80 rfl hP
        · rw [if_neg c11] at hR
          have hok := hok.2 c11
          refine lv_aload_n hx hb dX7_logs_18 rfl (lv_at hl 0 rfl) ?_
          refine lv_iload_n hx hb dX7_logs_19 rfl (lv_at hl 2 rfl) ?_
          refine lv_aload_n hx hb dX7_logs_20 rfl (lv_at hl 0 rfl) ?_
          refine lv_iload_n hx hb dX7_logs_21 rfl (lv_at hl 2 rfl) ?_
          refine lv_iconst (v := 3) hx hb dX7_logs_22 (by decide) ?_
          refine lv_iadd hx hb dX7_logs_23 ?_
          obtain ⟨k21, hok⟩ := hok
          refine g_ld (n := 112) (f := w12_0) (v := w12_0 ((x12_2 + 3).toNatClampNeg)) (k := ((x12_2 + 3).toNatClampNeg)) hx hb hK hP 0 rfl rfl k21 rfl dX7_logs_24 ?_
          obtain ⟨k23, hok⟩ := hok
          obtain ⟨z22, ez22, hR, hok⟩ := g_let2 hR hok
          refine g_st (n := 112) (f := w12_0) (k := ((x12_2).toNatClampNeg)) (B2 := [AW G r 112 z22]) hx hb hK hP hD hS 0 rfl rfl k23 (by subst ez22; rfl) dX7_logs_25 (fun H locs hP hD hS => ?_)
          obtain ⟨v24, ev24, hR, hok⟩ := g_let2 hR hok
          refine lv_iinc (v := v24) (lv' := [(2, .int v24), (0, .ref r), (1, .int p1)]) hx hb dX7_logs_26 hl (k := 2) rfl (by subst ev24; rfl) (by decide) rfl (fun ls hl => ?_)
          refine lv_goto (tgt := 12) hx hb dX7_logs_29 (by decide) ?_
          exact ih v24 z22 _ _ _ hR hok hP hD hS (lv_sub hl [1, 2, 0] rfl)
    exact lp12 28 82 f _ _ _ hR hok hP hD hS (lv_sub hl [1, 2, 0] rfl)
def f_X7_isOut (f : (Nat → Int32)) : Int32 := (gL (f_X7_in (f 45) (f 47) (f 48)) (fun (R1 : Int32) => (if R1 = 0 then 1 else 0)))
set_option maxHeartbeats 4000000 in
set_option maxRecDepth 100000 in
theorem c_X7_isOut (l : Launch) (G : gG) (r : Nat) (f : (Nat → Int32)) (R : Int32) (hR : R = f_X7_isOut f) : CT l G yX7_isOut wsX7_isOut 1 22 [.ref r] [AW G r 112 f] (some (.int R)) [AW G r 112 f] := by
  unfold f_X7_isOut at hR
  refine CT.of (cc := cX7_isOut) (maxL := 1) (ret := (some .boolean)) (plainFor_of_name (by decide +kernel)) rfl rfl (Nat.le_of_ble_eq_true rfl) ?_
  intro p e s m below meth c A ls hx hb hml hr hts hown hlocks hK hP hD hA hS hl
  have hown : s.vm.findClass RX7 = some m.cls := hown
  have hl : lv_has ls 1 [(0, .ref r)] := hl
  refine lv_aload_n hx hb dX7_isOut_0 rfl (lv_at hl 0 rfl) ?_
  refine lv_bipush (v := 45) hx hb dX7_isOut_1 (by decide) ?_
  refine g_ld (n := 112) (f := f) (v := f 45) (k := 45) hx hb hK hP 0 rfl (by decide) (by unfold vp_in; decide) rfl dX7_isOut_3 ?_
  refine lv_aload_n hx hb dX7_isOut_4 rfl (lv_at hl 0 rfl) ?_
  refine lv_bipush (v := 47) hx hb dX7_isOut_5 (by decide) ?_
  refine g_ld (n := 112) (f := f) (v := f 47) (k := 47) hx hb hK hP 0 rfl (by decide) (by unfold vp_in; decide) rfl dX7_isOut_7 ?_
  refine lv_aload_n hx hb dX7_isOut_8 rfl (lv_at hl 0 rfl) ?_
  refine lv_bipush (v := 48) hx hb dX7_isOut_9 (by decide) ?_
  refine g_ld (n := 112) (f := f) (v := f 48) (k := 48) hx hb hK hP 0 rfl (by decide) (by unfold vp_in; decide) rfl dX7_isOut_11 ?_
  obtain ⟨R1, eR1, hR⟩ := g_let hR
  refine g_callS (c_X7_in l G (f 45) (f 47) (f 48) R1 eR1) hx hb hml hown hts hK hP hD hS hA gX7_isOut_X7_in rfl (n := 3) (by decide +kernel) rfl ⟨Nat.le_of_ble_eq_true rfl, Nat.le_of_ble_eq_true rfl⟩ [] rfl (by decide) hl.1 rfl (Nat.le_of_ble_eq_true rfl) ⟨Nat.zero_le _, Nat.zero_le _⟩ dX7_isOut_12 (fun H locs hP hD hS => ?_)
  have hP : va_P G.1 vwCl (List.flatten [AW G r 112 f]) H := hP
  have hD : va_D A (List.flatten [AW G r 112 f]) := hD
  refine lv_if_ne (tgt := 22) hx hb dX7_isOut_15 (by decide) (fun c3 => ?_) (fun c3 => ?_)
  · rw [if_neg c3] at hR
    refine lv_iconst (v := 0) hx hb dX7_isOut_22 (by decide) ?_
    subst hR
    exact g_retz hx hb hr hlocks hS rfl dX7_isOut_23 rfl hP
  · rw [if_pos c3] at hR
    refine lv_iconst (v := 1) hx hb dX7_isOut_18 (by decide) ?_
    refine lv_goto (tgt := 23) hx hb dX7_isOut_19 (by decide) ?_
    subst hR
    exact g_retz hx hb hr hlocks hS rfl dX7_isOut_23 rfl hP
def f_X7_ofStage (f : (Nat → Int32)) (p1 : Int32) (p2 : Int32) : Int32 := f (((51 + (4 * p1)) + p2).toNatClampNeg)
def ok_X7_ofStage (p1 : Int32) (p2 : Int32) : Prop := (vp_in ((51 + (4 * p1)) + p2) 112) ∧ True
set_option maxHeartbeats 4000000 in
set_option maxRecDepth 100000 in
theorem c_X7_ofStage (l : Launch) (G : gG) (r : Nat) (f : (Nat → Int32)) (p1 : Int32) (p2 : Int32) (R : Int32) (hR : R = f_X7_ofStage f p1 p2) (hok : ok_X7_ofStage p1 p2) : CT l G yX7_ofStage wsX7_ofStage 0 0 [.ref r, .int p1, .int p2] [AW G r 112 f] (some (.int R)) [AW G r 112 f] := by
  unfold f_X7_ofStage at hR
  unfold ok_X7_ofStage at hok
  refine CT.of (cc := cX7_ofStage) (maxL := 3) (ret := (some .int)) (plainFor_of_name (by decide +kernel)) rfl rfl (Nat.le_of_ble_eq_true rfl) ?_
  intro p e s m below meth c A ls hx hb hml hr hts hown hlocks hK hP hD hA hS hl
  have hown : s.vm.findClass RX7 = some m.cls := hown
  have hl : lv_has ls 3 [(0, .ref r), (1, .int p1), (2, .int p2)] := hl
  refine lv_aload_n hx hb dX7_ofStage_0 rfl (lv_at hl 0 rfl) ?_
  refine lv_bipush (v := 51) hx hb dX7_ofStage_1 (by decide) ?_
  refine lv_iconst (v := 4) hx hb dX7_ofStage_3 (by decide) ?_
  refine lv_iload_n hx hb dX7_ofStage_4 rfl (lv_at hl 1 rfl) ?_
  refine lv_imul hx hb dX7_ofStage_5 ?_
  refine lv_iadd hx hb dX7_ofStage_6 ?_
  refine lv_iload_n hx hb dX7_ofStage_7 rfl (lv_at hl 2 rfl) ?_
  refine lv_iadd hx hb dX7_ofStage_8 ?_
  obtain ⟨k1, hok⟩ := hok
  refine g_ld (n := 112) (f := f) (v := f (((51 + (4 * p1)) + p2).toNatClampNeg)) (k := (((51 + (4 * p1)) + p2).toNatClampNeg)) hx hb hK hP 0 rfl rfl k1 rfl dX7_ofStage_9 ?_
  subst hR
  exact g_ret hx hb hr hlocks hS dX7_ofStage_10 rfl hP
def f_X7_limit (f : (Nat → Int32)) (p1 : Int32) : Int32 := (gL (f_X7_ofStage f p1 0) (fun (R1 : Int32) => (if R1 = 0 then (gL (f_X7_ofStage f p1 2) (fun (R6 : Int32) => (R6 - ((f 46) * ((f 45) - 25))))) else (gL (f_X7_ofStage f p1 1) (fun (R4 : Int32) => (R4 - ((f 46) * ((f 45) - 25))))))))
def ok_X7_limit (f : (Nat → Int32)) (p1 : Int32) : Prop := (ok_X7_ofStage p1 0) ∧ (gL (f_X7_ofStage f p1 0) (fun (R1 : Int32) => ((R1 = 0 → (ok_X7_ofStage p1 2) ∧ True) ∧ (¬ R1 = 0 → (ok_X7_ofStage p1 1) ∧ True))))
set_option maxHeartbeats 4000000 in
set_option maxRecDepth 100000 in
theorem c_X7_limit (l : Launch) (G : gG) (r : Nat) (f : (Nat → Int32)) (p1 : Int32) (R : Int32) (hR : R = f_X7_limit f p1) (hok : ok_X7_limit f p1) : CT l G yX7_limit wsX7_limit 1 22 [.ref r, .int p1] [AW G r 112 f] (some (.int R)) [AW G r 112 f] := by
  unfold f_X7_limit at hR
  unfold ok_X7_limit at hok
  refine CT.of (cc := cX7_limit) (maxL := 3) (ret := (some .int)) (plainFor_of_name (by decide +kernel)) rfl rfl (Nat.le_of_ble_eq_true rfl) ?_
  intro p e s m below meth c A ls hx hb hml hr hts hown hlocks hK hP hD hA hS hl
  have hown : s.vm.findClass RX7 = some m.cls := hown
  have hl : lv_has ls 3 [(0, .ref r), (1, .int p1)] := hl
  refine lv_aload_n hx hb dX7_limit_0 rfl (lv_at hl 0 rfl) ?_
  refine lv_iload_n hx hb dX7_limit_1 rfl (lv_at hl 1 rfl) ?_
  refine lv_aload_n hx hb dX7_limit_2 rfl (lv_at hl 0 rfl) ?_
  refine lv_iload_n hx hb dX7_limit_3 rfl (lv_at hl 1 rfl) ?_
  refine lv_iconst (v := 0) hx hb dX7_limit_4 (by decide) ?_
  obtain ⟨k2, hok⟩ := hok
  obtain ⟨R1, eR1, hR, hok⟩ := g_let2 hR hok
  refine g_callS (c_X7_ofStage l G r f p1 0 R1 eR1 k2) hx hb hml hown hts hK hP hD hS hA gX7_limit_X7_ofStage rfl (n := 3) (by decide +kernel) rfl ⟨Nat.le_of_ble_eq_true rfl, Nat.le_of_ble_eq_true rfl⟩ [0] rfl (by decide) hl.1 rfl (Nat.le_of_ble_eq_true rfl) ⟨Nat.zero_le _, Nat.zero_le _⟩ dX7_limit_5 (fun H locs hP hD hS => ?_)
  have hP : va_P G.1 vwCl (List.flatten [AW G r 112 f]) H := hP
  have hD : va_D A (List.flatten [AW G r 112 f]) := hD
  refine lv_if_ne (tgt := 15) hx hb dX7_limit_8 (by decide) (fun c3 => ?_) (fun c3 => ?_)
  · rw [if_neg c3] at hR
    have hok := hok.2 c3
    refine lv_iconst (v := 1) hx hb dX7_limit_15 (by decide) ?_
    obtain ⟨k5, hok⟩ := hok
    obtain ⟨R4, eR4, hR⟩ := g_let hR
    refine g_callS (c_X7_ofStage l G r f p1 1 R4 eR4 k5) hx hb hml hown hts hK hP hD hS hA gX7_limit_X7_ofStage rfl (n := 3) (by decide +kernel) rfl ⟨Nat.le_of_ble_eq_true rfl, Nat.le_of_ble_eq_true rfl⟩ [0] rfl (by decide) hl.1 rfl (Nat.le_of_ble_eq_true rfl) ⟨Nat.zero_le _, Nat.zero_le _⟩ dX7_limit_16 (fun H locs hP hD hS => ?_)
    have hP : va_P G.1 vwCl (List.flatten [AW G r 112 f]) H := hP
    have hD : va_D A (List.flatten [AW G r 112 f]) := hD
    refine lv_istore_n (lv' := [(2, .int R4), (0, .ref r), (1, .int p1)]) hx hb dX7_limit_19 rfl hl (by decide) rfl (fun ls hl => ?_)
    refine lv_iload_n hx hb dX7_limit_20 rfl (lv_at hl 0 rfl) ?_
    refine lv_aload_n hx hb dX7_limit_21 rfl (lv_at hl 1 rfl) ?_
    refine lv_bipush (v := 46) hx hb dX7_limit_22 (by decide) ?_
    refine g_ld (n := 112) (f := f) (v := f 46) (k := 46) hx hb hK hP 0 rfl (by decide) (by unfold vp_in; decide) rfl dX7_limit_24 ?_
    refine lv_aload_n hx hb dX7_limit_25 rfl (lv_at hl 1 rfl) ?_
    refine lv_bipush (v := 45) hx hb dX7_limit_26 (by decide) ?_
    refine g_ld (n := 112) (f := f) (v := f 45) (k := 45) hx hb hK hP 0 rfl (by decide) (by unfold vp_in; decide) rfl dX7_limit_28 ?_
    refine lv_bipush (v := 25) hx hb dX7_limit_29 (by decide) ?_
    refine lv_isub hx hb dX7_limit_31 ?_
    refine lv_imul hx hb dX7_limit_32 ?_
    refine lv_isub hx hb dX7_limit_33 ?_
    subst hR
    exact g_ret hx hb hr hlocks hS dX7_limit_34 rfl hP
  · rw [if_pos c3] at hR
    have hok := hok.1 c3
    refine lv_iconst (v := 2) hx hb dX7_limit_11 (by decide) ?_
    refine lv_goto (tgt := 16) hx hb dX7_limit_12 (by decide) ?_
    obtain ⟨k7, hok⟩ := hok
    obtain ⟨R6, eR6, hR⟩ := g_let hR
    refine g_callS (c_X7_ofStage l G r f p1 2 R6 eR6 k7) hx hb hml hown hts hK hP hD hS hA gX7_limit_X7_ofStage rfl (n := 3) (by decide +kernel) rfl ⟨Nat.le_of_ble_eq_true rfl, Nat.le_of_ble_eq_true rfl⟩ [0] rfl (by decide) hl.1 rfl (Nat.le_of_ble_eq_true rfl) ⟨Nat.zero_le _, Nat.zero_le _⟩ dX7_limit_16 (fun H locs hP hD hS => ?_)
    have hP : va_P G.1 vwCl (List.flatten [AW G r 112 f]) H := hP
    have hD : va_D A (List.flatten [AW G r 112 f]) := hD
    refine lv_istore_n (lv' := [(2, .int R6), (0, .ref r), (1, .int p1)]) hx hb dX7_limit_19 rfl hl (by decide) rfl (fun ls hl => ?_)
    refine lv_iload_n hx hb dX7_limit_20 rfl (lv_at hl 0 rfl) ?_
    refine lv_aload_n hx hb dX7_limit_21 rfl (lv_at hl 1 rfl) ?_
    refine lv_bipush (v := 46) hx hb dX7_limit_22 (by decide) ?_
    refine g_ld (n := 112) (f := f) (v := f 46) (k := 46) hx hb hK hP 0 rfl (by decide) (by unfold vp_in; decide) rfl dX7_limit_24 ?_
    refine lv_aload_n hx hb dX7_limit_25 rfl (lv_at hl 1 rfl) ?_
    refine lv_bipush (v := 45) hx hb dX7_limit_26 (by decide) ?_
    refine g_ld (n := 112) (f := f) (v := f 45) (k := 45) hx hb hK hP 0 rfl (by decide) (by unfold vp_in; decide) rfl dX7_limit_28 ?_
    refine lv_bipush (v := 25) hx hb dX7_limit_29 (by decide) ?_
    refine lv_isub hx hb dX7_limit_31 ?_
    refine lv_imul hx hb dX7_limit_32 ?_
    refine lv_isub hx hb dX7_limit_33 ?_
    subst hR
    exact g_ret hx hb hr hlocks hS dX7_limit_34 rfl hP
def f_X7_held (f : (Nat → Int32)) : Int32 := (gL (f_X7_limit f (f 74)) (fun (R1 : Int32) => (gL (f_X7_highest f) (fun (R3 : Int32) => (gL ((R1 - R3)) (fun (v5 : Int32) => (if 0 ≤ v5 then (if (f 43) = 0 then 2000 else (gL ((((1000 * v5) + 999) / (f 43))) (fun (v9 : Int32) => (if v9 ≤ 2000 then v9 else 2000)))) else 0)))))))
def ok_X7_held (f : (Nat → Int32)) : Prop := (ok_X7_limit f (f 74)) ∧ (gL (f_X7_limit f (f 74)) (fun (R1 : Int32) => (ok_X7_highest f) ∧ (gL (f_X7_highest f) (fun (R3 : Int32) => (gL ((R1 - R3)) (fun (v5 : Int32) => ((0 ≤ v5 → (((f 43) = 0 → True) ∧ (¬ (f 43) = 0 → (¬ (f 43) = 0) ∧ True))) ∧ (¬ 0 ≤ v5 → True))))))))
set_option maxHeartbeats 4000000 in
set_option maxRecDepth 100000 in
theorem c_X7_held (l : Launch) (G : gG) (r : Nat) (f : (Nat → Int32)) (R : Int32) (hR : R = f_X7_held f) (hok : ok_X7_held f) : CT l G yX7_held wsX7_held 3 65 [.ref r] [AW G r 112 f] (some (.int R)) [AW G r 112 f] := by
  unfold f_X7_held at hR
  unfold ok_X7_held at hok
  refine CT.of (cc := cX7_held) (maxL := 3) (ret := (some .int)) (plainFor_of_name (by decide +kernel)) rfl rfl (Nat.le_of_ble_eq_true rfl) ?_
  intro p e s m below meth c A ls hx hb hml hr hts hown hlocks hK hP hD hA hS hl
  have hown : s.vm.findClass RX7 = some m.cls := hown
  have hl : lv_has ls 3 [(0, .ref r)] := hl
  refine lv_aload_n hx hb dX7_held_0 rfl (lv_at hl 0 rfl) ?_
  refine lv_aload_n hx hb dX7_held_1 rfl (lv_at hl 0 rfl) ?_
  refine lv_bipush (v := 74) hx hb dX7_held_2 (by decide) ?_
  refine g_ld (n := 112) (f := f) (v := f 74) (k := 74) hx hb hK hP 0 rfl (by decide) (by unfold vp_in; decide) rfl dX7_held_4 ?_
  obtain ⟨k2, hok⟩ := hok
  obtain ⟨R1, eR1, hR, hok⟩ := g_let2 hR hok
  refine g_callS (c_X7_limit l G r f (f 74) R1 eR1 k2) hx hb hml hown hts hK hP hD hS hA gX7_held_X7_limit rfl (n := 2) (by decide +kernel) rfl ⟨Nat.le_of_ble_eq_true rfl, Nat.le_of_ble_eq_true rfl⟩ [0] rfl (by decide) hl.1 rfl (Nat.le_of_ble_eq_true rfl) ⟨Nat.zero_le _, Nat.zero_le _⟩ dX7_held_5 (fun H locs hP hD hS => ?_)
  have hP : va_P G.1 vwCl (List.flatten [AW G r 112 f]) H := hP
  have hD : va_D A (List.flatten [AW G r 112 f]) := hD
  refine lv_aload_n hx hb dX7_held_8 rfl (lv_at hl 0 rfl) ?_
  obtain ⟨k4, hok⟩ := hok
  obtain ⟨R3, eR3, hR, hok⟩ := g_let2 hR hok
  refine g_callS (c_X7_highest l G r f R3 eR3 k4) hx hb hml hown hts hK hP hD hS hA gX7_held_X7_highest rfl (n := 1) (by decide +kernel) rfl ⟨Nat.le_of_ble_eq_true rfl, Nat.le_of_ble_eq_true rfl⟩ [0] rfl (by decide) hl.1 rfl (Nat.le_of_ble_eq_true rfl) ⟨Nat.zero_le _, Nat.zero_le _⟩ dX7_held_9 (fun H locs hP hD hS => ?_)
  have hP : va_P G.1 vwCl (List.flatten [AW G r 112 f]) H := hP
  have hD : va_D A (List.flatten [AW G r 112 f]) := hD
  refine lv_isub hx hb dX7_held_12 ?_
  obtain ⟨v5, ev5, hR, hok⟩ := g_let2 hR hok
  refine g_topE ev5.symm ?_
  refine lv_istore_n (lv' := [(1, .int v5), (0, .ref r)]) hx hb dX7_held_13 rfl hl (by decide) rfl (fun ls hl => ?_)
  refine lv_iload_n hx hb dX7_held_14 rfl (lv_at hl 0 rfl) ?_
  refine lv_if_ge (tgt := 20) hx hb dX7_held_15 (by decide) (fun c6 => ?_) (fun c6 => ?_)
  · rw [if_pos c6] at hR
    have hok := hok.1 c6
    refine lv_aload_n hx hb dX7_held_20 rfl (lv_at hl 1 rfl) ?_
    refine lv_bipush (v := 43) hx hb dX7_held_21 (by decide) ?_
    refine g_ld (n := 112) (f := f) (v := f 43) (k := 43) hx hb hK hP 0 rfl (by decide) (by unfold vp_in; decide) rfl dX7_held_23 ?_
    refine lv_if_ne (tgt := 31) hx hb dX7_held_24 (by decide) (fun c7 => ?_) (fun c7 => ?_)
    · rw [if_neg c7] at hR
      have hok := hok.2 c7
      refine lv_sipush (v := 1000) hx hb dX7_held_31 (by decide) ?_
      refine lv_iload_n hx hb dX7_held_34 rfl (lv_at hl 0 rfl) ?_
      refine lv_imul hx hb dX7_held_35 ?_
      refine lv_sipush (v := 999) hx hb dX7_held_36 (by decide) ?_
      refine lv_iadd hx hb dX7_held_39 ?_
      refine lv_aload_n hx hb dX7_held_40 rfl (lv_at hl 1 rfl) ?_
      refine lv_bipush (v := 43) hx hb dX7_held_41 (by decide) ?_
      refine g_ld (n := 112) (f := f) (v := f 43) (k := 43) hx hb hK hP 0 rfl (by decide) (by unfold vp_in; decide) rfl dX7_held_43 ?_
      obtain ⟨k8, hok⟩ := hok
      refine lv_idiv hx hb dX7_held_44 k8 ?_
      obtain ⟨v9, ev9, hR⟩ := g_let hR
      refine g_topE ev9.symm ?_
      refine lv_istore_n (lv' := [(2, .int v9), (1, .int v5), (0, .ref r)]) hx hb dX7_held_45 rfl hl (by decide) rfl (fun ls hl => ?_)
      refine lv_iload_n hx hb dX7_held_46 rfl (lv_at hl 0 rfl) ?_
      refine lv_sipush (v := 2000) hx hb dX7_held_47 (by decide) ?_
      refine lv_icmp_le (tgt := 59) hx hb dX7_held_50 (by decide) (fun c10 => ?_) (fun c10 => ?_)
      · rw [if_pos c10] at hR
        refine lv_iload_n hx hb dX7_held_59 rfl (lv_at hl 0 rfl) ?_
        subst hR
        exact g_ret hx hb hr hlocks hS dX7_held_60 rfl hP
      · rw [if_neg c10] at hR
        refine lv_sipush (v := 2000) hx hb dX7_held_53 (by decide) ?_
        refine lv_goto (tgt := 60) hx hb dX7_held_56 (by decide) ?_
        subst hR
        exact g_ret hx hb hr hlocks hS dX7_held_60 rfl hP
    · rw [if_pos c7] at hR
      have hok := hok.1 c7
      refine lv_sipush (v := 2000) hx hb dX7_held_27 (by decide) ?_
      subst hR
      exact g_ret hx hb hr hlocks hS dX7_held_30 rfl hP
  · rw [if_neg c6] at hR
    have hok := hok.2 c6
    refine lv_iconst (v := 0) hx hb dX7_held_18 (by decide) ?_
    subst hR
    exact g_ret hx hb hr hlocks hS dX7_held_19 rfl hP
def f_X7_told (f : (Nat → Int32)) : Int32 := (gL (f_X7_ofStage f (f 74) 0) (fun (R1 : Int32) => (if R1 = 0 then (gL (f_X7_ofStage f (f 74) 1) (fun (R7 : Int32) => R7)) else (if R1 = 1 then (gL (f_X7_held f) (fun (R5 : Int32) => R5)) else 0))))
def ok_X7_told (f : (Nat → Int32)) : Prop := (ok_X7_ofStage (f 74) 0) ∧ (gL (f_X7_ofStage f (f 74) 0) (fun (R1 : Int32) => ((R1 = 0 → (ok_X7_ofStage (f 74) 1) ∧ True) ∧ (¬ R1 = 0 → ((R1 = 1 → (ok_X7_held f) ∧ True) ∧ (¬ R1 = 1 → True))))))
set_option maxHeartbeats 4000000 in
set_option maxRecDepth 100000 in
theorem c_X7_told (l : Launch) (G : gG) (r : Nat) (f : (Nat → Int32)) (R : Int32) (hR : R = f_X7_told f) (hok : ok_X7_told f) : CT l G yX7_told wsX7_told 4 87 [.ref r] [AW G r 112 f] (some (.int R)) [AW G r 112 f] := by
  unfold f_X7_told at hR
  unfold ok_X7_told at hok
  refine CT.of (cc := cX7_told) (maxL := 2) (ret := (some .int)) (plainFor_of_name (by decide +kernel)) rfl rfl (Nat.le_of_ble_eq_true rfl) ?_
  intro p e s m below meth c A ls hx hb hml hr hts hown hlocks hK hP hD hA hS hl
  have hown : s.vm.findClass RX7 = some m.cls := hown
  have hl : lv_has ls 2 [(0, .ref r)] := hl
  refine lv_aload_n hx hb dX7_told_0 rfl (lv_at hl 0 rfl) ?_
  refine lv_aload_n hx hb dX7_told_1 rfl (lv_at hl 0 rfl) ?_
  refine lv_bipush (v := 74) hx hb dX7_told_2 (by decide) ?_
  refine g_ld (n := 112) (f := f) (v := f 74) (k := 74) hx hb hK hP 0 rfl (by decide) (by unfold vp_in; decide) rfl dX7_told_4 ?_
  refine lv_iconst (v := 0) hx hb dX7_told_5 (by decide) ?_
  obtain ⟨k2, hok⟩ := hok
  obtain ⟨R1, eR1, hR, hok⟩ := g_let2 hR hok
  refine g_callS (c_X7_ofStage l G r f (f 74) 0 R1 eR1 k2) hx hb hml hown hts hK hP hD hS hA gX7_told_X7_ofStage rfl (n := 3) (by decide +kernel) rfl ⟨Nat.le_of_ble_eq_true rfl, Nat.le_of_ble_eq_true rfl⟩ [0] rfl (by decide) hl.1 rfl (Nat.le_of_ble_eq_true rfl) ⟨Nat.zero_le _, Nat.zero_le _⟩ dX7_told_6 (fun H locs hP hD hS => ?_)
  have hP : va_P G.1 vwCl (List.flatten [AW G r 112 f]) H := hP
  have hD : va_D A (List.flatten [AW G r 112 f]) := hD
  refine lv_istore_n (lv' := [(1, .int R1), (0, .ref r)]) hx hb dX7_told_9 rfl hl (by decide) rfl (fun ls hl => ?_)
  refine lv_iload_n hx hb dX7_told_10 rfl (lv_at hl 0 rfl) ?_
  refine lv_if_ne (tgt := 26) hx hb dX7_told_11 (by decide) (fun c3 => ?_) (fun c3 => ?_)
  · rw [if_neg c3] at hR
    have hok := hok.2 c3
    refine lv_iload_n hx hb dX7_told_26 rfl (lv_at hl 0 rfl) ?_
    refine lv_iconst (v := 1) hx hb dX7_told_27 (by decide) ?_
    refine lv_icmp_ne (tgt := 38) hx hb dX7_told_28 (by decide) (fun c4 => ?_) (fun c4 => ?_)
    · rw [if_neg c4] at hR
      have hok := hok.2 c4
      refine lv_iconst (v := 0) hx hb dX7_told_38 (by decide) ?_
      subst hR
      exact g_ret hx hb hr hlocks hS dX7_told_39 rfl hP
    · rw [if_pos c4] at hR
      have hok := hok.1 c4
      refine lv_aload_n hx hb dX7_told_31 rfl (lv_at hl 1 rfl) ?_
      obtain ⟨k6, hok⟩ := hok
      obtain ⟨R5, eR5, hR⟩ := g_let hR
      refine g_callS (c_X7_held l G r f R5 eR5 k6) hx hb hml hown hts hK hP hD hS hA gX7_told_X7_held rfl (n := 1) (by decide +kernel) rfl ⟨Nat.le_of_ble_eq_true rfl, Nat.le_of_ble_eq_true rfl⟩ [0] rfl (by decide) hl.1 rfl (Nat.le_of_ble_eq_true rfl) ⟨Nat.zero_le _, Nat.zero_le _⟩ dX7_told_32 (fun H locs hP hD hS => ?_)
      have hP : va_P G.1 vwCl (List.flatten [AW G r 112 f]) H := hP
      have hD : va_D A (List.flatten [AW G r 112 f]) := hD
      refine lv_goto (tgt := 39) hx hb dX7_told_35 (by decide) ?_
      subst hR
      exact g_ret hx hb hr hlocks hS dX7_told_39 rfl hP
  · rw [if_pos c3] at hR
    have hok := hok.1 c3
    refine lv_aload_n hx hb dX7_told_14 rfl (lv_at hl 1 rfl) ?_
    refine lv_aload_n hx hb dX7_told_15 rfl (lv_at hl 1 rfl) ?_
    refine lv_bipush (v := 74) hx hb dX7_told_16 (by decide) ?_
    refine g_ld (n := 112) (f := f) (v := f 74) (k := 74) hx hb hK hP 0 rfl (by decide) (by unfold vp_in; decide) rfl dX7_told_18 ?_
    refine lv_iconst (v := 1) hx hb dX7_told_19 (by decide) ?_
    obtain ⟨k8, hok⟩ := hok
    obtain ⟨R7, eR7, hR⟩ := g_let hR
    refine g_callS (c_X7_ofStage l G r f (f 74) 1 R7 eR7 k8) hx hb hml hown hts hK hP hD hS hA gX7_told_X7_ofStage rfl (n := 3) (by decide +kernel) rfl ⟨Nat.le_of_ble_eq_true rfl, Nat.le_of_ble_eq_true rfl⟩ [0] rfl (by decide) hl.1 rfl (Nat.le_of_ble_eq_true rfl) ⟨Nat.zero_le _, Nat.zero_le _⟩ dX7_told_20 (fun H locs hP hD hS => ?_)
    have hP : va_P G.1 vwCl (List.flatten [AW G r 112 f]) H := hP
    have hD : va_D A (List.flatten [AW G r 112 f]) := hD
    refine lv_goto (tgt := 39) hx hb dX7_told_23 (by decide) ?_
    subst hR
    exact g_ret hx hb hr hlocks hS dX7_told_39 rfl hP
def f_X7_endsAtOnce (f : (Nat → Int32)) (p1 : Int32) : Int32 := (gL (f_X7_ofStage f (f 74) 0) (fun (R1 : Int32) => (if R1 = 1 then (gL (f_X7_ofStage f (f 74) 2) (fun (R4 : Int32) => (if R4 < p1 then 0 else 1))) else 0)))
def ok_X7_endsAtOnce (f : (Nat → Int32)) : Prop := (ok_X7_ofStage (f 74) 0) ∧ (gL (f_X7_ofStage f (f 74) 0) (fun (R1 : Int32) => ((R1 = 1 → (ok_X7_ofStage (f 74) 2) ∧ True) ∧ (¬ R1 = 1 → True))))
set_option maxHeartbeats 4000000 in
set_option maxRecDepth 100000 in
theorem c_X7_endsAtOnce (l : Launch) (G : gG) (r : Nat) (f : (Nat → Int32)) (p1 : Int32) (R : Int32) (hR : R = f_X7_endsAtOnce f p1) (hok : ok_X7_endsAtOnce f) : CT l G yX7_endsAtOnce wsX7_endsAtOnce 1 22 [.ref r, .int p1] [AW G r 112 f] (some (.int R)) [AW G r 112 f] := by
  unfold f_X7_endsAtOnce at hR
  unfold ok_X7_endsAtOnce at hok
  refine CT.of (cc := cX7_endsAtOnce) (maxL := 2) (ret := (some .boolean)) (plainFor_of_name (by decide +kernel)) rfl rfl (Nat.le_of_ble_eq_true rfl) ?_
  intro p e s m below meth c A ls hx hb hml hr hts hown hlocks hK hP hD hA hS hl
  have hown : s.vm.findClass RX7 = some m.cls := hown
  have hl : lv_has ls 2 [(0, .ref r), (1, .int p1)] := hl
  refine lv_aload_n hx hb dX7_endsAtOnce_0 rfl (lv_at hl 0 rfl) ?_
  refine lv_aload_n hx hb dX7_endsAtOnce_1 rfl (lv_at hl 0 rfl) ?_
  refine lv_bipush (v := 74) hx hb dX7_endsAtOnce_2 (by decide) ?_
  refine g_ld (n := 112) (f := f) (v := f 74) (k := 74) hx hb hK hP 0 rfl (by decide) (by unfold vp_in; decide) rfl dX7_endsAtOnce_4 ?_
  refine lv_iconst (v := 0) hx hb dX7_endsAtOnce_5 (by decide) ?_
  obtain ⟨k2, hok⟩ := hok
  obtain ⟨R1, eR1, hR, hok⟩ := g_let2 hR hok
  refine g_callS (c_X7_ofStage l G r f (f 74) 0 R1 eR1 k2) hx hb hml hown hts hK hP hD hS hA gX7_endsAtOnce_X7_ofStage rfl (n := 3) (by decide +kernel) rfl ⟨Nat.le_of_ble_eq_true rfl, Nat.le_of_ble_eq_true rfl⟩ [0] rfl (by decide) hl.1 rfl (Nat.le_of_ble_eq_true rfl) ⟨Nat.zero_le _, Nat.zero_le _⟩ dX7_endsAtOnce_6 (fun H locs hP hD hS => ?_)
  have hP : va_P G.1 vwCl (List.flatten [AW G r 112 f]) H := hP
  have hD : va_D A (List.flatten [AW G r 112 f]) := hD
  refine lv_iconst (v := 1) hx hb dX7_endsAtOnce_9 (by decide) ?_
  refine lv_icmp_ne (tgt := 30) hx hb dX7_endsAtOnce_10 (by decide) (fun c3 => ?_) (fun c3 => ?_)
  · rw [if_neg c3] at hR
    have hok := hok.2 c3
    refine lv_iconst (v := 0) hx hb dX7_endsAtOnce_30 (by decide) ?_
    subst hR
    exact g_retz hx hb hr hlocks hS rfl dX7_endsAtOnce_31 rfl hP
  · rw [if_pos c3] at hR
    have hok := hok.1 c3
    refine lv_iload_n hx hb dX7_endsAtOnce_13 rfl (lv_at hl 1 rfl) ?_
    refine lv_aload_n hx hb dX7_endsAtOnce_14 rfl (lv_at hl 0 rfl) ?_
    refine lv_aload_n hx hb dX7_endsAtOnce_15 rfl (lv_at hl 0 rfl) ?_
    refine lv_bipush (v := 74) hx hb dX7_endsAtOnce_16 (by decide) ?_
    refine g_ld (n := 112) (f := f) (v := f 74) (k := 74) hx hb hK hP 0 rfl (by decide) (by unfold vp_in; decide) rfl dX7_endsAtOnce_18 ?_
    refine lv_iconst (v := 2) hx hb dX7_endsAtOnce_19 (by decide) ?_
    obtain ⟨k5, hok⟩ := hok
    obtain ⟨R4, eR4, hR⟩ := g_let hR
    refine g_callS (c_X7_ofStage l G r f (f 74) 2 R4 eR4 k5) hx hb hml hown hts hK hP hD hS hA gX7_endsAtOnce_X7_ofStage rfl (n := 3) (by decide +kernel) rfl ⟨Nat.le_of_ble_eq_true rfl, Nat.le_of_ble_eq_true rfl⟩ [0] rfl (by decide) hl.1 rfl (Nat.le_of_ble_eq_true rfl) ⟨Nat.zero_le _, Nat.zero_le _⟩ dX7_endsAtOnce_20 (fun H locs hP hD hS => ?_)
    have hP : va_P G.1 vwCl (List.flatten [AW G r 112 f]) H := hP
    have hD : va_D A (List.flatten [AW G r 112 f]) := hD
    refine lv_icmp_gt (tgt := 30) hx hb dX7_endsAtOnce_23 (by decide) (fun c6 => ?_) (fun c6 => ?_)
    · rw [if_pos c6] at hR
      refine lv_iconst (v := 0) hx hb dX7_endsAtOnce_30 (by decide) ?_
      subst hR
      exact g_retz hx hb hr hlocks hS rfl dX7_endsAtOnce_31 rfl hP
    · rw [if_neg c6] at hR
      refine lv_iconst (v := 1) hx hb dX7_endsAtOnce_26 (by decide) ?_
      refine lv_goto (tgt := 31) hx hb dX7_endsAtOnce_27 (by decide) ?_
      subst hR
      exact g_retz hx hb hr hlocks hS rfl dX7_endsAtOnce_31 rfl hP
def f_X7_takesIn (f : (Nat → Int32)) (p1 : Int32) (p2 : Int32) : (Nat → Int32) := (gL ((7 * p1)) (fun (v1 : Int32) => (gL (upd f ((v1 + 2).toNatClampNeg) ((f ((v1 + 2).toNatClampNeg)) + p2)) (fun (z3 : (Nat → Int32)) => (gL (upd z3 ((v1 + 1).toNatClampNeg) ((z3 ((v1 + 1).toNatClampNeg)) + (p2 * (z3 44)))) (fun (z6 : (Nat → Int32)) => (gL (((z6 ((v1 + 1).toNatClampNeg)) / 100)) (fun (v9 : Int32) => (gL (upd z6 ((v1 + 1).toNatClampNeg) ((z6 ((v1 + 1).toNatClampNeg)) - (z6 ((v1 + 1).toNatClampNeg)) / 100 * 100)) (fun (z11 : (Nat → Int32)) => (gL (upd z11 ((v1 + 3).toNatClampNeg) ((z11 ((v1 + 3).toNatClampNeg)) + v9)) (fun (z14 : (Nat → Int32)) => (gL (((z14 ((v1 + 0).toNatClampNeg)) + v9)) (fun (v17 : Int32) => (if v17 ≤ (z14 42) then (gL (upd z14 ((v1 + 0).toNatClampNeg) (v17 - 0)) (fun (z19 : (Nat → Int32)) => (gL (upd z19 ((v1 + 4).toNatClampNeg) ((z19 ((v1 + 4).toNatClampNeg)) + 0)) (fun (z22 : (Nat → Int32)) => z22)))) else (gL ((v17 - (z14 42))) (fun (v24 : Int32) => (gL (upd z14 ((v1 + 0).toNatClampNeg) (v17 - v24)) (fun (z25 : (Nat → Int32)) => (gL (upd z25 ((v1 + 4).toNatClampNeg) ((z25 ((v1 + 4).toNatClampNeg)) + v24)) (fun (z28 : (Nat → Int32)) => z28)))))))))))))))))))))
def ok_X7_takesIn (f : (Nat → Int32)) (p1 : Int32) (p2 : Int32) : Prop := (gL ((7 * p1)) (fun (v1 : Int32) => (vp_in (v1 + 2) 112) ∧ (vp_in (v1 + 2) 112) ∧ (gL (upd f ((v1 + 2).toNatClampNeg) ((f ((v1 + 2).toNatClampNeg)) + p2)) (fun (z3 : (Nat → Int32)) => (vp_in (v1 + 1) 112) ∧ (vp_in (v1 + 1) 112) ∧ (gL (upd z3 ((v1 + 1).toNatClampNeg) ((z3 ((v1 + 1).toNatClampNeg)) + (p2 * (z3 44)))) (fun (z6 : (Nat → Int32)) => (vp_in (v1 + 1) 112) ∧ (gL (((z6 ((v1 + 1).toNatClampNeg)) / 100)) (fun (v9 : Int32) => (vp_in (v1 + 1) 112) ∧ (vp_in (v1 + 1) 112) ∧ (gL (upd z6 ((v1 + 1).toNatClampNeg) ((z6 ((v1 + 1).toNatClampNeg)) - (z6 ((v1 + 1).toNatClampNeg)) / 100 * 100)) (fun (z11 : (Nat → Int32)) => (vp_in (v1 + 3) 112) ∧ (vp_in (v1 + 3) 112) ∧ (gL (upd z11 ((v1 + 3).toNatClampNeg) ((z11 ((v1 + 3).toNatClampNeg)) + v9)) (fun (z14 : (Nat → Int32)) => (vp_in (v1 + 0) 112) ∧ (gL (((z14 ((v1 + 0).toNatClampNeg)) + v9)) (fun (v17 : Int32) => ((v17 ≤ (z14 42) → (vp_in (v1 + 0) 112) ∧ (gL (upd z14 ((v1 + 0).toNatClampNeg) (v17 - 0)) (fun (z19 : (Nat → Int32)) => (vp_in (v1 + 4) 112) ∧ (vp_in (v1 + 4) 112) ∧ True))) ∧ (¬ v17 ≤ (z14 42) → (gL ((v17 - (z14 42))) (fun (v24 : Int32) => (vp_in (v1 + 0) 112) ∧ (gL (upd z14 ((v1 + 0).toNatClampNeg) (v17 - v24)) (fun (z25 : (Nat → Int32)) => (vp_in (v1 + 4) 112) ∧ (vp_in (v1 + 4) 112) ∧ True))))))))))))))))))))
set_option maxHeartbeats 4000000 in
set_option maxRecDepth 100000 in
theorem c_X7_takesIn (l : Launch) (G : gG) (r : Nat) (f : (Nat → Int32)) (p1 : Int32) (p2 : Int32) (R : (Nat → Int32)) (hR : R = f_X7_takesIn f p1 p2) (hok : ok_X7_takesIn f p1 p2) : CT l G yX7_takesIn wsX7_takesIn 0 0 [.ref r, .int p1, .int p2] [AW G r 112 f] none [AW G r 112 R] := by
  unfold f_X7_takesIn at hR
  unfold ok_X7_takesIn at hok
  refine CT.of (cc := cX7_takesIn) (maxL := 7) (ret := none) (plainFor_of_name (by decide +kernel)) rfl rfl (Nat.le_of_ble_eq_true rfl) ?_
  intro p e s m below meth c A ls hx hb hml hr hts hown hlocks hK hP hD hA hS hl
  have hown : s.vm.findClass RX7 = some m.cls := hown
  have hl : lv_has ls 7 [(0, .ref r), (1, .int p1), (2, .int p2)] := hl
  refine lv_bipush (v := 7) hx hb dX7_takesIn_0 (by decide) ?_
  refine lv_iload_n hx hb dX7_takesIn_2 rfl (lv_at hl 1 rfl) ?_
  refine lv_imul hx hb dX7_takesIn_3 ?_
  obtain ⟨v1, ev1, hR, hok⟩ := g_let2 hR hok
  refine g_topE ev1.symm ?_
  refine lv_istore_n (lv' := [(3, .int v1), (0, .ref r), (1, .int p1), (2, .int p2)]) hx hb dX7_takesIn_4 rfl hl (by decide) rfl (fun ls hl => ?_)
  refine lv_aload_n hx hb dX7_takesIn_5 rfl (lv_at hl 1 rfl) ?_
  refine lv_iload_n hx hb dX7_takesIn_6 rfl (lv_at hl 0 rfl) ?_
  refine lv_iconst (v := 2) hx hb dX7_takesIn_7 (by decide) ?_
  refine lv_iadd hx hb dX7_takesIn_8 ?_
  refine lv_dup2_11 hx hb dX7_takesIn_9 rfl rfl ?_
  obtain ⟨k2, hok⟩ := hok
  refine g_ld (n := 112) (f := f) (v := f ((v1 + 2).toNatClampNeg)) (k := ((v1 + 2).toNatClampNeg)) hx hb hK hP 0 rfl rfl k2 rfl dX7_takesIn_10 ?_
  refine lv_iload_n hx hb dX7_takesIn_11 rfl (lv_at hl 3 rfl) ?_
  refine lv_iadd hx hb dX7_takesIn_12 ?_
  obtain ⟨k4, hok⟩ := hok
  obtain ⟨z3, ez3, hR, hok⟩ := g_let2 hR hok
  refine g_st (n := 112) (f := f) (k := ((v1 + 2).toNatClampNeg)) (B2 := [AW G r 112 z3]) hx hb hK hP hD hS 0 rfl rfl k4 (by subst ez3; rfl) dX7_takesIn_13 (fun H locs hP hD hS => ?_)
  refine lv_aload_n hx hb dX7_takesIn_14 rfl (lv_at hl 1 rfl) ?_
  refine lv_iload_n hx hb dX7_takesIn_15 rfl (lv_at hl 0 rfl) ?_
  refine lv_iconst (v := 1) hx hb dX7_takesIn_16 (by decide) ?_
  refine lv_iadd hx hb dX7_takesIn_17 ?_
  refine lv_dup2_11 hx hb dX7_takesIn_18 rfl rfl ?_
  obtain ⟨k5, hok⟩ := hok
  refine g_ld (n := 112) (f := z3) (v := z3 ((v1 + 1).toNatClampNeg)) (k := ((v1 + 1).toNatClampNeg)) hx hb hK hP 0 rfl rfl k5 rfl dX7_takesIn_19 ?_
  refine lv_iload_n hx hb dX7_takesIn_20 rfl (lv_at hl 3 rfl) ?_
  refine lv_aload_n hx hb dX7_takesIn_21 rfl (lv_at hl 1 rfl) ?_
  refine lv_bipush (v := 44) hx hb dX7_takesIn_22 (by decide) ?_
  refine g_ld (n := 112) (f := z3) (v := z3 44) (k := 44) hx hb hK hP 0 rfl (by decide) (by unfold vp_in; decide) rfl dX7_takesIn_24 ?_
  refine lv_imul hx hb dX7_takesIn_25 ?_
  refine lv_iadd hx hb dX7_takesIn_26 ?_
  obtain ⟨k7, hok⟩ := hok
  obtain ⟨z6, ez6, hR, hok⟩ := g_let2 hR hok
  refine g_st (n := 112) (f := z3) (k := ((v1 + 1).toNatClampNeg)) (B2 := [AW G r 112 z6]) hx hb hK hP hD hS 0 rfl rfl k7 (by subst ez6; rfl) dX7_takesIn_27 (fun H locs hP hD hS => ?_)
  refine lv_aload_n hx hb dX7_takesIn_28 rfl (lv_at hl 1 rfl) ?_
  refine lv_iload_n hx hb dX7_takesIn_29 rfl (lv_at hl 0 rfl) ?_
  refine lv_iconst (v := 1) hx hb dX7_takesIn_30 (by decide) ?_
  refine lv_iadd hx hb dX7_takesIn_31 ?_
  obtain ⟨k8, hok⟩ := hok
  refine g_ld (n := 112) (f := z6) (v := z6 ((v1 + 1).toNatClampNeg)) (k := ((v1 + 1).toNatClampNeg)) hx hb hK hP 0 rfl rfl k8 rfl dX7_takesIn_32 ?_
  refine lv_bipush (v := 100) hx hb dX7_takesIn_33 (by decide) ?_
  refine lv_idiv hx hb dX7_takesIn_35 (by decide) ?_
  obtain ⟨v9, ev9, hR, hok⟩ := g_let2 hR hok
  refine g_topE ev9.symm ?_
  refine lv_istore (lv' := [(4, .int v9), (3, .int v1), (0, .ref r), (1, .int p1), (2, .int p2)]) hx hb dX7_takesIn_36 hl (by decide) rfl (fun ls hl => ?_)
  refine lv_aload_n hx hb dX7_takesIn_38 rfl (lv_at hl 2 rfl) ?_
  refine lv_iload_n hx hb dX7_takesIn_39 rfl (lv_at hl 1 rfl) ?_
  refine lv_iconst (v := 1) hx hb dX7_takesIn_40 (by decide) ?_
  refine lv_iadd hx hb dX7_takesIn_41 ?_
  refine lv_dup2_11 hx hb dX7_takesIn_42 rfl rfl ?_
  obtain ⟨k10, hok⟩ := hok
  refine g_ld (n := 112) (f := z6) (v := z6 ((v1 + 1).toNatClampNeg)) (k := ((v1 + 1).toNatClampNeg)) hx hb hK hP 0 rfl rfl k10 rfl dX7_takesIn_43 ?_
  refine lv_bipush (v := 100) hx hb dX7_takesIn_44 (by decide) ?_
  refine lv_irem hx hb dX7_takesIn_46 (by decide) ?_
  obtain ⟨k12, hok⟩ := hok
  obtain ⟨z11, ez11, hR, hok⟩ := g_let2 hR hok
  refine g_st (n := 112) (f := z6) (k := ((v1 + 1).toNatClampNeg)) (B2 := [AW G r 112 z11]) hx hb hK hP hD hS 0 rfl rfl k12 (by subst ez11; rfl) dX7_takesIn_47 (fun H locs hP hD hS => ?_)
  refine lv_aload_n hx hb dX7_takesIn_48 rfl (lv_at hl 2 rfl) ?_
  refine lv_iload_n hx hb dX7_takesIn_49 rfl (lv_at hl 1 rfl) ?_
  refine lv_iconst (v := 3) hx hb dX7_takesIn_50 (by decide) ?_
  refine lv_iadd hx hb dX7_takesIn_51 ?_
  refine lv_dup2_11 hx hb dX7_takesIn_52 rfl rfl ?_
  obtain ⟨k13, hok⟩ := hok
  refine g_ld (n := 112) (f := z11) (v := z11 ((v1 + 3).toNatClampNeg)) (k := ((v1 + 3).toNatClampNeg)) hx hb hK hP 0 rfl rfl k13 rfl dX7_takesIn_53 ?_
  refine lv_iload hx hb dX7_takesIn_54 (lv_at hl 0 rfl) ?_
  refine lv_iadd hx hb dX7_takesIn_56 ?_
  obtain ⟨k15, hok⟩ := hok
  obtain ⟨z14, ez14, hR, hok⟩ := g_let2 hR hok
  refine g_st (n := 112) (f := z11) (k := ((v1 + 3).toNatClampNeg)) (B2 := [AW G r 112 z14]) hx hb hK hP hD hS 0 rfl rfl k15 (by subst ez14; rfl) dX7_takesIn_57 (fun H locs hP hD hS => ?_)
  refine lv_aload_n hx hb dX7_takesIn_58 rfl (lv_at hl 2 rfl) ?_
  refine lv_iload_n hx hb dX7_takesIn_59 rfl (lv_at hl 1 rfl) ?_
  refine lv_iconst (v := 0) hx hb dX7_takesIn_60 (by decide) ?_
  refine lv_iadd hx hb dX7_takesIn_61 ?_
  obtain ⟨k16, hok⟩ := hok
  refine g_ld (n := 112) (f := z14) (v := z14 ((v1 + 0).toNatClampNeg)) (k := ((v1 + 0).toNatClampNeg)) hx hb hK hP 0 rfl rfl k16 rfl dX7_takesIn_62 ?_
  refine lv_iload hx hb dX7_takesIn_63 (lv_at hl 0 rfl) ?_
  refine lv_iadd hx hb dX7_takesIn_65 ?_
  obtain ⟨v17, ev17, hR, hok⟩ := g_let2 hR hok
  refine g_topE ev17.symm ?_
  refine lv_istore (lv' := [(5, .int v17), (4, .int v9), (3, .int v1), (0, .ref r), (1, .int p1), (2, .int p2)]) hx hb dX7_takesIn_66 hl (by decide) rfl (fun ls hl => ?_)
  refine lv_iload hx hb dX7_takesIn_68 (lv_at hl 0 rfl) ?_
  refine lv_aload_n hx hb dX7_takesIn_70 rfl (lv_at hl 3 rfl) ?_
  refine lv_bipush (v := 42) hx hb dX7_takesIn_71 (by decide) ?_
  refine g_ld (n := 112) (f := z14) (v := z14 42) (k := 42) hx hb hK hP 0 rfl (by decide) (by unfold vp_in; decide) rfl dX7_takesIn_73 ?_
  refine lv_icmp_le (tgt := 87) hx hb dX7_takesIn_74 (by decide) (fun c18 => ?_) (fun c18 => ?_)
  · rw [if_pos c18] at hR
    have hok := hok.1 c18
    refine lv_iconst (v := 0) hx hb dX7_takesIn_87 (by decide) ?_
    refine lv_istore (lv' := [(6, .int 0), (5, .int v17), (4, .int v9), (3, .int v1), (0, .ref r), (1, .int p1), (2, .int p2)]) hx hb dX7_takesIn_88 hl (by decide) rfl (fun ls hl => ?_)
    refine lv_aload_n hx hb dX7_takesIn_90 rfl (lv_at hl 4 rfl) ?_
    refine lv_iload_n hx hb dX7_takesIn_91 rfl (lv_at hl 3 rfl) ?_
    refine lv_iconst (v := 0) hx hb dX7_takesIn_92 (by decide) ?_
    refine lv_iadd hx hb dX7_takesIn_93 ?_
    refine lv_iload hx hb dX7_takesIn_94 (lv_at hl 1 rfl) ?_
    refine lv_iload hx hb dX7_takesIn_96 (lv_at hl 0 rfl) ?_
    refine lv_isub hx hb dX7_takesIn_98 ?_
    obtain ⟨k20, hok⟩ := hok
    obtain ⟨z19, ez19, hR, hok⟩ := g_let2 hR hok
    refine g_st (n := 112) (f := z14) (k := ((v1 + 0).toNatClampNeg)) (B2 := [AW G r 112 z19]) hx hb hK hP hD hS 0 rfl rfl k20 (by subst ez19; rfl) dX7_takesIn_99 (fun H locs hP hD hS => ?_)
    refine lv_aload_n hx hb dX7_takesIn_100 rfl (lv_at hl 4 rfl) ?_
    refine lv_iload_n hx hb dX7_takesIn_101 rfl (lv_at hl 3 rfl) ?_
    refine lv_iconst (v := 4) hx hb dX7_takesIn_102 (by decide) ?_
    refine lv_iadd hx hb dX7_takesIn_103 ?_
    refine lv_dup2_11 hx hb dX7_takesIn_104 rfl rfl ?_
    obtain ⟨k21, hok⟩ := hok
    refine g_ld (n := 112) (f := z19) (v := z19 ((v1 + 4).toNatClampNeg)) (k := ((v1 + 4).toNatClampNeg)) hx hb hK hP 0 rfl rfl k21 rfl dX7_takesIn_105 ?_
    refine lv_iload hx hb dX7_takesIn_106 (lv_at hl 0 rfl) ?_
    refine lv_iadd hx hb dX7_takesIn_108 ?_
    obtain ⟨k23, hok⟩ := hok
    obtain ⟨z22, ez22, hR⟩ := g_let hR
    refine g_st (n := 112) (f := z19) (k := ((v1 + 4).toNatClampNeg)) (B2 := [AW G r 112 z22]) hx hb hK hP hD hS 0 rfl rfl k23 (by subst ez22; rfl) dX7_takesIn_109 (fun H locs hP hD hS => ?_)
    subst hR
    exact g_retv hx hb hr hlocks hS dX7_takesIn_110 rfl hP
  · rw [if_neg c18] at hR
    have hok := hok.2 c18
    refine lv_iload hx hb dX7_takesIn_77 (lv_at hl 0 rfl) ?_
    refine lv_aload_n hx hb dX7_takesIn_79 rfl (lv_at hl 3 rfl) ?_
    refine lv_bipush (v := 42) hx hb dX7_takesIn_80 (by decide) ?_
    refine g_ld (n := 112) (f := z14) (v := z14 42) (k := 42) hx hb hK hP 0 rfl (by decide) (by unfold vp_in; decide) rfl dX7_takesIn_82 ?_
    refine lv_isub hx hb dX7_takesIn_83 ?_
    refine lv_goto (tgt := 88) hx hb dX7_takesIn_84 (by decide) ?_
    obtain ⟨v24, ev24, hR, hok⟩ := g_let2 hR hok
    refine g_topE ev24.symm ?_
    refine lv_istore (lv' := [(6, .int v24), (5, .int v17), (4, .int v9), (3, .int v1), (0, .ref r), (1, .int p1), (2, .int p2)]) hx hb dX7_takesIn_88 hl (by decide) rfl (fun ls hl => ?_)
    refine lv_aload_n hx hb dX7_takesIn_90 rfl (lv_at hl 4 rfl) ?_
    refine lv_iload_n hx hb dX7_takesIn_91 rfl (lv_at hl 3 rfl) ?_
    refine lv_iconst (v := 0) hx hb dX7_takesIn_92 (by decide) ?_
    refine lv_iadd hx hb dX7_takesIn_93 ?_
    refine lv_iload hx hb dX7_takesIn_94 (lv_at hl 1 rfl) ?_
    refine lv_iload hx hb dX7_takesIn_96 (lv_at hl 0 rfl) ?_
    refine lv_isub hx hb dX7_takesIn_98 ?_
    obtain ⟨k26, hok⟩ := hok
    obtain ⟨z25, ez25, hR, hok⟩ := g_let2 hR hok
    refine g_st (n := 112) (f := z14) (k := ((v1 + 0).toNatClampNeg)) (B2 := [AW G r 112 z25]) hx hb hK hP hD hS 0 rfl rfl k26 (by subst ez25; rfl) dX7_takesIn_99 (fun H locs hP hD hS => ?_)
    refine lv_aload_n hx hb dX7_takesIn_100 rfl (lv_at hl 4 rfl) ?_
    refine lv_iload_n hx hb dX7_takesIn_101 rfl (lv_at hl 3 rfl) ?_
    refine lv_iconst (v := 4) hx hb dX7_takesIn_102 (by decide) ?_
    refine lv_iadd hx hb dX7_takesIn_103 ?_
    refine lv_dup2_11 hx hb dX7_takesIn_104 rfl rfl ?_
    obtain ⟨k27, hok⟩ := hok
    refine g_ld (n := 112) (f := z25) (v := z25 ((v1 + 4).toNatClampNeg)) (k := ((v1 + 4).toNatClampNeg)) hx hb hK hP 0 rfl rfl k27 rfl dX7_takesIn_105 ?_
    refine lv_iload hx hb dX7_takesIn_106 (lv_at hl 0 rfl) ?_
    refine lv_iadd hx hb dX7_takesIn_108 ?_
    obtain ⟨k29, hok⟩ := hok
    obtain ⟨z28, ez28, hR⟩ := g_let hR
    refine g_st (n := 112) (f := z25) (k := ((v1 + 4).toNatClampNeg)) (B2 := [AW G r 112 z28]) hx hb hK hP hD hS 0 rfl rfl k29 (by subst ez28; rfl) dX7_takesIn_109 (fun H locs hP hD hS => ?_)
    subst hR
    exact g_retv hx hb hr hlocks hS dX7_takesIn_110 rfl hP
def f_X7_endsBehind (f : (Nat → Int32)) (p1 : Int32) : Int32 := (gL (f_X7_ofStage f (f 74) 0) (fun (R1 : Int32) => (if R1 = 0 then (gL (f_X7_highest f) (fun (R8 : Int32) => (gL (f_X7_more f p1) (fun (R10 : Int32) => (gL (f_X7_limit f (f 74)) (fun (R12 : Int32) => (if (R8 + R10) < R12 then 0 else 1))))))) else (if R1 = 2 then (gL (f_X7_ofStage f (f 74) 1) (fun (R5 : Int32) => (if (f 75) < R5 then 0 else 1))) else 0))))
def ok_X7_endsBehind (f : (Nat → Int32)) (p1 : Int32) : Prop := (ok_X7_ofStage (f 74) 0) ∧ (gL (f_X7_ofStage f (f 74) 0) (fun (R1 : Int32) => ((R1 = 0 → (ok_X7_highest f) ∧ (gL (f_X7_highest f) (fun (R8 : Int32) => (gL (f_X7_more f p1) (fun (R10 : Int32) => (ok_X7_limit f (f 74)) ∧ True))))) ∧ (¬ R1 = 0 → ((R1 = 2 → (ok_X7_ofStage (f 74) 1) ∧ True) ∧ (¬ R1 = 2 → True))))))
set_option maxHeartbeats 4000000 in
set_option maxRecDepth 100000 in
theorem c_X7_endsBehind (l : Launch) (G : gG) (r : Nat) (f : (Nat → Int32)) (p1 : Int32) (R : Int32) (hR : R = f_X7_endsBehind f p1) (hok : ok_X7_endsBehind f p1) : CT l G yX7_endsBehind wsX7_endsBehind 3 65 [.ref r, .int p1] [AW G r 112 f] (some (.int R)) [AW G r 112 f] := by
  unfold f_X7_endsBehind at hR
  unfold ok_X7_endsBehind at hok
  refine CT.of (cc := cX7_endsBehind) (maxL := 3) (ret := (some .boolean)) (plainFor_of_name (by decide +kernel)) rfl rfl (Nat.le_of_ble_eq_true rfl) ?_
  intro p e s m below meth c A ls hx hb hml hr hts hown hlocks hK hP hD hA hS hl
  have hown : s.vm.findClass RX7 = some m.cls := hown
  have hl : lv_has ls 3 [(0, .ref r), (1, .int p1)] := hl
  refine lv_aload_n hx hb dX7_endsBehind_0 rfl (lv_at hl 0 rfl) ?_
  refine lv_aload_n hx hb dX7_endsBehind_1 rfl (lv_at hl 0 rfl) ?_
  refine lv_bipush (v := 74) hx hb dX7_endsBehind_2 (by decide) ?_
  refine g_ld (n := 112) (f := f) (v := f 74) (k := 74) hx hb hK hP 0 rfl (by decide) (by unfold vp_in; decide) rfl dX7_endsBehind_4 ?_
  refine lv_iconst (v := 0) hx hb dX7_endsBehind_5 (by decide) ?_
  obtain ⟨k2, hok⟩ := hok
  obtain ⟨R1, eR1, hR, hok⟩ := g_let2 hR hok
  refine g_callS (c_X7_ofStage l G r f (f 74) 0 R1 eR1 k2) hx hb hml hown hts hK hP hD hS hA gX7_endsBehind_X7_ofStage rfl (n := 3) (by decide +kernel) rfl ⟨Nat.le_of_ble_eq_true rfl, Nat.le_of_ble_eq_true rfl⟩ [0] rfl (by decide) hl.1 rfl (Nat.le_of_ble_eq_true rfl) ⟨Nat.zero_le _, Nat.zero_le _⟩ dX7_endsBehind_6 (fun H locs hP hD hS => ?_)
  have hP : va_P G.1 vwCl (List.flatten [AW G r 112 f]) H := hP
  have hD : va_D A (List.flatten [AW G r 112 f]) := hD
  refine lv_istore_n (lv' := [(2, .int R1), (0, .ref r), (1, .int p1)]) hx hb dX7_endsBehind_9 rfl hl (by decide) rfl (fun ls hl => ?_)
  refine lv_iload_n hx hb dX7_endsBehind_10 rfl (lv_at hl 0 rfl) ?_
  refine lv_if_ne (tgt := 41) hx hb dX7_endsBehind_11 (by decide) (fun c3 => ?_) (fun c3 => ?_)
  · rw [if_neg c3] at hR
    have hok := hok.2 c3
    refine lv_iload_n hx hb dX7_endsBehind_41 rfl (lv_at hl 0 rfl) ?_
    refine lv_iconst (v := 2) hx hb dX7_endsBehind_42 (by decide) ?_
    refine lv_icmp_ne (tgt := 66) hx hb dX7_endsBehind_43 (by decide) (fun c4 => ?_) (fun c4 => ?_)
    · rw [if_neg c4] at hR
      have hok := hok.2 c4
      refine lv_iconst (v := 0) hx hb dX7_endsBehind_66 (by decide) ?_
      subst hR
      exact g_retz hx hb hr hlocks hS rfl dX7_endsBehind_67 rfl hP
    · rw [if_pos c4] at hR
      have hok := hok.1 c4
      refine lv_aload_n hx hb dX7_endsBehind_46 rfl (lv_at hl 1 rfl) ?_
      refine lv_bipush (v := 75) hx hb dX7_endsBehind_47 (by decide) ?_
      refine g_ld (n := 112) (f := f) (v := f 75) (k := 75) hx hb hK hP 0 rfl (by decide) (by unfold vp_in; decide) rfl dX7_endsBehind_49 ?_
      refine lv_aload_n hx hb dX7_endsBehind_50 rfl (lv_at hl 1 rfl) ?_
      refine lv_aload_n hx hb dX7_endsBehind_51 rfl (lv_at hl 1 rfl) ?_
      refine lv_bipush (v := 74) hx hb dX7_endsBehind_52 (by decide) ?_
      refine g_ld (n := 112) (f := f) (v := f 74) (k := 74) hx hb hK hP 0 rfl (by decide) (by unfold vp_in; decide) rfl dX7_endsBehind_54 ?_
      refine lv_iconst (v := 1) hx hb dX7_endsBehind_55 (by decide) ?_
      obtain ⟨k6, hok⟩ := hok
      obtain ⟨R5, eR5, hR⟩ := g_let hR
      refine g_callS (c_X7_ofStage l G r f (f 74) 1 R5 eR5 k6) hx hb hml hown hts hK hP hD hS hA gX7_endsBehind_X7_ofStage rfl (n := 3) (by decide +kernel) rfl ⟨Nat.le_of_ble_eq_true rfl, Nat.le_of_ble_eq_true rfl⟩ [0] rfl (by decide) hl.1 rfl (Nat.le_of_ble_eq_true rfl) ⟨Nat.zero_le _, Nat.zero_le _⟩ dX7_endsBehind_56 (fun H locs hP hD hS => ?_)
      have hP : va_P G.1 vwCl (List.flatten [AW G r 112 f]) H := hP
      have hD : va_D A (List.flatten [AW G r 112 f]) := hD
      refine lv_icmp_lt (tgt := 66) hx hb dX7_endsBehind_59 (by decide) (fun c7 => ?_) (fun c7 => ?_)
      · rw [if_pos c7] at hR
        refine lv_iconst (v := 0) hx hb dX7_endsBehind_66 (by decide) ?_
        subst hR
        exact g_retz hx hb hr hlocks hS rfl dX7_endsBehind_67 rfl hP
      · rw [if_neg c7] at hR
        refine lv_iconst (v := 1) hx hb dX7_endsBehind_62 (by decide) ?_
        refine lv_goto (tgt := 67) hx hb dX7_endsBehind_63 (by decide) ?_
        subst hR
        exact g_retz hx hb hr hlocks hS rfl dX7_endsBehind_67 rfl hP
  · rw [if_pos c3] at hR
    have hok := hok.1 c3
    refine lv_aload_n hx hb dX7_endsBehind_14 rfl (lv_at hl 1 rfl) ?_
    obtain ⟨k9, hok⟩ := hok
    obtain ⟨R8, eR8, hR, hok⟩ := g_let2 hR hok
    refine g_callS (c_X7_highest l G r f R8 eR8 k9) hx hb hml hown hts hK hP hD hS hA gX7_endsBehind_X7_highest rfl (n := 1) (by decide +kernel) rfl ⟨Nat.le_of_ble_eq_true rfl, Nat.le_of_ble_eq_true rfl⟩ [0] rfl (by decide) hl.1 rfl (Nat.le_of_ble_eq_true rfl) ⟨Nat.zero_le _, Nat.zero_le _⟩ dX7_endsBehind_15 (fun H locs hP hD hS => ?_)
    have hP : va_P G.1 vwCl (List.flatten [AW G r 112 f]) H := hP
    have hD : va_D A (List.flatten [AW G r 112 f]) := hD
    refine lv_aload_n hx hb dX7_endsBehind_18 rfl (lv_at hl 1 rfl) ?_
    refine lv_iload_n hx hb dX7_endsBehind_19 rfl (lv_at hl 2 rfl) ?_
    obtain ⟨R10, eR10, hR, hok⟩ := g_let2 hR hok
    refine g_callS (c_X7_more l G r f p1 R10 eR10) hx hb hml hown hts hK hP hD hS hA gX7_endsBehind_X7_more rfl (n := 2) (by decide +kernel) rfl ⟨Nat.le_of_ble_eq_true rfl, Nat.le_of_ble_eq_true rfl⟩ [0] rfl (by decide) hl.1 rfl (Nat.le_of_ble_eq_true rfl) ⟨Nat.zero_le _, Nat.zero_le _⟩ dX7_endsBehind_20 (fun H locs hP hD hS => ?_)
    have hP : va_P G.1 vwCl (List.flatten [AW G r 112 f]) H := hP
    have hD : va_D A (List.flatten [AW G r 112 f]) := hD
    refine lv_iadd hx hb dX7_endsBehind_23 ?_
    refine lv_aload_n hx hb dX7_endsBehind_24 rfl (lv_at hl 1 rfl) ?_
    refine lv_aload_n hx hb dX7_endsBehind_25 rfl (lv_at hl 1 rfl) ?_
    refine lv_bipush (v := 74) hx hb dX7_endsBehind_26 (by decide) ?_
    refine g_ld (n := 112) (f := f) (v := f 74) (k := 74) hx hb hK hP 0 rfl (by decide) (by unfold vp_in; decide) rfl dX7_endsBehind_28 ?_
    obtain ⟨k13, hok⟩ := hok
    obtain ⟨R12, eR12, hR⟩ := g_let hR
    refine g_callS (c_X7_limit l G r f (f 74) R12 eR12 k13) hx hb hml hown hts hK hP hD hS hA gX7_endsBehind_X7_limit rfl (n := 2) (by decide +kernel) rfl ⟨Nat.le_of_ble_eq_true rfl, Nat.le_of_ble_eq_true rfl⟩ [0] rfl (by decide) hl.1 rfl (Nat.le_of_ble_eq_true rfl) ⟨Nat.zero_le _, Nat.zero_le _⟩ dX7_endsBehind_29 (fun H locs hP hD hS => ?_)
    have hP : va_P G.1 vwCl (List.flatten [AW G r 112 f]) H := hP
    have hD : va_D A (List.flatten [AW G r 112 f]) := hD
    refine lv_icmp_lt (tgt := 39) hx hb dX7_endsBehind_32 (by decide) (fun c14 => ?_) (fun c14 => ?_)
    · rw [if_pos c14] at hR
      refine lv_iconst (v := 0) hx hb dX7_endsBehind_39 (by decide) ?_
      subst hR
      exact g_retz hx hb hr hlocks hS rfl dX7_endsBehind_40 rfl hP
    · rw [if_neg c14] at hR
      refine lv_iconst (v := 1) hx hb dX7_endsBehind_35 (by decide) ?_
      refine lv_goto (tgt := 40) hx hb dX7_endsBehind_36 (by decide) ?_
      subst hR
      exact g_retz hx hb hr hlocks hS rfl dX7_endsBehind_40 rfl hP
def f_X7_goesOn (f : (Nat → Int32)) : (Nat → Int32) := (if (f 72) ≤ ((f 74) + 1) then (gL (upd f 73 2) (fun (z2 : (Nat → Int32)) => (gL (upd z2 78 ((z2 78) + 1)) (fun (z3 : (Nat → Int32)) => (gL (f_X7_logs z3 1) (fun (R4 : (Nat → Int32)) => R4)))))) else (gL (upd f 74 ((f 74) + 1)) (fun (z6 : (Nat → Int32)) => (gL (upd z6 75 0) (fun (z7 : (Nat → Int32)) => (gL (f_X7_logs z7 0) (fun (R8 : (Nat → Int32)) => R8)))))))
def ok_X7_goesOn (f : (Nat → Int32)) : Prop := (((f 72) ≤ ((f 74) + 1) → (gL (upd f 73 2) (fun (z2 : (Nat → Int32)) => (gL (upd z2 78 ((z2 78) + 1)) (fun (z3 : (Nat → Int32)) => (ok_X7_logs z3 1) ∧ True))))) ∧ (¬ (f 72) ≤ ((f 74) + 1) → (gL (upd f 74 ((f 74) + 1)) (fun (z6 : (Nat → Int32)) => (gL (upd z6 75 0) (fun (z7 : (Nat → Int32)) => (ok_X7_logs z7 0) ∧ True))))))
set_option maxHeartbeats 4000000 in
set_option maxRecDepth 100000 in
theorem c_X7_goesOn (l : Launch) (G : gG) (r : Nat) (f : (Nat → Int32)) (R : (Nat → Int32)) (hR : R = f_X7_goesOn f) (hok : ok_X7_goesOn f) : CT l G yX7_goesOn wsX7_goesOn 1 22 [.ref r] [AW G r 112 f] none [AW G r 112 R] := by
  unfold f_X7_goesOn at hR
  unfold ok_X7_goesOn at hok
  refine CT.of (cc := cX7_goesOn) (maxL := 1) (ret := none) (plainFor_of_name (by decide +kernel)) rfl rfl (Nat.le_of_ble_eq_true rfl) ?_
  intro p e s m below meth c A ls hx hb hml hr hts hown hlocks hK hP hD hA hS hl
  have hown : s.vm.findClass RX7 = some m.cls := hown
  have hl : lv_has ls 1 [(0, .ref r)] := hl
  refine lv_aload_n hx hb dX7_goesOn_0 rfl (lv_at hl 0 rfl) ?_
  refine lv_bipush (v := 74) hx hb dX7_goesOn_1 (by decide) ?_
  refine g_ld (n := 112) (f := f) (v := f 74) (k := 74) hx hb hK hP 0 rfl (by decide) (by unfold vp_in; decide) rfl dX7_goesOn_3 ?_
  refine lv_iconst (v := 1) hx hb dX7_goesOn_4 (by decide) ?_
  refine lv_iadd hx hb dX7_goesOn_5 ?_
  refine lv_aload_n hx hb dX7_goesOn_6 rfl (lv_at hl 0 rfl) ?_
  refine lv_bipush (v := 72) hx hb dX7_goesOn_7 (by decide) ?_
  refine g_ld (n := 112) (f := f) (v := f 72) (k := 72) hx hb hK hP 0 rfl (by decide) (by unfold vp_in; decide) rfl dX7_goesOn_9 ?_
  refine lv_icmp_ge (tgt := 34) hx hb dX7_goesOn_10 (by decide) (fun c1 => ?_) (fun c1 => ?_)
  · rw [if_pos c1] at hR
    have hok := hok.1 c1
    refine lv_aload_n hx hb dX7_goesOn_34 rfl (lv_at hl 0 rfl) ?_
    refine lv_bipush (v := 73) hx hb dX7_goesOn_35 (by decide) ?_
    refine lv_iconst (v := 2) hx hb dX7_goesOn_37 (by decide) ?_
    obtain ⟨z2, ez2, hR, hok⟩ := g_let2 hR hok
    refine g_st (n := 112) (f := f) (k := 73) (B2 := [AW G r 112 z2]) hx hb hK hP hD hS 0 rfl (by decide) (by unfold vp_in; decide) (by subst ez2; rfl) dX7_goesOn_38 (fun H locs hP hD hS => ?_)
    refine lv_aload_n hx hb dX7_goesOn_39 rfl (lv_at hl 0 rfl) ?_
    refine lv_bipush (v := 78) hx hb dX7_goesOn_40 (by decide) ?_
    refine lv_dup2_11 hx hb dX7_goesOn_42 rfl rfl ?_
    refine g_ld (n := 112) (f := z2) (v := z2 78) (k := 78) hx hb hK hP 0 rfl (by decide) (by unfold vp_in; decide) rfl dX7_goesOn_43 ?_
    refine lv_iconst (v := 1) hx hb dX7_goesOn_44 (by decide) ?_
    refine lv_iadd hx hb dX7_goesOn_45 ?_
    obtain ⟨z3, ez3, hR, hok⟩ := g_let2 hR hok
    refine g_st (n := 112) (f := z2) (k := 78) (B2 := [AW G r 112 z3]) hx hb hK hP hD hS 0 rfl (by decide) (by unfold vp_in; decide) (by subst ez3; rfl) dX7_goesOn_46 (fun H locs hP hD hS => ?_)
    refine lv_aload_n hx hb dX7_goesOn_47 rfl (lv_at hl 0 rfl) ?_
    refine lv_iconst (v := 1) hx hb dX7_goesOn_48 (by decide) ?_
    obtain ⟨k5, hok⟩ := hok
    obtain ⟨R4, eR4, hR⟩ := g_let hR
    refine g_callS (c_X7_logs l G r z3 1 R4 eR4 k5) hx hb hml hown hts hK hP hD hS hA gX7_goesOn_X7_logs rfl (n := 2) (by decide +kernel) rfl ⟨Nat.le_of_ble_eq_true rfl, Nat.le_of_ble_eq_true rfl⟩ [0] rfl (by decide) hl.1 rfl (Nat.le_of_ble_eq_true rfl) ⟨Nat.zero_le _, Nat.zero_le _⟩ dX7_goesOn_49 (fun H locs hP hD hS => ?_)
    have hP : va_P G.1 vwCl (List.flatten [AW G r 112 R4]) H := hP
    have hD : va_D A (List.flatten [AW G r 112 R4]) := hD
    subst hR
    exact g_retv hx hb hr hlocks hS dX7_goesOn_52 rfl hP
  · rw [if_neg c1] at hR
    have hok := hok.2 c1
    refine lv_aload_n hx hb dX7_goesOn_13 rfl (lv_at hl 0 rfl) ?_
    refine lv_bipush (v := 74) hx hb dX7_goesOn_14 (by decide) ?_
    refine lv_dup2_11 hx hb dX7_goesOn_16 rfl rfl ?_
    refine g_ld (n := 112) (f := f) (v := f 74) (k := 74) hx hb hK hP 0 rfl (by decide) (by unfold vp_in; decide) rfl dX7_goesOn_17 ?_
    refine lv_iconst (v := 1) hx hb dX7_goesOn_18 (by decide) ?_
    refine lv_iadd hx hb dX7_goesOn_19 ?_
    obtain ⟨z6, ez6, hR, hok⟩ := g_let2 hR hok
    refine g_st (n := 112) (f := f) (k := 74) (B2 := [AW G r 112 z6]) hx hb hK hP hD hS 0 rfl (by decide) (by unfold vp_in; decide) (by subst ez6; rfl) dX7_goesOn_20 (fun H locs hP hD hS => ?_)
    refine lv_aload_n hx hb dX7_goesOn_21 rfl (lv_at hl 0 rfl) ?_
    refine lv_bipush (v := 75) hx hb dX7_goesOn_22 (by decide) ?_
    refine lv_iconst (v := 0) hx hb dX7_goesOn_24 (by decide) ?_
    obtain ⟨z7, ez7, hR, hok⟩ := g_let2 hR hok
    refine g_st (n := 112) (f := z6) (k := 75) (B2 := [AW G r 112 z7]) hx hb hK hP hD hS 0 rfl (by decide) (by unfold vp_in; decide) (by subst ez7; rfl) dX7_goesOn_25 (fun H locs hP hD hS => ?_)
    refine lv_aload_n hx hb dX7_goesOn_26 rfl (lv_at hl 0 rfl) ?_
    refine lv_iconst (v := 0) hx hb dX7_goesOn_27 (by decide) ?_
    obtain ⟨k9, hok⟩ := hok
    obtain ⟨R8, eR8, hR⟩ := g_let hR
    refine g_callS (c_X7_logs l G r z7 0 R8 eR8 k9) hx hb hml hown hts hK hP hD hS hA gX7_goesOn_X7_logs rfl (n := 2) (by decide +kernel) rfl ⟨Nat.le_of_ble_eq_true rfl, Nat.le_of_ble_eq_true rfl⟩ [0] rfl (by decide) hl.1 rfl (Nat.le_of_ble_eq_true rfl) ⟨Nat.zero_le _, Nat.zero_le _⟩ dX7_goesOn_28 (fun H locs hP hD hS => ?_)
    have hP : va_P G.1 vwCl (List.flatten [AW G r 112 R8]) H := hP
    have hD : va_D A (List.flatten [AW G r 112 R8]) := hD
    refine lv_goto (tgt := 52) hx hb dX7_goesOn_31 (by decide) ?_
    subst hR
    exact g_retv hx hb hr hlocks hS dX7_goesOn_52 rfl hP
def fl_X7_charges_17 (R1 : Int32) : Nat → Int32 → (Nat → Int32) → (Nat → Int32)
  | 0, _, _ => (fun _ => 0)
  | n + 1, x17_3, w17_0 => (if (w17_0 71) ≤ x17_3 then (gL (upd w17_0 75 ((w17_0 75) + 1)) (fun (z35 : (Nat → Int32)) => (gL (f_X7_endsBehind z35 R1) (fun (R36 : Int32) => (gL (f_X7_ofStage z35 (z35 74) 3) (fun (R38 : Int32) => (if R36 = 0 then (if R38 ≤ 0 then z35 else (if (z35 75) < R38 then z35 else (gL (upd z35 73 3) (fun (z43 : (Nat → Int32)) => (gL (upd z43 79 ((z43 79) + 1)) (fun (z44 : (Nat → Int32)) => (gL (f_X7_logs z44 2) (fun (R45 : (Nat → Int32)) => R45)))))))) else (gL (f_X7_goesOn z35) (fun (R47 : (Nat → Int32)) => R47))))))))) else (gL (f_X7_takesIn w17_0 x17_3 R1) (fun (R49 : (Nat → Int32)) => (gL ((x17_3 + 1)) (fun (v51 : Int32) => (fl_X7_charges_17 R1 n v51 R49))))))
def okl_X7_charges_17 (R1 : Int32) : Nat → Int32 → (Nat → Int32) → Prop
  | 0, _, _ => False
  | n + 1, x17_3, w17_0 => (((w17_0 71) ≤ x17_3 → (gL (upd w17_0 75 ((w17_0 75) + 1)) (fun (z35 : (Nat → Int32)) => (ok_X7_endsBehind z35 R1) ∧ (gL (f_X7_endsBehind z35 R1) (fun (R36 : Int32) => (ok_X7_ofStage (z35 74) 3) ∧ (gL (f_X7_ofStage z35 (z35 74) 3) (fun (R38 : Int32) => ((R36 = 0 → ((R38 ≤ 0 → True) ∧ (¬ R38 ≤ 0 → (((z35 75) < R38 → True) ∧ (¬ (z35 75) < R38 → (gL (upd z35 73 3) (fun (z43 : (Nat → Int32)) => (gL (upd z43 79 ((z43 79) + 1)) (fun (z44 : (Nat → Int32)) => (ok_X7_logs z44 2) ∧ True))))))))) ∧ (¬ R36 = 0 → (ok_X7_goesOn z35) ∧ True))))))))) ∧ (¬ (w17_0 71) ≤ x17_3 → (ok_X7_takesIn w17_0 x17_3 R1) ∧ (gL (f_X7_takesIn w17_0 x17_3 R1) (fun (R49 : (Nat → Int32)) => (gL ((x17_3 + 1)) (fun (v51 : Int32) => (okl_X7_charges_17 R1 n v51 R49)))))))
def f_X7_charges (f : (Nat → Int32)) : (Nat → Int32) := (gL (f_X7_told f) (fun (R1 : Int32) => (gL (f_X7_endsAtOnce f R1) (fun (R3 : Int32) => (if R3 = 0 then (fl_X7_charges_17 R1 7 0 f) else (gL (f_X7_ofStage f (f 74) 3) (fun (R6 : Int32) => (if R3 = 0 then (if R6 ≤ 0 then f else (if (f 75) < R6 then f else (gL (upd f 73 3) (fun (z11 : (Nat → Int32)) => (gL (upd z11 79 ((z11 79) + 1)) (fun (z12 : (Nat → Int32)) => (gL (f_X7_logs z12 2) (fun (R13 : (Nat → Int32)) => R13)))))))) else (gL (f_X7_goesOn f) (fun (R15 : (Nat → Int32)) => R15))))))))))
def ok_X7_charges (f : (Nat → Int32)) : Prop := (ok_X7_told f) ∧ (gL (f_X7_told f) (fun (R1 : Int32) => (ok_X7_endsAtOnce f) ∧ (gL (f_X7_endsAtOnce f R1) (fun (R3 : Int32) => ((R3 = 0 → (okl_X7_charges_17 R1 7 0 f)) ∧ (¬ R3 = 0 → (ok_X7_ofStage (f 74) 3) ∧ (gL (f_X7_ofStage f (f 74) 3) (fun (R6 : Int32) => ((R3 = 0 → ((R6 ≤ 0 → True) ∧ (¬ R6 ≤ 0 → (((f 75) < R6 → True) ∧ (¬ (f 75) < R6 → (gL (upd f 73 3) (fun (z11 : (Nat → Int32)) => (gL (upd z11 79 ((z11 79) + 1)) (fun (z12 : (Nat → Int32)) => (ok_X7_logs z12 2) ∧ True))))))))) ∧ (¬ R3 = 0 → (ok_X7_goesOn f) ∧ True))))))))))
set_option maxHeartbeats 4000000 in
set_option maxRecDepth 100000 in
theorem c_X7_charges (l : Launch) (G : gG) (r : Nat) (f : (Nat → Int32)) (R : (Nat → Int32)) (hR : R = f_X7_charges f) (hok : ok_X7_charges f) : CT l G yX7_charges wsX7_charges 5 108 [.ref r] [AW G r 112 f] none [AW G r 112 R] := by
  unfold f_X7_charges at hR
  unfold ok_X7_charges at hok
  refine CT.of (cc := cX7_charges) (maxL := 4) (ret := none) (plainFor_of_name (by decide +kernel)) rfl rfl (Nat.le_of_ble_eq_true rfl) ?_
  intro p e s m below meth c A ls hx hb hml hr hts hown hlocks hK hP hD hA hS hl
  have hown : s.vm.findClass RX7 = some m.cls := hown
  have hl : lv_has ls 4 [(0, .ref r)] := hl
  refine lv_aload_n hx hb dX7_charges_0 rfl (lv_at hl 0 rfl) ?_
  obtain ⟨k2, hok⟩ := hok
  obtain ⟨R1, eR1, hR, hok⟩ := g_let2 hR hok
  refine g_callS (c_X7_told l G r f R1 eR1 k2) hx hb hml hown hts hK hP hD hS hA gX7_charges_X7_told rfl (n := 1) (by decide +kernel) rfl ⟨Nat.le_of_ble_eq_true rfl, Nat.le_of_ble_eq_true rfl⟩ [0] rfl (by decide) hl.1 rfl (Nat.le_of_ble_eq_true rfl) ⟨Nat.zero_le _, Nat.zero_le _⟩ dX7_charges_1 (fun H locs hP hD hS => ?_)
  have hP : va_P G.1 vwCl (List.flatten [AW G r 112 f]) H := hP
  have hD : va_D A (List.flatten [AW G r 112 f]) := hD
  refine lv_istore_n (lv' := [(1, .int R1), (0, .ref r)]) hx hb dX7_charges_4 rfl hl (by decide) rfl (fun ls hl => ?_)
  refine lv_aload_n hx hb dX7_charges_5 rfl (lv_at hl 1 rfl) ?_
  refine lv_iload_n hx hb dX7_charges_6 rfl (lv_at hl 0 rfl) ?_
  obtain ⟨k4, hok⟩ := hok
  obtain ⟨R3, eR3, hR, hok⟩ := g_let2 hR hok
  refine g_callS (c_X7_endsAtOnce l G r f R1 R3 eR3 k4) hx hb hml hown hts hK hP hD hS hA gX7_charges_X7_endsAtOnce rfl (n := 2) (by decide +kernel) rfl ⟨Nat.le_of_ble_eq_true rfl, Nat.le_of_ble_eq_true rfl⟩ [0] rfl (by decide) hl.1 rfl (Nat.le_of_ble_eq_true rfl) ⟨Nat.zero_le _, Nat.zero_le _⟩ dX7_charges_7 (fun H locs hP hD hS => ?_)
  have hP : va_P G.1 vwCl (List.flatten [AW G r 112 f]) H := hP
  have hD : va_D A (List.flatten [AW G r 112 f]) := hD
  refine lv_istore_n (lv' := [(2, .int R3), (1, .int R1), (0, .ref r)]) hx hb dX7_charges_10 rfl hl (by decide) rfl (fun ls hl => ?_)
  refine lv_iload_n hx hb dX7_charges_11 rfl (lv_at hl 0 rfl) ?_
  refine lv_if_ne (tgt := 51) hx hb dX7_charges_12 (by decide) (fun c5 => ?_) (fun c5 => ?_)
  · rw [if_neg c5] at hR
    have hok := hok.2 c5
    refine lv_aload_n hx hb dX7_charges_51 rfl (lv_at hl 2 rfl) ?_
    refine lv_aload_n hx hb dX7_charges_52 rfl (lv_at hl 2 rfl) ?_
    refine lv_bipush (v := 74) hx hb dX7_charges_53 (by decide) ?_
    refine g_ld (n := 112) (f := f) (v := f 74) (k := 74) hx hb hK hP 0 rfl (by decide) (by unfold vp_in; decide) rfl dX7_charges_55 ?_
    refine lv_iconst (v := 3) hx hb dX7_charges_56 (by decide) ?_
    obtain ⟨k7, hok⟩ := hok
    obtain ⟨R6, eR6, hR, hok⟩ := g_let2 hR hok
    refine g_callS (c_X7_ofStage l G r f (f 74) 3 R6 eR6 k7) hx hb hml hown hts hK hP hD hS hA gX7_charges_X7_ofStage rfl (n := 3) (by decide +kernel) rfl ⟨Nat.le_of_ble_eq_true rfl, Nat.le_of_ble_eq_true rfl⟩ [0] rfl (by decide) hl.1 rfl (Nat.le_of_ble_eq_true rfl) ⟨Nat.zero_le _, Nat.zero_le _⟩ dX7_charges_57 (fun H locs hP hD hS => ?_)
    have hP : va_P G.1 vwCl (List.flatten [AW G r 112 f]) H := hP
    have hD : va_D A (List.flatten [AW G r 112 f]) := hD
    refine lv_istore_n (lv' := [(3, .int R6), (2, .int R3), (1, .int R1), (0, .ref r)]) hx hb dX7_charges_60 rfl hl (by decide) rfl (fun ls hl => ?_)
    refine lv_iload_n hx hb dX7_charges_61 rfl (lv_at hl 1 rfl) ?_
    refine lv_if_eq (tgt := 72) hx hb dX7_charges_62 (by decide) (fun c8 => ?_) (fun c8 => ?_)
    · rw [if_pos c8] at hR
      have hok := hok.1 c8
      refine lv_iload_n hx hb dX7_charges_72 rfl (lv_at hl 0 rfl) ?_
      refine lv_if_le (tgt := 102) hx hb dX7_charges_73 (by decide) (fun c9 => ?_) (fun c9 => ?_)
      · rw [if_pos c9] at hR
        have hok := hok.1 c9
        subst hR
        exact g_retv hx hb hr hlocks hS dX7_charges_102 rfl hP
      · rw [if_neg c9] at hR
        have hok := hok.2 c9
        refine lv_aload_n hx hb dX7_charges_76 rfl (lv_at hl 3 rfl) ?_
        refine lv_bipush (v := 75) hx hb dX7_charges_77 (by decide) ?_
        refine g_ld (n := 112) (f := f) (v := f 75) (k := 75) hx hb hK hP 0 rfl (by decide) (by unfold vp_in; decide) rfl dX7_charges_79 ?_
        refine lv_iload_n hx hb dX7_charges_80 rfl (lv_at hl 0 rfl) ?_
        refine lv_icmp_lt (tgt := 102) hx hb dX7_charges_81 (by decide) (fun c10 => ?_) (fun c10 => ?_)
        · rw [if_pos c10] at hR
          have hok := hok.1 c10
          subst hR
          exact g_retv hx hb hr hlocks hS dX7_charges_102 rfl hP
        · rw [if_neg c10] at hR
          have hok := hok.2 c10
          refine lv_aload_n hx hb dX7_charges_84 rfl (lv_at hl 3 rfl) ?_
          refine lv_bipush (v := 73) hx hb dX7_charges_85 (by decide) ?_
          refine lv_iconst (v := 3) hx hb dX7_charges_87 (by decide) ?_
          obtain ⟨z11, ez11, hR, hok⟩ := g_let2 hR hok
          refine g_st (n := 112) (f := f) (k := 73) (B2 := [AW G r 112 z11]) hx hb hK hP hD hS 0 rfl (by decide) (by unfold vp_in; decide) (by subst ez11; rfl) dX7_charges_88 (fun H locs hP hD hS => ?_)
          refine lv_aload_n hx hb dX7_charges_89 rfl (lv_at hl 3 rfl) ?_
          refine lv_bipush (v := 79) hx hb dX7_charges_90 (by decide) ?_
          refine lv_dup2_11 hx hb dX7_charges_92 rfl rfl ?_
          refine g_ld (n := 112) (f := z11) (v := z11 79) (k := 79) hx hb hK hP 0 rfl (by decide) (by unfold vp_in; decide) rfl dX7_charges_93 ?_
          refine lv_iconst (v := 1) hx hb dX7_charges_94 (by decide) ?_
          refine lv_iadd hx hb dX7_charges_95 ?_
          obtain ⟨z12, ez12, hR, hok⟩ := g_let2 hR hok
          refine g_st (n := 112) (f := z11) (k := 79) (B2 := [AW G r 112 z12]) hx hb hK hP hD hS 0 rfl (by decide) (by unfold vp_in; decide) (by subst ez12; rfl) dX7_charges_96 (fun H locs hP hD hS => ?_)
          refine lv_aload_n hx hb dX7_charges_97 rfl (lv_at hl 3 rfl) ?_
          refine lv_iconst (v := 2) hx hb dX7_charges_98 (by decide) ?_
          obtain ⟨k14, hok⟩ := hok
          obtain ⟨R13, eR13, hR⟩ := g_let hR
          refine g_callS (c_X7_logs l G r z12 2 R13 eR13 k14) hx hb hml hown hts hK hP hD hS hA gX7_charges_X7_logs rfl (n := 2) (by decide +kernel) rfl ⟨Nat.le_of_ble_eq_true rfl, Nat.le_of_ble_eq_true rfl⟩ [0] rfl (by decide) hl.1 rfl (Nat.le_of_ble_eq_true rfl) ⟨Nat.zero_le _, Nat.zero_le _⟩ dX7_charges_99 (fun H locs hP hD hS => ?_)
          have hP : va_P G.1 vwCl (List.flatten [AW G r 112 R13]) H := hP
          have hD : va_D A (List.flatten [AW G r 112 R13]) := hD
          subst hR
          exact g_retv hx hb hr hlocks hS dX7_charges_102 rfl hP
    · rw [if_neg c8] at hR
      have hok := hok.2 c8
      refine lv_aload_n hx hb dX7_charges_65 rfl (lv_at hl 3 rfl) ?_
      obtain ⟨k16, hok⟩ := hok
      obtain ⟨R15, eR15, hR⟩ := g_let hR
      refine g_callS (c_X7_goesOn l G r f R15 eR15 k16) hx hb hml hown hts hK hP hD hS hA gX7_charges_X7_goesOn rfl (n := 1) (by decide +kernel) rfl ⟨Nat.le_of_ble_eq_true rfl, Nat.le_of_ble_eq_true rfl⟩ [0] rfl (by decide) hl.1 rfl (Nat.le_of_ble_eq_true rfl) ⟨Nat.zero_le _, Nat.zero_le _⟩ dX7_charges_66 (fun H locs hP hD hS => ?_)
      have hP : va_P G.1 vwCl (List.flatten [AW G r 112 R15]) H := hP
      have hD : va_D A (List.flatten [AW G r 112 R15]) := hD
      refine lv_goto (tgt := 102) hx hb dX7_charges_69 (by decide) ?_
      subst hR
      exact g_retv hx hb hr hlocks hS dX7_charges_102 rfl hP
  · rw [if_pos c5] at hR
    have hok := hok.1 c5
    refine lv_iconst (v := 0) hx hb dX7_charges_15 (by decide) ?_
    refine lv_istore_n (lv' := [(3, .int 0), (2, .int R3), (1, .int R1), (0, .ref r)]) hx hb dX7_charges_16 rfl hl (by decide) rfl (fun ls hl => ?_)
    have lp17 : ∀ (n : Nat) (x17_3 : Int32) (w17_0 : (Nat → Int32)) (H : Heap) (locs : List Loc) (ls : Array Slot), R = fl_X7_charges_17 R1 n x17_3 w17_0 → okl_X7_charges_17 R1 n x17_3 w17_0 → va_P G.1 vwCl (List.flatten [AW G r 112 w17_0]) H → va_D A (List.flatten [AW G r 112 w17_0]) → va_S A s.heap H locs → lv_has ls 4 [(0, .ref r), (1, .int R1), (2, .int R3), (3, .int x17_3)] → W p l e { frames := 5, cells := 0, slots := 0, locals := 108 } s m (List.toArray [.ref r]) below meth c H locs 0 0 (gQ G below (List.toArray [.ref r]) s none [AW G r 112 R] A) (F0 m 17 ls []) := by
      intro n
      induction n with
      | zero =>
        intro x17_3 w17_0 H locs ls hR hok hP hD hS hl
        rw [okl_X7_charges_17] at hok
        exact hok.elim
      | succ n ih =>
        intro x17_3 w17_0 H locs ls hR hok hP hD hS hl
        rw [fl_X7_charges_17] at hR
        rw [okl_X7_charges_17] at hok
        refine lv_iload_n hx hb dX7_charges_17 rfl (lv_at hl 3 rfl) ?_
        refine lv_aload_n hx hb dX7_charges_18 rfl (lv_at hl 0 rfl) ?_
        refine lv_bipush (v := 71) hx hb dX7_charges_19 (by decide) ?_
        refine g_ld (n := 112) (f := w17_0) (v := w17_0 71) (k := 71) hx hb hK hP 0 rfl (by decide) (by unfold vp_in; decide) rfl dX7_charges_21 ?_
        refine lv_icmp_ge (tgt := 37) hx hb dX7_charges_22 (by decide) (fun c34 => ?_) (fun c34 => ?_)
        · rw [if_pos c34] at hR
          have hok := hok.1 c34
          refine lv_aload_n hx hb dX7_charges_37 rfl (lv_at hl 0 rfl) ?_
          refine lv_bipush (v := 75) hx hb dX7_charges_38 (by decide) ?_
          refine lv_dup2_11 hx hb dX7_charges_40 rfl rfl ?_
          refine g_ld (n := 112) (f := w17_0) (v := w17_0 75) (k := 75) hx hb hK hP 0 rfl (by decide) (by unfold vp_in; decide) rfl dX7_charges_41 ?_
          refine lv_iconst (v := 1) hx hb dX7_charges_42 (by decide) ?_
          refine lv_iadd hx hb dX7_charges_43 ?_
          obtain ⟨z35, ez35, hR, hok⟩ := g_let2 hR hok
          refine g_st (n := 112) (f := w17_0) (k := 75) (B2 := [AW G r 112 z35]) hx hb hK hP hD hS 0 rfl (by decide) (by unfold vp_in; decide) (by subst ez35; rfl) dX7_charges_44 (fun H locs hP hD hS => ?_)
          refine lv_aload_n hx hb dX7_charges_45 rfl (lv_at hl 0 rfl) ?_
          refine lv_iload_n hx hb dX7_charges_46 rfl (lv_at hl 1 rfl) ?_
          obtain ⟨k37, hok⟩ := hok
          obtain ⟨R36, eR36, hR, hok⟩ := g_let2 hR hok
          refine g_callS (c_X7_endsBehind l G r z35 R1 R36 eR36 k37) hx hb hml hown hts hK hP hD hS hA gX7_charges_X7_endsBehind rfl (n := 2) (by decide +kernel) rfl ⟨Nat.le_of_ble_eq_true rfl, Nat.le_of_ble_eq_true rfl⟩ [0] rfl (by decide) hl.1 rfl (Nat.le_of_ble_eq_true rfl) ⟨Nat.zero_le _, Nat.zero_le _⟩ dX7_charges_47 (fun H locs hP hD hS => ?_)
          have hP : va_P G.1 vwCl (List.flatten [AW G r 112 z35]) H := hP
          have hD : va_D A (List.flatten [AW G r 112 z35]) := hD
          refine lv_istore_n (lv' := [(2, .int R36), (0, .ref r), (1, .int R1), (3, .int x17_3)]) hx hb dX7_charges_50 rfl hl (by decide) rfl (fun ls hl => ?_)
          refine lv_aload_n hx hb dX7_charges_51 rfl (lv_at hl 1 rfl) ?_
          refine lv_aload_n hx hb dX7_charges_52 rfl (lv_at hl 1 rfl) ?_
          refine lv_bipush (v := 74) hx hb dX7_charges_53 (by decide) ?_
          refine g_ld (n := 112) (f := z35) (v := z35 74) (k := 74) hx hb hK hP 0 rfl (by decide) (by unfold vp_in; decide) rfl dX7_charges_55 ?_
          refine lv_iconst (v := 3) hx hb dX7_charges_56 (by decide) ?_
          obtain ⟨k39, hok⟩ := hok
          obtain ⟨R38, eR38, hR, hok⟩ := g_let2 hR hok
          refine g_callS (c_X7_ofStage l G r z35 (z35 74) 3 R38 eR38 k39) hx hb hml hown hts hK hP hD hS hA gX7_charges_X7_ofStage rfl (n := 3) (by decide +kernel) rfl ⟨Nat.le_of_ble_eq_true rfl, Nat.le_of_ble_eq_true rfl⟩ [0] rfl (by decide) hl.1 rfl (Nat.le_of_ble_eq_true rfl) ⟨Nat.zero_le _, Nat.zero_le _⟩ dX7_charges_57 (fun H locs hP hD hS => ?_)
          have hP : va_P G.1 vwCl (List.flatten [AW G r 112 z35]) H := hP
          have hD : va_D A (List.flatten [AW G r 112 z35]) := hD
          refine lv_istore_n (lv' := [(3, .int R38), (2, .int R36), (0, .ref r), (1, .int R1)]) hx hb dX7_charges_60 rfl hl (by decide) rfl (fun ls hl => ?_)
          refine lv_iload_n hx hb dX7_charges_61 rfl (lv_at hl 1 rfl) ?_
          refine lv_if_eq (tgt := 72) hx hb dX7_charges_62 (by decide) (fun c40 => ?_) (fun c40 => ?_)
          · rw [if_pos c40] at hR
            have hok := hok.1 c40
            refine lv_iload_n hx hb dX7_charges_72 rfl (lv_at hl 0 rfl) ?_
            refine lv_if_le (tgt := 102) hx hb dX7_charges_73 (by decide) (fun c41 => ?_) (fun c41 => ?_)
            · rw [if_pos c41] at hR
              have hok := hok.1 c41
              subst hR
              exact g_retv hx hb hr hlocks hS dX7_charges_102 rfl hP
            · rw [if_neg c41] at hR
              have hok := hok.2 c41
              refine lv_aload_n hx hb dX7_charges_76 rfl (lv_at hl 2 rfl) ?_
              refine lv_bipush (v := 75) hx hb dX7_charges_77 (by decide) ?_
              refine g_ld (n := 112) (f := z35) (v := z35 75) (k := 75) hx hb hK hP 0 rfl (by decide) (by unfold vp_in; decide) rfl dX7_charges_79 ?_
              refine lv_iload_n hx hb dX7_charges_80 rfl (lv_at hl 0 rfl) ?_
              refine lv_icmp_lt (tgt := 102) hx hb dX7_charges_81 (by decide) (fun c42 => ?_) (fun c42 => ?_)
              · rw [if_pos c42] at hR
                have hok := hok.1 c42
                subst hR
                exact g_retv hx hb hr hlocks hS dX7_charges_102 rfl hP
              · rw [if_neg c42] at hR
                have hok := hok.2 c42
                refine lv_aload_n hx hb dX7_charges_84 rfl (lv_at hl 2 rfl) ?_
                refine lv_bipush (v := 73) hx hb dX7_charges_85 (by decide) ?_
                refine lv_iconst (v := 3) hx hb dX7_charges_87 (by decide) ?_
                obtain ⟨z43, ez43, hR, hok⟩ := g_let2 hR hok
                refine g_st (n := 112) (f := z35) (k := 73) (B2 := [AW G r 112 z43]) hx hb hK hP hD hS 0 rfl (by decide) (by unfold vp_in; decide) (by subst ez43; rfl) dX7_charges_88 (fun H locs hP hD hS => ?_)
                refine lv_aload_n hx hb dX7_charges_89 rfl (lv_at hl 2 rfl) ?_
                refine lv_bipush (v := 79) hx hb dX7_charges_90 (by decide) ?_
                refine lv_dup2_11 hx hb dX7_charges_92 rfl rfl ?_
                refine g_ld (n := 112) (f := z43) (v := z43 79) (k := 79) hx hb hK hP 0 rfl (by decide) (by unfold vp_in; decide) rfl dX7_charges_93 ?_
                refine lv_iconst (v := 1) hx hb dX7_charges_94 (by decide) ?_
                refine lv_iadd hx hb dX7_charges_95 ?_
                obtain ⟨z44, ez44, hR, hok⟩ := g_let2 hR hok
                refine g_st (n := 112) (f := z43) (k := 79) (B2 := [AW G r 112 z44]) hx hb hK hP hD hS 0 rfl (by decide) (by unfold vp_in; decide) (by subst ez44; rfl) dX7_charges_96 (fun H locs hP hD hS => ?_)
                refine lv_aload_n hx hb dX7_charges_97 rfl (lv_at hl 2 rfl) ?_
                refine lv_iconst (v := 2) hx hb dX7_charges_98 (by decide) ?_
                obtain ⟨k46, hok⟩ := hok
                obtain ⟨R45, eR45, hR⟩ := g_let hR
                refine g_callS (c_X7_logs l G r z44 2 R45 eR45 k46) hx hb hml hown hts hK hP hD hS hA gX7_charges_X7_logs rfl (n := 2) (by decide +kernel) rfl ⟨Nat.le_of_ble_eq_true rfl, Nat.le_of_ble_eq_true rfl⟩ [0] rfl (by decide) hl.1 rfl (Nat.le_of_ble_eq_true rfl) ⟨Nat.zero_le _, Nat.zero_le _⟩ dX7_charges_99 (fun H locs hP hD hS => ?_)
                have hP : va_P G.1 vwCl (List.flatten [AW G r 112 R45]) H := hP
                have hD : va_D A (List.flatten [AW G r 112 R45]) := hD
                subst hR
                exact g_retv hx hb hr hlocks hS dX7_charges_102 rfl hP
          · rw [if_neg c40] at hR
            have hok := hok.2 c40
            refine lv_aload_n hx hb dX7_charges_65 rfl (lv_at hl 2 rfl) ?_
            obtain ⟨k48, hok⟩ := hok
            obtain ⟨R47, eR47, hR⟩ := g_let hR
            refine g_callS (c_X7_goesOn l G r z35 R47 eR47 k48) hx hb hml hown hts hK hP hD hS hA gX7_charges_X7_goesOn rfl (n := 1) (by decide +kernel) rfl ⟨Nat.le_of_ble_eq_true rfl, Nat.le_of_ble_eq_true rfl⟩ [0] rfl (by decide) hl.1 rfl (Nat.le_of_ble_eq_true rfl) ⟨Nat.zero_le _, Nat.zero_le _⟩ dX7_charges_66 (fun H locs hP hD hS => ?_)
            have hP : va_P G.1 vwCl (List.flatten [AW G r 112 R47]) H := hP
            have hD : va_D A (List.flatten [AW G r 112 R47]) := hD
            refine lv_goto (tgt := 102) hx hb dX7_charges_69 (by decide) ?_
            subst hR
            exact g_retv hx hb hr hlocks hS dX7_charges_102 rfl hP
        · rw [if_neg c34] at hR
          have hok := hok.2 c34
          refine lv_aload_n hx hb dX7_charges_25 rfl (lv_at hl 0 rfl) ?_
          refine lv_iload_n hx hb dX7_charges_26 rfl (lv_at hl 3 rfl) ?_
          refine lv_iload_n hx hb dX7_charges_27 rfl (lv_at hl 1 rfl) ?_
          obtain ⟨k50, hok⟩ := hok
          obtain ⟨R49, eR49, hR, hok⟩ := g_let2 hR hok
          refine g_callS (c_X7_takesIn l G r w17_0 x17_3 R1 R49 eR49 k50) hx hb hml hown hts hK hP hD hS hA gX7_charges_X7_takesIn rfl (n := 3) (by decide +kernel) rfl ⟨Nat.le_of_ble_eq_true rfl, Nat.le_of_ble_eq_true rfl⟩ [0] rfl (by decide) hl.1 rfl (Nat.le_of_ble_eq_true rfl) ⟨Nat.zero_le _, Nat.zero_le _⟩ dX7_charges_28 (fun H locs hP hD hS => ?_)
          have hP : va_P G.1 vwCl (List.flatten [AW G r 112 R49]) H := hP
          have hD : va_D A (List.flatten [AW G r 112 R49]) := hD
          obtain ⟨v51, ev51, hR, hok⟩ := g_let2 hR hok
          refine lv_iinc (v := v51) (lv' := [(3, .int v51), (0, .ref r), (1, .int R1), (2, .int R3)]) hx hb dX7_charges_31 hl (k := 3) rfl (by subst ev51; rfl) (by decide) rfl (fun ls hl => ?_)
          refine lv_goto (tgt := 17) hx hb dX7_charges_34 (by decide) ?_
          exact ih v51 R49 _ _ _ hR hok hP hD hS (lv_sub hl [1, 2, 3, 0] rfl)
    exact lp17 7 0 f _ _ _ hR hok hP hD hS (lv_sub hl [3, 2, 1, 0] rfl)
def fl_X7_bleeds_7 (R1 : Int32) : Nat → Int32 → (Nat → Int32) → (Nat → Int32)
  | 0, _, _ => (fun _ => 0)
  | n + 1, x7_2, w7_0 => (if (w7_0 71) ≤ x7_2 then w7_0 else (gL (f_X7_of w7_0 x7_2 0) (fun (R18 : Int32) => (gL (f_X7_base w7_0 x7_2) (fun (R20 : Int32) => (if (R20 - R1) ≤ (w7_0 49) then (gL (upd w7_0 (((7 * x7_2) + 0).toNatClampNeg) ((w7_0 (((7 * x7_2) + 0).toNatClampNeg)) - 0)) (fun (z24 : (Nat → Int32)) => (gL (upd z24 (((7 * x7_2) + 5).toNatClampNeg) ((z24 (((7 * x7_2) + 5).toNatClampNeg)) + 0)) (fun (z27 : (Nat → Int32)) => (gL ((x7_2 + 1)) (fun (v29 : Int32) => (fl_X7_bleeds_7 R1 n v29 z27))))))) else (if R18 ≤ (w7_0 50) then (gL (upd w7_0 (((7 * x7_2) + 0).toNatClampNeg) ((w7_0 (((7 * x7_2) + 0).toNatClampNeg)) - R18)) (fun (z32 : (Nat → Int32)) => (gL (upd z32 (((7 * x7_2) + 5).toNatClampNeg) ((z32 (((7 * x7_2) + 5).toNatClampNeg)) + R18)) (fun (z35 : (Nat → Int32)) => (gL ((x7_2 + 1)) (fun (v37 : Int32) => (fl_X7_bleeds_7 R1 n v37 z35))))))) else (gL (w7_0 50) (fun (v38 : Int32) => (gL (upd w7_0 (((7 * x7_2) + 0).toNatClampNeg) ((w7_0 (((7 * x7_2) + 0).toNatClampNeg)) - v38)) (fun (z40 : (Nat → Int32)) => (gL (upd z40 (((7 * x7_2) + 5).toNatClampNeg) ((z40 (((7 * x7_2) + 5).toNatClampNeg)) + v38)) (fun (z43 : (Nat → Int32)) => (gL ((x7_2 + 1)) (fun (v45 : Int32) => (fl_X7_bleeds_7 R1 n v45 z43))))))))))))))))
def okl_X7_bleeds_7 (R1 : Int32) : Nat → Int32 → (Nat → Int32) → Prop
  | 0, _, _ => False
  | n + 1, x7_2, w7_0 => (((w7_0 71) ≤ x7_2 → True) ∧ (¬ (w7_0 71) ≤ x7_2 → (ok_X7_of x7_2 0) ∧ (gL (f_X7_of w7_0 x7_2 0) (fun (R18 : Int32) => (ok_X7_base w7_0 x7_2) ∧ (gL (f_X7_base w7_0 x7_2) (fun (R20 : Int32) => (((R20 - R1) ≤ (w7_0 49) → (vp_in ((7 * x7_2) + 0) 112) ∧ (vp_in ((7 * x7_2) + 0) 112) ∧ (gL (upd w7_0 (((7 * x7_2) + 0).toNatClampNeg) ((w7_0 (((7 * x7_2) + 0).toNatClampNeg)) - 0)) (fun (z24 : (Nat → Int32)) => (vp_in ((7 * x7_2) + 5) 112) ∧ (vp_in ((7 * x7_2) + 5) 112) ∧ (gL (upd z24 (((7 * x7_2) + 5).toNatClampNeg) ((z24 (((7 * x7_2) + 5).toNatClampNeg)) + 0)) (fun (z27 : (Nat → Int32)) => (gL ((x7_2 + 1)) (fun (v29 : Int32) => (okl_X7_bleeds_7 R1 n v29 z27)))))))) ∧ (¬ (R20 - R1) ≤ (w7_0 49) → ((R18 ≤ (w7_0 50) → (vp_in ((7 * x7_2) + 0) 112) ∧ (vp_in ((7 * x7_2) + 0) 112) ∧ (gL (upd w7_0 (((7 * x7_2) + 0).toNatClampNeg) ((w7_0 (((7 * x7_2) + 0).toNatClampNeg)) - R18)) (fun (z32 : (Nat → Int32)) => (vp_in ((7 * x7_2) + 5) 112) ∧ (vp_in ((7 * x7_2) + 5) 112) ∧ (gL (upd z32 (((7 * x7_2) + 5).toNatClampNeg) ((z32 (((7 * x7_2) + 5).toNatClampNeg)) + R18)) (fun (z35 : (Nat → Int32)) => (gL ((x7_2 + 1)) (fun (v37 : Int32) => (okl_X7_bleeds_7 R1 n v37 z35)))))))) ∧ (¬ R18 ≤ (w7_0 50) → (gL (w7_0 50) (fun (v38 : Int32) => (vp_in ((7 * x7_2) + 0) 112) ∧ (vp_in ((7 * x7_2) + 0) 112) ∧ (gL (upd w7_0 (((7 * x7_2) + 0).toNatClampNeg) ((w7_0 (((7 * x7_2) + 0).toNatClampNeg)) - v38)) (fun (z40 : (Nat → Int32)) => (vp_in ((7 * x7_2) + 5) 112) ∧ (vp_in ((7 * x7_2) + 5) 112) ∧ (gL (upd z40 (((7 * x7_2) + 5).toNatClampNeg) ((z40 (((7 * x7_2) + 5).toNatClampNeg)) + v38)) (fun (z43 : (Nat → Int32)) => (gL ((x7_2 + 1)) (fun (v45 : Int32) => (okl_X7_bleeds_7 R1 n v45 z43)))))))))))))))))))
def f_X7_bleeds (f : (Nat → Int32)) : (Nat → Int32) := (gL (f_X7_lowest f) (fun (R1 : Int32) => (fl_X7_bleeds_7 R1 7 0 f)))
def ok_X7_bleeds (f : (Nat → Int32)) : Prop := (ok_X7_lowest f) ∧ (gL (f_X7_lowest f) (fun (R1 : Int32) => (okl_X7_bleeds_7 R1 7 0 f)))
set_option maxHeartbeats 4000000 in
set_option maxRecDepth 100000 in
theorem c_X7_bleeds (l : Launch) (G : gG) (r : Nat) (f : (Nat → Int32)) (R : (Nat → Int32)) (hR : R = f_X7_bleeds f) (hok : ok_X7_bleeds f) : CT l G yX7_bleeds wsX7_bleeds 3 65 [.ref r] [AW G r 112 f] none [AW G r 112 R] := by
  unfold f_X7_bleeds at hR
  unfold ok_X7_bleeds at hok
  refine CT.of (cc := cX7_bleeds) (maxL := 6) (ret := none) (plainFor_of_name (by decide +kernel)) rfl rfl (Nat.le_of_ble_eq_true rfl) ?_
  intro p e s m below meth c A ls hx hb hml hr hts hown hlocks hK hP hD hA hS hl
  have hown : s.vm.findClass RX7 = some m.cls := hown
  have hl : lv_has ls 6 [(0, .ref r)] := hl
  refine lv_aload_n hx hb dX7_bleeds_0 rfl (lv_at hl 0 rfl) ?_
  obtain ⟨k2, hok⟩ := hok
  obtain ⟨R1, eR1, hR, hok⟩ := g_let2 hR hok
  refine g_callS (c_X7_lowest l G r f R1 eR1 k2) hx hb hml hown hts hK hP hD hS hA gX7_bleeds_X7_lowest rfl (n := 1) (by decide +kernel) rfl ⟨Nat.le_of_ble_eq_true rfl, Nat.le_of_ble_eq_true rfl⟩ [0] rfl (by decide) hl.1 rfl (Nat.le_of_ble_eq_true rfl) ⟨Nat.zero_le _, Nat.zero_le _⟩ dX7_bleeds_1 (fun H locs hP hD hS => ?_)
  have hP : va_P G.1 vwCl (List.flatten [AW G r 112 f]) H := hP
  have hD : va_D A (List.flatten [AW G r 112 f]) := hD
  refine lv_istore_n (lv' := [(1, .int R1), (0, .ref r)]) hx hb dX7_bleeds_4 rfl hl (by decide) rfl (fun ls hl => ?_)
  refine lv_iconst (v := 0) hx hb dX7_bleeds_5 (by decide) ?_
  refine lv_istore_n (lv' := [(2, .int 0), (1, .int R1), (0, .ref r)]) hx hb dX7_bleeds_6 rfl hl (by decide) rfl (fun ls hl => ?_)
  have lp7 : ∀ (n : Nat) (x7_2 : Int32) (w7_0 : (Nat → Int32)) (H : Heap) (locs : List Loc) (ls : Array Slot), R = fl_X7_bleeds_7 R1 n x7_2 w7_0 → okl_X7_bleeds_7 R1 n x7_2 w7_0 → va_P G.1 vwCl (List.flatten [AW G r 112 w7_0]) H → va_D A (List.flatten [AW G r 112 w7_0]) → va_S A s.heap H locs → lv_has ls 6 [(0, .ref r), (1, .int R1), (2, .int x7_2)] → W p l e { frames := 3, cells := 0, slots := 0, locals := 65 } s m (List.toArray [.ref r]) below meth c H locs 0 0 (gQ G below (List.toArray [.ref r]) s none [AW G r 112 R] A) (F0 m 7 ls []) := by
    intro n
    induction n with
    | zero =>
      intro x7_2 w7_0 H locs ls hR hok hP hD hS hl
      rw [okl_X7_bleeds_7] at hok
      exact hok.elim
    | succ n ih =>
      intro x7_2 w7_0 H locs ls hR hok hP hD hS hl
      rw [fl_X7_bleeds_7] at hR
      rw [okl_X7_bleeds_7] at hok
      refine lv_iload_n hx hb dX7_bleeds_7 rfl (lv_at hl 2 rfl) ?_
      refine lv_aload_n hx hb dX7_bleeds_8 rfl (lv_at hl 0 rfl) ?_
      refine lv_bipush (v := 71) hx hb dX7_bleeds_9 (by decide) ?_
      refine g_ld (n := 112) (f := w7_0) (v := w7_0 71) (k := 71) hx hb hK hP 0 rfl (by decide) (by unfold vp_in; decide) rfl dX7_bleeds_11 ?_
      refine lv_icmp_ge (tgt := 102) hx hb dX7_bleeds_12 (by decide) (fun c17 => ?_) (fun c17 => ?_)
      · rw [if_pos c17] at hR
        have hok := hok.1 c17
        subst hR
        exact g_retv hx hb hr hlocks hS dX7_bleeds_102 rfl hP
      · rw [if_neg c17] at hR
        have hok := hok.2 c17
        refine lv_aload_n hx hb dX7_bleeds_15 rfl (lv_at hl 0 rfl) ?_
        refine lv_iload_n hx hb dX7_bleeds_16 rfl (lv_at hl 2 rfl) ?_
        refine lv_iconst (v := 0) hx hb dX7_bleeds_17 (by decide) ?_
        obtain ⟨k19, hok⟩ := hok
        obtain ⟨R18, eR18, hR, hok⟩ := g_let2 hR hok
        refine g_callS (c_X7_of l G r w7_0 x7_2 0 R18 eR18 k19) hx hb hml hown hts hK hP hD hS hA gX7_bleeds_X7_of rfl (n := 3) (by decide +kernel) rfl ⟨Nat.le_of_ble_eq_true rfl, Nat.le_of_ble_eq_true rfl⟩ [0] rfl (by decide) hl.1 rfl (Nat.le_of_ble_eq_true rfl) ⟨Nat.zero_le _, Nat.zero_le _⟩ dX7_bleeds_18 (fun H locs hP hD hS => ?_)
        have hP : va_P G.1 vwCl (List.flatten [AW G r 112 w7_0]) H := hP
        have hD : va_D A (List.flatten [AW G r 112 w7_0]) := hD
        refine lv_istore_n (lv' := [(3, .int R18), (0, .ref r), (1, .int R1), (2, .int x7_2)]) hx hb dX7_bleeds_21 rfl hl (by decide) rfl (fun ls hl => ?_)
        refine lv_aload_n hx hb dX7_bleeds_22 rfl (lv_at hl 1 rfl) ?_
        refine lv_iload_n hx hb dX7_bleeds_23 rfl (lv_at hl 3 rfl) ?_
        obtain ⟨k21, hok⟩ := hok
        obtain ⟨R20, eR20, hR, hok⟩ := g_let2 hR hok
        refine g_callS (c_X7_base l G r w7_0 x7_2 R20 eR20 k21) hx hb hml hown hts hK hP hD hS hA gX7_bleeds_X7_base rfl (n := 2) (by decide +kernel) rfl ⟨Nat.le_of_ble_eq_true rfl, Nat.le_of_ble_eq_true rfl⟩ [0] rfl (by decide) hl.1 rfl (Nat.le_of_ble_eq_true rfl) ⟨Nat.zero_le _, Nat.zero_le _⟩ dX7_bleeds_24 (fun H locs hP hD hS => ?_)
        have hP : va_P G.1 vwCl (List.flatten [AW G r 112 w7_0]) H := hP
        have hD : va_D A (List.flatten [AW G r 112 w7_0]) := hD
        refine lv_iload_n hx hb dX7_bleeds_27 rfl (lv_at hl 2 rfl) ?_
        refine lv_isub hx hb dX7_bleeds_28 ?_
        refine lv_aload_n hx hb dX7_bleeds_29 rfl (lv_at hl 1 rfl) ?_
        refine lv_bipush (v := 49) hx hb dX7_bleeds_30 (by decide) ?_
        refine g_ld (n := 112) (f := w7_0) (v := w7_0 49) (k := 49) hx hb hK hP 0 rfl (by decide) (by unfold vp_in; decide) rfl dX7_bleeds_32 ?_
        refine lv_icmp_le (tgt := 40) hx hb dX7_bleeds_33 (by decide) (fun c22 => ?_) (fun c22 => ?_)
        · rw [if_pos c22] at hR
          have hok := hok.1 c22
          refine lv_iconst (v := 0) hx hb dX7_bleeds_40 (by decide) ?_
          refine lv_istore (lv' := [(4, .int 0), (3, .int R18), (0, .ref r), (1, .int R1), (2, .int x7_2)]) hx hb dX7_bleeds_41 hl (by decide) rfl (fun ls hl => ?_)
          refine lv_iload hx hb dX7_bleeds_43 (lv_at hl 0 rfl) ?_
          refine lv_if_ne (tgt := 52) hx hb dX7_bleeds_45 (by decide) (fun c => absurd c (by decide)) (fun _ => ?_)
          refine lv_iconst (v := 0) hx hb dX7_bleeds_48 (by decide) ?_
          refine lv_goto (tgt := 68) hx hb dX7_bleeds_49 (by decide) ?_
          refine lv_istore (lv' := [(5, .int 0), (4, .int 0), (3, .int R18), (0, .ref r), (1, .int R1), (2, .int x7_2)]) hx hb dX7_bleeds_68 hl (by decide) rfl (fun ls hl => ?_)
          refine lv_aload_n hx hb dX7_bleeds_70 rfl (lv_at hl 3 rfl) ?_
          refine lv_bipush (v := 7) hx hb dX7_bleeds_71 (by decide) ?_
          refine lv_iload_n hx hb dX7_bleeds_73 rfl (lv_at hl 5 rfl) ?_
          refine lv_imul hx hb dX7_bleeds_74 ?_
          refine lv_iconst (v := 0) hx hb dX7_bleeds_75 (by decide) ?_
          refine lv_iadd hx hb dX7_bleeds_76 ?_
          refine lv_dup2_11 hx hb dX7_bleeds_77 rfl rfl ?_
          obtain ⟨k23, hok⟩ := hok
          refine g_ld (n := 112) (f := w7_0) (v := w7_0 (((7 * x7_2) + 0).toNatClampNeg)) (k := (((7 * x7_2) + 0).toNatClampNeg)) hx hb hK hP 0 rfl rfl k23 rfl dX7_bleeds_78 ?_
          refine lv_iload hx hb dX7_bleeds_79 (lv_at hl 0 rfl) ?_
          refine lv_isub hx hb dX7_bleeds_81 ?_
          obtain ⟨k25, hok⟩ := hok
          obtain ⟨z24, ez24, hR, hok⟩ := g_let2 hR hok
          refine g_st (n := 112) (f := w7_0) (k := (((7 * x7_2) + 0).toNatClampNeg)) (B2 := [AW G r 112 z24]) hx hb hK hP hD hS 0 rfl rfl k25 (by subst ez24; rfl) dX7_bleeds_82 (fun H locs hP hD hS => ?_)
          refine lv_aload_n hx hb dX7_bleeds_83 rfl (lv_at hl 3 rfl) ?_
          refine lv_bipush (v := 7) hx hb dX7_bleeds_84 (by decide) ?_
          refine lv_iload_n hx hb dX7_bleeds_86 rfl (lv_at hl 5 rfl) ?_
          refine lv_imul hx hb dX7_bleeds_87 ?_
          refine lv_iconst (v := 5) hx hb dX7_bleeds_88 (by decide) ?_
          refine lv_iadd hx hb dX7_bleeds_89 ?_
          refine lv_dup2_11 hx hb dX7_bleeds_90 rfl rfl ?_
          obtain ⟨k26, hok⟩ := hok
          refine g_ld (n := 112) (f := z24) (v := z24 (((7 * x7_2) + 5).toNatClampNeg)) (k := (((7 * x7_2) + 5).toNatClampNeg)) hx hb hK hP 0 rfl rfl k26 rfl dX7_bleeds_91 ?_
          refine lv_iload hx hb dX7_bleeds_92 (lv_at hl 0 rfl) ?_
          refine lv_iadd hx hb dX7_bleeds_94 ?_
          obtain ⟨k28, hok⟩ := hok
          obtain ⟨z27, ez27, hR, hok⟩ := g_let2 hR hok
          refine g_st (n := 112) (f := z24) (k := (((7 * x7_2) + 5).toNatClampNeg)) (B2 := [AW G r 112 z27]) hx hb hK hP hD hS 0 rfl rfl k28 (by subst ez27; rfl) dX7_bleeds_95 (fun H locs hP hD hS => ?_)
          obtain ⟨v29, ev29, hR, hok⟩ := g_let2 hR hok
          refine lv_iinc (v := v29) (lv' := [(2, .int v29), (5, .int 0), (4, .int 0), (3, .int R18), (0, .ref r), (1, .int R1)]) hx hb dX7_bleeds_96 hl (k := 5) rfl (by subst ev29; rfl) (by decide) rfl (fun ls hl => ?_)
          refine lv_goto (tgt := 7) hx hb dX7_bleeds_99 (by decide) ?_
          exact ih v29 z27 _ _ _ hR hok hP hD hS (lv_sub hl [4, 5, 0] rfl)
        · rw [if_neg c22] at hR
          have hok := hok.2 c22
          refine lv_iconst (v := 1) hx hb dX7_bleeds_36 (by decide) ?_
          refine lv_goto (tgt := 41) hx hb dX7_bleeds_37 (by decide) ?_
          refine lv_istore (lv' := [(4, .int 1), (3, .int R18), (0, .ref r), (1, .int R1), (2, .int x7_2)]) hx hb dX7_bleeds_41 hl (by decide) rfl (fun ls hl => ?_)
          refine lv_iload hx hb dX7_bleeds_43 (lv_at hl 0 rfl) ?_
          refine lv_if_ne (tgt := 52) hx hb dX7_bleeds_45 (by decide) (fun _ => ?_) (fun c => absurd c (by decide))
          refine lv_aload_n hx hb dX7_bleeds_52 rfl (lv_at hl 2 rfl) ?_
          refine lv_bipush (v := 50) hx hb dX7_bleeds_53 (by decide) ?_
          refine g_ld (n := 112) (f := w7_0) (v := w7_0 50) (k := 50) hx hb hK hP 0 rfl (by decide) (by unfold vp_in; decide) rfl dX7_bleeds_55 ?_
          refine lv_iload_n hx hb dX7_bleeds_56 rfl (lv_at hl 1 rfl) ?_
          refine lv_icmp_ge (tgt := 67) hx hb dX7_bleeds_57 (by decide) (fun c30 => ?_) (fun c30 => ?_)
          · rw [if_pos c30] at hR
            have hok := hok.1 c30
            refine lv_iload_n hx hb dX7_bleeds_67 rfl (lv_at hl 1 rfl) ?_
            refine lv_istore (lv' := [(5, .int R18), (4, .int 1), (3, .int R18), (0, .ref r), (1, .int R1), (2, .int x7_2)]) hx hb dX7_bleeds_68 hl (by decide) rfl (fun ls hl => ?_)
            refine lv_aload_n hx hb dX7_bleeds_70 rfl (lv_at hl 3 rfl) ?_
            refine lv_bipush (v := 7) hx hb dX7_bleeds_71 (by decide) ?_
            refine lv_iload_n hx hb dX7_bleeds_73 rfl (lv_at hl 5 rfl) ?_
            refine lv_imul hx hb dX7_bleeds_74 ?_
            refine lv_iconst (v := 0) hx hb dX7_bleeds_75 (by decide) ?_
            refine lv_iadd hx hb dX7_bleeds_76 ?_
            refine lv_dup2_11 hx hb dX7_bleeds_77 rfl rfl ?_
            obtain ⟨k31, hok⟩ := hok
            refine g_ld (n := 112) (f := w7_0) (v := w7_0 (((7 * x7_2) + 0).toNatClampNeg)) (k := (((7 * x7_2) + 0).toNatClampNeg)) hx hb hK hP 0 rfl rfl k31 rfl dX7_bleeds_78 ?_
            refine lv_iload hx hb dX7_bleeds_79 (lv_at hl 0 rfl) ?_
            refine lv_isub hx hb dX7_bleeds_81 ?_
            obtain ⟨k33, hok⟩ := hok
            obtain ⟨z32, ez32, hR, hok⟩ := g_let2 hR hok
            refine g_st (n := 112) (f := w7_0) (k := (((7 * x7_2) + 0).toNatClampNeg)) (B2 := [AW G r 112 z32]) hx hb hK hP hD hS 0 rfl rfl k33 (by subst ez32; rfl) dX7_bleeds_82 (fun H locs hP hD hS => ?_)
            refine lv_aload_n hx hb dX7_bleeds_83 rfl (lv_at hl 3 rfl) ?_
            refine lv_bipush (v := 7) hx hb dX7_bleeds_84 (by decide) ?_
            refine lv_iload_n hx hb dX7_bleeds_86 rfl (lv_at hl 5 rfl) ?_
            refine lv_imul hx hb dX7_bleeds_87 ?_
            refine lv_iconst (v := 5) hx hb dX7_bleeds_88 (by decide) ?_
            refine lv_iadd hx hb dX7_bleeds_89 ?_
            refine lv_dup2_11 hx hb dX7_bleeds_90 rfl rfl ?_
            obtain ⟨k34, hok⟩ := hok
            refine g_ld (n := 112) (f := z32) (v := z32 (((7 * x7_2) + 5).toNatClampNeg)) (k := (((7 * x7_2) + 5).toNatClampNeg)) hx hb hK hP 0 rfl rfl k34 rfl dX7_bleeds_91 ?_
            refine lv_iload hx hb dX7_bleeds_92 (lv_at hl 0 rfl) ?_
            refine lv_iadd hx hb dX7_bleeds_94 ?_
            obtain ⟨k36, hok⟩ := hok
            obtain ⟨z35, ez35, hR, hok⟩ := g_let2 hR hok
            refine g_st (n := 112) (f := z32) (k := (((7 * x7_2) + 5).toNatClampNeg)) (B2 := [AW G r 112 z35]) hx hb hK hP hD hS 0 rfl rfl k36 (by subst ez35; rfl) dX7_bleeds_95 (fun H locs hP hD hS => ?_)
            obtain ⟨v37, ev37, hR, hok⟩ := g_let2 hR hok
            refine lv_iinc (v := v37) (lv' := [(2, .int v37), (5, .int R18), (4, .int 1), (3, .int R18), (0, .ref r), (1, .int R1)]) hx hb dX7_bleeds_96 hl (k := 5) rfl (by subst ev37; rfl) (by decide) rfl (fun ls hl => ?_)
            refine lv_goto (tgt := 7) hx hb dX7_bleeds_99 (by decide) ?_
            exact ih v37 z35 _ _ _ hR hok hP hD hS (lv_sub hl [4, 5, 0] rfl)
          · rw [if_neg c30] at hR
            have hok := hok.2 c30
            refine lv_aload_n hx hb dX7_bleeds_60 rfl (lv_at hl 2 rfl) ?_
            refine lv_bipush (v := 50) hx hb dX7_bleeds_61 (by decide) ?_
            refine g_ld (n := 112) (f := w7_0) (v := w7_0 50) (k := 50) hx hb hK hP 0 rfl (by decide) (by unfold vp_in; decide) rfl dX7_bleeds_63 ?_
            refine lv_goto (tgt := 68) hx hb dX7_bleeds_64 (by decide) ?_
            obtain ⟨v38, ev38, hR, hok⟩ := g_let2 hR hok
            refine g_topE ev38.symm ?_
            refine lv_istore (lv' := [(5, .int v38), (4, .int 1), (3, .int R18), (0, .ref r), (1, .int R1), (2, .int x7_2)]) hx hb dX7_bleeds_68 hl (by decide) rfl (fun ls hl => ?_)
            refine lv_aload_n hx hb dX7_bleeds_70 rfl (lv_at hl 3 rfl) ?_
            refine lv_bipush (v := 7) hx hb dX7_bleeds_71 (by decide) ?_
            refine lv_iload_n hx hb dX7_bleeds_73 rfl (lv_at hl 5 rfl) ?_
            refine lv_imul hx hb dX7_bleeds_74 ?_
            refine lv_iconst (v := 0) hx hb dX7_bleeds_75 (by decide) ?_
            refine lv_iadd hx hb dX7_bleeds_76 ?_
            refine lv_dup2_11 hx hb dX7_bleeds_77 rfl rfl ?_
            obtain ⟨k39, hok⟩ := hok
            refine g_ld (n := 112) (f := w7_0) (v := w7_0 (((7 * x7_2) + 0).toNatClampNeg)) (k := (((7 * x7_2) + 0).toNatClampNeg)) hx hb hK hP 0 rfl rfl k39 rfl dX7_bleeds_78 ?_
            refine lv_iload hx hb dX7_bleeds_79 (lv_at hl 0 rfl) ?_
            refine lv_isub hx hb dX7_bleeds_81 ?_
            obtain ⟨k41, hok⟩ := hok
            obtain ⟨z40, ez40, hR, hok⟩ := g_let2 hR hok
            refine g_st (n := 112) (f := w7_0) (k := (((7 * x7_2) + 0).toNatClampNeg)) (B2 := [AW G r 112 z40]) hx hb hK hP hD hS 0 rfl rfl k41 (by subst ez40; rfl) dX7_bleeds_82 (fun H locs hP hD hS => ?_)
            refine lv_aload_n hx hb dX7_bleeds_83 rfl (lv_at hl 3 rfl) ?_
            refine lv_bipush (v := 7) hx hb dX7_bleeds_84 (by decide) ?_
            refine lv_iload_n hx hb dX7_bleeds_86 rfl (lv_at hl 5 rfl) ?_
            refine lv_imul hx hb dX7_bleeds_87 ?_
            refine lv_iconst (v := 5) hx hb dX7_bleeds_88 (by decide) ?_
            refine lv_iadd hx hb dX7_bleeds_89 ?_
            refine lv_dup2_11 hx hb dX7_bleeds_90 rfl rfl ?_
            obtain ⟨k42, hok⟩ := hok
            refine g_ld (n := 112) (f := z40) (v := z40 (((7 * x7_2) + 5).toNatClampNeg)) (k := (((7 * x7_2) + 5).toNatClampNeg)) hx hb hK hP 0 rfl rfl k42 rfl dX7_bleeds_91 ?_
            refine lv_iload hx hb dX7_bleeds_92 (lv_at hl 0 rfl) ?_
            refine lv_iadd hx hb dX7_bleeds_94 ?_
            obtain ⟨k44, hok⟩ := hok
            obtain ⟨z43, ez43, hR, hok⟩ := g_let2 hR hok
            refine g_st (n := 112) (f := z40) (k := (((7 * x7_2) + 5).toNatClampNeg)) (B2 := [AW G r 112 z43]) hx hb hK hP hD hS 0 rfl rfl k44 (by subst ez43; rfl) dX7_bleeds_95 (fun H locs hP hD hS => ?_)
            obtain ⟨v45, ev45, hR, hok⟩ := g_let2 hR hok
            refine lv_iinc (v := v45) (lv' := [(2, .int v45), (5, .int v38), (4, .int 1), (3, .int R18), (0, .ref r), (1, .int R1)]) hx hb dX7_bleeds_96 hl (k := 5) rfl (by subst ev45; rfl) (by decide) rfl (fun ls hl => ?_)
            refine lv_goto (tgt := 7) hx hb dX7_bleeds_99 (by decide) ?_
            exact ih v45 z43 _ _ _ hR hok hP hD hS (lv_sub hl [4, 5, 0] rfl)
  exact lp7 7 0 f _ _ _ hR hok hP hD hS (lv_sub hl [2, 1, 0] rfl)
def f_X7_tick (f : (Nat → Int32)) : (Nat → Int32) := (if (f 73) = 1 then (gL (f_X7_isOut f) (fun (R13 : Int32) => (if R13 = 0 then (if (f 73) = 1 then (gL (f_X7_charges f) (fun (R21 : (Nat → Int32)) => (gL (upd R21 80 0) (fun (z23 : (Nat → Int32)) => (gL (f_X7_bleeds z23) (fun (R24 : (Nat → Int32)) => (gL (upd R24 76 ((R24 76) + 1)) (fun (z26 : (Nat → Int32)) => z26)))))))) else (gL (upd f 80 0) (fun (z17 : (Nat → Int32)) => (gL (f_X7_bleeds z17) (fun (R18 : (Nat → Int32)) => (gL (upd R18 76 ((R18 76) + 1)) (fun (z20 : (Nat → Int32)) => z20))))))) else (gL (upd f 77 ((f 77) + 1)) (fun (z27 : (Nat → Int32)) => (if (z27 80) = 0 then (gL (f_X7_logs z27 3) (fun (R33 : (Nat → Int32)) => (gL (upd R33 80 1) (fun (z35 : (Nat → Int32)) => (gL (f_X7_bleeds z35) (fun (R36 : (Nat → Int32)) => (gL (upd R36 76 ((R36 76) + 1)) (fun (z38 : (Nat → Int32)) => z38)))))))) else (gL (upd z27 80 1) (fun (z29 : (Nat → Int32)) => (gL (f_X7_bleeds z29) (fun (R30 : (Nat → Int32)) => (gL (upd R30 76 ((R30 76) + 1)) (fun (z32 : (Nat → Int32)) => z32)))))))))))) else (if (f 73) = 1 then (gL (f_X7_charges f) (fun (R7 : (Nat → Int32)) => (gL (upd R7 80 0) (fun (z9 : (Nat → Int32)) => (gL (f_X7_bleeds z9) (fun (R10 : (Nat → Int32)) => (gL (upd R10 76 ((R10 76) + 1)) (fun (z12 : (Nat → Int32)) => z12)))))))) else (gL (upd f 80 0) (fun (z3 : (Nat → Int32)) => (gL (f_X7_bleeds z3) (fun (R4 : (Nat → Int32)) => (gL (upd R4 76 ((R4 76) + 1)) (fun (z6 : (Nat → Int32)) => z6))))))))
def ok_X7_tick (f : (Nat → Int32)) : Prop := (((f 73) = 1 → (gL (f_X7_isOut f) (fun (R13 : Int32) => ((R13 = 0 → (((f 73) = 1 → (ok_X7_charges f) ∧ (gL (f_X7_charges f) (fun (R21 : (Nat → Int32)) => (gL (upd R21 80 0) (fun (z23 : (Nat → Int32)) => (ok_X7_bleeds z23) ∧ True))))) ∧ (¬ (f 73) = 1 → (gL (upd f 80 0) (fun (z17 : (Nat → Int32)) => (ok_X7_bleeds z17) ∧ True))))) ∧ (¬ R13 = 0 → (gL (upd f 77 ((f 77) + 1)) (fun (z27 : (Nat → Int32)) => (((z27 80) = 0 → (ok_X7_logs z27 3) ∧ (gL (f_X7_logs z27 3) (fun (R33 : (Nat → Int32)) => (gL (upd R33 80 1) (fun (z35 : (Nat → Int32)) => (ok_X7_bleeds z35) ∧ True))))) ∧ (¬ (z27 80) = 0 → (gL (upd z27 80 1) (fun (z29 : (Nat → Int32)) => (ok_X7_bleeds z29) ∧ True))))))))))) ∧ (¬ (f 73) = 1 → (((f 73) = 1 → (ok_X7_charges f) ∧ (gL (f_X7_charges f) (fun (R7 : (Nat → Int32)) => (gL (upd R7 80 0) (fun (z9 : (Nat → Int32)) => (ok_X7_bleeds z9) ∧ True))))) ∧ (¬ (f 73) = 1 → (gL (upd f 80 0) (fun (z3 : (Nat → Int32)) => (ok_X7_bleeds z3) ∧ True))))))
set_option maxHeartbeats 4000000 in
set_option maxRecDepth 100000 in
theorem c_X7_tick (l : Launch) (G : gG) (r : Nat) (f : (Nat → Int32)) (R : (Nat → Int32)) (hR : R = f_X7_tick f) (hok : ok_X7_tick f) : CT l G yX7_tick wsX7_tick 6 131 [.ref r] [AW G r 112 f] none [AW G r 112 R] := by
  unfold f_X7_tick at hR
  unfold ok_X7_tick at hok
  refine CT.of (cc := cX7_tick) (maxL := 2) (ret := none) (plainFor_of_name (by decide +kernel)) rfl rfl (Nat.le_of_ble_eq_true rfl) ?_
  intro p e s m below meth c A ls hx hb hml hr hts hown hlocks hK hP hD hA hS hl
  have hown : s.vm.findClass RX7 = some m.cls := hown
  have hl : lv_has ls 2 [(0, .ref r)] := hl
  refine lv_aload_n hx hb dX7_tick_0 rfl (lv_at hl 0 rfl) ?_
  refine lv_bipush (v := 73) hx hb dX7_tick_1 (by decide) ?_
  refine g_ld (n := 112) (f := f) (v := f 73) (k := 73) hx hb hK hP 0 rfl (by decide) (by unfold vp_in; decide) rfl dX7_tick_3 ?_
  refine lv_iconst (v := 1) hx hb dX7_tick_4 (by decide) ?_
  refine lv_icmp_ne (tgt := 19) hx hb dX7_tick_5 (by decide) (fun c1 => ?_) (fun c1 => ?_)
  · rw [if_neg c1] at hR
    have hok := hok.2 c1
    refine lv_iconst (v := 0) hx hb dX7_tick_19 (by decide) ?_
    refine lv_istore_n (lv' := [(1, .int 0), (0, .ref r)]) hx hb dX7_tick_20 rfl hl (by decide) rfl (fun ls hl => ?_)
    refine lv_iload_n hx hb dX7_tick_21 rfl (lv_at hl 0 rfl) ?_
    refine lv_if_eq (tgt := 48) hx hb dX7_tick_22 (by decide) (fun _ => ?_) (fun c => absurd c (by decide))
    refine lv_aload_n hx hb dX7_tick_48 rfl (lv_at hl 1 rfl) ?_
    refine lv_bipush (v := 73) hx hb dX7_tick_49 (by decide) ?_
    refine g_ld (n := 112) (f := f) (v := f 73) (k := 73) hx hb hK hP 0 rfl (by decide) (by unfold vp_in; decide) rfl dX7_tick_51 ?_
    refine lv_iconst (v := 1) hx hb dX7_tick_52 (by decide) ?_
    refine lv_icmp_ne (tgt := 60) hx hb dX7_tick_53 (by decide) (fun c2 => ?_) (fun c2 => ?_)
    · rw [if_neg c2] at hR
      have hok := hok.2 c2
      refine lv_aload_n hx hb dX7_tick_60 rfl (lv_at hl 1 rfl) ?_
      refine lv_bipush (v := 80) hx hb dX7_tick_61 (by decide) ?_
      refine lv_iload_n hx hb dX7_tick_63 rfl (lv_at hl 0 rfl) ?_
      refine lv_if_eq (tgt := 71) hx hb dX7_tick_64 (by decide) (fun _ => ?_) (fun c => absurd c (by decide))
      refine lv_iconst (v := 0) hx hb dX7_tick_71 (by decide) ?_
      obtain ⟨z3, ez3, hR, hok⟩ := g_let2 hR hok
      refine g_st (n := 112) (f := f) (k := 80) (B2 := [AW G r 112 z3]) hx hb hK hP hD hS 0 rfl (by decide) (by unfold vp_in; decide) (by subst ez3; rfl) dX7_tick_72 (fun H locs hP hD hS => ?_)
      refine lv_aload_n hx hb dX7_tick_73 rfl (lv_at hl 1 rfl) ?_
      obtain ⟨k5, hok⟩ := hok
      obtain ⟨R4, eR4, hR⟩ := g_let hR
      refine g_callS (c_X7_bleeds l G r z3 R4 eR4 k5) hx hb hml hown hts hK hP hD hS hA gX7_tick_X7_bleeds rfl (n := 1) (by decide +kernel) rfl ⟨Nat.le_of_ble_eq_true rfl, Nat.le_of_ble_eq_true rfl⟩ [0] rfl (by decide) hl.1 rfl (Nat.le_of_ble_eq_true rfl) ⟨Nat.zero_le _, Nat.zero_le _⟩ dX7_tick_74 (fun H locs hP hD hS => ?_)
      have hP : va_P G.1 vwCl (List.flatten [AW G r 112 R4]) H := hP
      have hD : va_D A (List.flatten [AW G r 112 R4]) := hD
      refine lv_aload_n hx hb dX7_tick_77 rfl (lv_at hl 1 rfl) ?_
      refine lv_bipush (v := 76) hx hb dX7_tick_78 (by decide) ?_
      refine lv_dup2_11 hx hb dX7_tick_80 rfl rfl ?_
      refine g_ld (n := 112) (f := R4) (v := R4 76) (k := 76) hx hb hK hP 0 rfl (by decide) (by unfold vp_in; decide) rfl dX7_tick_81 ?_
      refine lv_iconst (v := 1) hx hb dX7_tick_82 (by decide) ?_
      refine lv_iadd hx hb dX7_tick_83 ?_
      obtain ⟨z6, ez6, hR⟩ := g_let hR
      refine g_st (n := 112) (f := R4) (k := 76) (B2 := [AW G r 112 z6]) hx hb hK hP hD hS 0 rfl (by decide) (by unfold vp_in; decide) (by subst ez6; rfl) dX7_tick_84 (fun H locs hP hD hS => ?_)
      subst hR
      exact g_retv hx hb hr hlocks hS dX7_tick_85 rfl hP
    · rw [if_pos c2] at hR
      have hok := hok.1 c2
      refine lv_aload_n hx hb dX7_tick_56 rfl (lv_at hl 1 rfl) ?_
      obtain ⟨k8, hok⟩ := hok
      obtain ⟨R7, eR7, hR, hok⟩ := g_let2 hR hok
      refine g_callS (c_X7_charges l G r f R7 eR7 k8) hx hb hml hown hts hK hP hD hS hA gX7_tick_X7_charges rfl (n := 1) (by decide +kernel) rfl ⟨Nat.le_of_ble_eq_true rfl, Nat.le_of_ble_eq_true rfl⟩ [0] rfl (by decide) hl.1 rfl (Nat.le_of_ble_eq_true rfl) ⟨Nat.zero_le _, Nat.zero_le _⟩ dX7_tick_57 (fun H locs hP hD hS => ?_)
      have hP : va_P G.1 vwCl (List.flatten [AW G r 112 R7]) H := hP
      have hD : va_D A (List.flatten [AW G r 112 R7]) := hD
      refine lv_aload_n hx hb dX7_tick_60 rfl (lv_at hl 1 rfl) ?_
      refine lv_bipush (v := 80) hx hb dX7_tick_61 (by decide) ?_
      refine lv_iload_n hx hb dX7_tick_63 rfl (lv_at hl 0 rfl) ?_
      refine lv_if_eq (tgt := 71) hx hb dX7_tick_64 (by decide) (fun _ => ?_) (fun c => absurd c (by decide))
      refine lv_iconst (v := 0) hx hb dX7_tick_71 (by decide) ?_
      obtain ⟨z9, ez9, hR, hok⟩ := g_let2 hR hok
      refine g_st (n := 112) (f := R7) (k := 80) (B2 := [AW G r 112 z9]) hx hb hK hP hD hS 0 rfl (by decide) (by unfold vp_in; decide) (by subst ez9; rfl) dX7_tick_72 (fun H locs hP hD hS => ?_)
      refine lv_aload_n hx hb dX7_tick_73 rfl (lv_at hl 1 rfl) ?_
      obtain ⟨k11, hok⟩ := hok
      obtain ⟨R10, eR10, hR⟩ := g_let hR
      refine g_callS (c_X7_bleeds l G r z9 R10 eR10 k11) hx hb hml hown hts hK hP hD hS hA gX7_tick_X7_bleeds rfl (n := 1) (by decide +kernel) rfl ⟨Nat.le_of_ble_eq_true rfl, Nat.le_of_ble_eq_true rfl⟩ [0] rfl (by decide) hl.1 rfl (Nat.le_of_ble_eq_true rfl) ⟨Nat.zero_le _, Nat.zero_le _⟩ dX7_tick_74 (fun H locs hP hD hS => ?_)
      have hP : va_P G.1 vwCl (List.flatten [AW G r 112 R10]) H := hP
      have hD : va_D A (List.flatten [AW G r 112 R10]) := hD
      refine lv_aload_n hx hb dX7_tick_77 rfl (lv_at hl 1 rfl) ?_
      refine lv_bipush (v := 76) hx hb dX7_tick_78 (by decide) ?_
      refine lv_dup2_11 hx hb dX7_tick_80 rfl rfl ?_
      refine g_ld (n := 112) (f := R10) (v := R10 76) (k := 76) hx hb hK hP 0 rfl (by decide) (by unfold vp_in; decide) rfl dX7_tick_81 ?_
      refine lv_iconst (v := 1) hx hb dX7_tick_82 (by decide) ?_
      refine lv_iadd hx hb dX7_tick_83 ?_
      obtain ⟨z12, ez12, hR⟩ := g_let hR
      refine g_st (n := 112) (f := R10) (k := 76) (B2 := [AW G r 112 z12]) hx hb hK hP hD hS 0 rfl (by decide) (by unfold vp_in; decide) (by subst ez12; rfl) dX7_tick_84 (fun H locs hP hD hS => ?_)
      subst hR
      exact g_retv hx hb hr hlocks hS dX7_tick_85 rfl hP
  · rw [if_pos c1] at hR
    have hok := hok.1 c1
    refine lv_aload_n hx hb dX7_tick_8 rfl (lv_at hl 0 rfl) ?_
    obtain ⟨R13, eR13, hR, hok⟩ := g_let2 hR hok
    refine g_callS (c_X7_isOut l G r f R13 eR13) hx hb hml hown hts hK hP hD hS hA gX7_tick_X7_isOut rfl (n := 1) (by decide +kernel) rfl ⟨Nat.le_of_ble_eq_true rfl, Nat.le_of_ble_eq_true rfl⟩ [0] rfl (by decide) hl.1 rfl (Nat.le_of_ble_eq_true rfl) ⟨Nat.zero_le _, Nat.zero_le _⟩ dX7_tick_9 (fun H locs hP hD hS => ?_)
    have hP : va_P G.1 vwCl (List.flatten [AW G r 112 f]) H := hP
    have hD : va_D A (List.flatten [AW G r 112 f]) := hD
    refine lv_if_eq (tgt := 19) hx hb dX7_tick_12 (by decide) (fun c15 => ?_) (fun c15 => ?_)
    · rw [if_pos c15] at hR
      have hok := hok.1 c15
      refine lv_iconst (v := 0) hx hb dX7_tick_19 (by decide) ?_
      refine lv_istore_n (lv' := [(1, .int 0), (0, .ref r)]) hx hb dX7_tick_20 rfl hl (by decide) rfl (fun ls hl => ?_)
      refine lv_iload_n hx hb dX7_tick_21 rfl (lv_at hl 0 rfl) ?_
      refine lv_if_eq (tgt := 48) hx hb dX7_tick_22 (by decide) (fun _ => ?_) (fun c => absurd c (by decide))
      refine lv_aload_n hx hb dX7_tick_48 rfl (lv_at hl 1 rfl) ?_
      refine lv_bipush (v := 73) hx hb dX7_tick_49 (by decide) ?_
      refine g_ld (n := 112) (f := f) (v := f 73) (k := 73) hx hb hK hP 0 rfl (by decide) (by unfold vp_in; decide) rfl dX7_tick_51 ?_
      refine lv_iconst (v := 1) hx hb dX7_tick_52 (by decide) ?_
      refine lv_icmp_ne (tgt := 60) hx hb dX7_tick_53 (by decide) (fun c16 => ?_) (fun c16 => ?_)
      · rw [if_neg c16] at hR
        have hok := hok.2 c16
        refine lv_aload_n hx hb dX7_tick_60 rfl (lv_at hl 1 rfl) ?_
        refine lv_bipush (v := 80) hx hb dX7_tick_61 (by decide) ?_
        refine lv_iload_n hx hb dX7_tick_63 rfl (lv_at hl 0 rfl) ?_
        refine lv_if_eq (tgt := 71) hx hb dX7_tick_64 (by decide) (fun _ => ?_) (fun c => absurd c (by decide))
        refine lv_iconst (v := 0) hx hb dX7_tick_71 (by decide) ?_
        obtain ⟨z17, ez17, hR, hok⟩ := g_let2 hR hok
        refine g_st (n := 112) (f := f) (k := 80) (B2 := [AW G r 112 z17]) hx hb hK hP hD hS 0 rfl (by decide) (by unfold vp_in; decide) (by subst ez17; rfl) dX7_tick_72 (fun H locs hP hD hS => ?_)
        refine lv_aload_n hx hb dX7_tick_73 rfl (lv_at hl 1 rfl) ?_
        obtain ⟨k19, hok⟩ := hok
        obtain ⟨R18, eR18, hR⟩ := g_let hR
        refine g_callS (c_X7_bleeds l G r z17 R18 eR18 k19) hx hb hml hown hts hK hP hD hS hA gX7_tick_X7_bleeds rfl (n := 1) (by decide +kernel) rfl ⟨Nat.le_of_ble_eq_true rfl, Nat.le_of_ble_eq_true rfl⟩ [0] rfl (by decide) hl.1 rfl (Nat.le_of_ble_eq_true rfl) ⟨Nat.zero_le _, Nat.zero_le _⟩ dX7_tick_74 (fun H locs hP hD hS => ?_)
        have hP : va_P G.1 vwCl (List.flatten [AW G r 112 R18]) H := hP
        have hD : va_D A (List.flatten [AW G r 112 R18]) := hD
        refine lv_aload_n hx hb dX7_tick_77 rfl (lv_at hl 1 rfl) ?_
        refine lv_bipush (v := 76) hx hb dX7_tick_78 (by decide) ?_
        refine lv_dup2_11 hx hb dX7_tick_80 rfl rfl ?_
        refine g_ld (n := 112) (f := R18) (v := R18 76) (k := 76) hx hb hK hP 0 rfl (by decide) (by unfold vp_in; decide) rfl dX7_tick_81 ?_
        refine lv_iconst (v := 1) hx hb dX7_tick_82 (by decide) ?_
        refine lv_iadd hx hb dX7_tick_83 ?_
        obtain ⟨z20, ez20, hR⟩ := g_let hR
        refine g_st (n := 112) (f := R18) (k := 76) (B2 := [AW G r 112 z20]) hx hb hK hP hD hS 0 rfl (by decide) (by unfold vp_in; decide) (by subst ez20; rfl) dX7_tick_84 (fun H locs hP hD hS => ?_)
        subst hR
        exact g_retv hx hb hr hlocks hS dX7_tick_85 rfl hP
      · rw [if_pos c16] at hR
        have hok := hok.1 c16
        refine lv_aload_n hx hb dX7_tick_56 rfl (lv_at hl 1 rfl) ?_
        obtain ⟨k22, hok⟩ := hok
        obtain ⟨R21, eR21, hR, hok⟩ := g_let2 hR hok
        refine g_callS (c_X7_charges l G r f R21 eR21 k22) hx hb hml hown hts hK hP hD hS hA gX7_tick_X7_charges rfl (n := 1) (by decide +kernel) rfl ⟨Nat.le_of_ble_eq_true rfl, Nat.le_of_ble_eq_true rfl⟩ [0] rfl (by decide) hl.1 rfl (Nat.le_of_ble_eq_true rfl) ⟨Nat.zero_le _, Nat.zero_le _⟩ dX7_tick_57 (fun H locs hP hD hS => ?_)
        have hP : va_P G.1 vwCl (List.flatten [AW G r 112 R21]) H := hP
        have hD : va_D A (List.flatten [AW G r 112 R21]) := hD
        refine lv_aload_n hx hb dX7_tick_60 rfl (lv_at hl 1 rfl) ?_
        refine lv_bipush (v := 80) hx hb dX7_tick_61 (by decide) ?_
        refine lv_iload_n hx hb dX7_tick_63 rfl (lv_at hl 0 rfl) ?_
        refine lv_if_eq (tgt := 71) hx hb dX7_tick_64 (by decide) (fun _ => ?_) (fun c => absurd c (by decide))
        refine lv_iconst (v := 0) hx hb dX7_tick_71 (by decide) ?_
        obtain ⟨z23, ez23, hR, hok⟩ := g_let2 hR hok
        refine g_st (n := 112) (f := R21) (k := 80) (B2 := [AW G r 112 z23]) hx hb hK hP hD hS 0 rfl (by decide) (by unfold vp_in; decide) (by subst ez23; rfl) dX7_tick_72 (fun H locs hP hD hS => ?_)
        refine lv_aload_n hx hb dX7_tick_73 rfl (lv_at hl 1 rfl) ?_
        obtain ⟨k25, hok⟩ := hok
        obtain ⟨R24, eR24, hR⟩ := g_let hR
        refine g_callS (c_X7_bleeds l G r z23 R24 eR24 k25) hx hb hml hown hts hK hP hD hS hA gX7_tick_X7_bleeds rfl (n := 1) (by decide +kernel) rfl ⟨Nat.le_of_ble_eq_true rfl, Nat.le_of_ble_eq_true rfl⟩ [0] rfl (by decide) hl.1 rfl (Nat.le_of_ble_eq_true rfl) ⟨Nat.zero_le _, Nat.zero_le _⟩ dX7_tick_74 (fun H locs hP hD hS => ?_)
        have hP : va_P G.1 vwCl (List.flatten [AW G r 112 R24]) H := hP
        have hD : va_D A (List.flatten [AW G r 112 R24]) := hD
        refine lv_aload_n hx hb dX7_tick_77 rfl (lv_at hl 1 rfl) ?_
        refine lv_bipush (v := 76) hx hb dX7_tick_78 (by decide) ?_
        refine lv_dup2_11 hx hb dX7_tick_80 rfl rfl ?_
        refine g_ld (n := 112) (f := R24) (v := R24 76) (k := 76) hx hb hK hP 0 rfl (by decide) (by unfold vp_in; decide) rfl dX7_tick_81 ?_
        refine lv_iconst (v := 1) hx hb dX7_tick_82 (by decide) ?_
        refine lv_iadd hx hb dX7_tick_83 ?_
        obtain ⟨z26, ez26, hR⟩ := g_let hR
        refine g_st (n := 112) (f := R24) (k := 76) (B2 := [AW G r 112 z26]) hx hb hK hP hD hS 0 rfl (by decide) (by unfold vp_in; decide) (by subst ez26; rfl) dX7_tick_84 (fun H locs hP hD hS => ?_)
        subst hR
        exact g_retv hx hb hr hlocks hS dX7_tick_85 rfl hP
    · rw [if_neg c15] at hR
      have hok := hok.2 c15
      refine lv_iconst (v := 1) hx hb dX7_tick_15 (by decide) ?_
      refine lv_goto (tgt := 20) hx hb dX7_tick_16 (by decide) ?_
      refine lv_istore_n (lv' := [(1, .int 1), (0, .ref r)]) hx hb dX7_tick_20 rfl hl (by decide) rfl (fun ls hl => ?_)
      refine lv_iload_n hx hb dX7_tick_21 rfl (lv_at hl 0 rfl) ?_
      refine lv_if_eq (tgt := 48) hx hb dX7_tick_22 (by decide) (fun c => absurd c (by decide)) (fun _ => ?_)
      refine lv_aload_n hx hb dX7_tick_25 rfl (lv_at hl 1 rfl) ?_
      refine lv_bipush (v := 77) hx hb dX7_tick_26 (by decide) ?_
      refine lv_dup2_11 hx hb dX7_tick_28 rfl rfl ?_
      refine g_ld (n := 112) (f := f) (v := f 77) (k := 77) hx hb hK hP 0 rfl (by decide) (by unfold vp_in; decide) rfl dX7_tick_29 ?_
      refine lv_iconst (v := 1) hx hb dX7_tick_30 (by decide) ?_
      refine lv_iadd hx hb dX7_tick_31 ?_
      obtain ⟨z27, ez27, hR, hok⟩ := g_let2 hR hok
      refine g_st (n := 112) (f := f) (k := 77) (B2 := [AW G r 112 z27]) hx hb hK hP hD hS 0 rfl (by decide) (by unfold vp_in; decide) (by subst ez27; rfl) dX7_tick_32 (fun H locs hP hD hS => ?_)
      refine lv_aload_n hx hb dX7_tick_33 rfl (lv_at hl 1 rfl) ?_
      refine lv_bipush (v := 80) hx hb dX7_tick_34 (by decide) ?_
      refine g_ld (n := 112) (f := z27) (v := z27 80) (k := 80) hx hb hK hP 0 rfl (by decide) (by unfold vp_in; decide) rfl dX7_tick_36 ?_
      refine lv_if_ne (tgt := 60) hx hb dX7_tick_37 (by decide) (fun c28 => ?_) (fun c28 => ?_)
      · rw [if_neg c28] at hR
        have hok := hok.2 c28
        refine lv_aload_n hx hb dX7_tick_60 rfl (lv_at hl 1 rfl) ?_
        refine lv_bipush (v := 80) hx hb dX7_tick_61 (by decide) ?_
        refine lv_iload_n hx hb dX7_tick_63 rfl (lv_at hl 0 rfl) ?_
        refine lv_if_eq (tgt := 71) hx hb dX7_tick_64 (by decide) (fun c => absurd c (by decide)) (fun _ => ?_)
        refine lv_iconst (v := 1) hx hb dX7_tick_67 (by decide) ?_
        refine lv_goto (tgt := 72) hx hb dX7_tick_68 (by decide) ?_
        obtain ⟨z29, ez29, hR, hok⟩ := g_let2 hR hok
        refine g_st (n := 112) (f := z27) (k := 80) (B2 := [AW G r 112 z29]) hx hb hK hP hD hS 0 rfl (by decide) (by unfold vp_in; decide) (by subst ez29; rfl) dX7_tick_72 (fun H locs hP hD hS => ?_)
        refine lv_aload_n hx hb dX7_tick_73 rfl (lv_at hl 1 rfl) ?_
        obtain ⟨k31, hok⟩ := hok
        obtain ⟨R30, eR30, hR⟩ := g_let hR
        refine g_callS (c_X7_bleeds l G r z29 R30 eR30 k31) hx hb hml hown hts hK hP hD hS hA gX7_tick_X7_bleeds rfl (n := 1) (by decide +kernel) rfl ⟨Nat.le_of_ble_eq_true rfl, Nat.le_of_ble_eq_true rfl⟩ [0] rfl (by decide) hl.1 rfl (Nat.le_of_ble_eq_true rfl) ⟨Nat.zero_le _, Nat.zero_le _⟩ dX7_tick_74 (fun H locs hP hD hS => ?_)
        have hP : va_P G.1 vwCl (List.flatten [AW G r 112 R30]) H := hP
        have hD : va_D A (List.flatten [AW G r 112 R30]) := hD
        refine lv_aload_n hx hb dX7_tick_77 rfl (lv_at hl 1 rfl) ?_
        refine lv_bipush (v := 76) hx hb dX7_tick_78 (by decide) ?_
        refine lv_dup2_11 hx hb dX7_tick_80 rfl rfl ?_
        refine g_ld (n := 112) (f := R30) (v := R30 76) (k := 76) hx hb hK hP 0 rfl (by decide) (by unfold vp_in; decide) rfl dX7_tick_81 ?_
        refine lv_iconst (v := 1) hx hb dX7_tick_82 (by decide) ?_
        refine lv_iadd hx hb dX7_tick_83 ?_
        obtain ⟨z32, ez32, hR⟩ := g_let hR
        refine g_st (n := 112) (f := R30) (k := 76) (B2 := [AW G r 112 z32]) hx hb hK hP hD hS 0 rfl (by decide) (by unfold vp_in; decide) (by subst ez32; rfl) dX7_tick_84 (fun H locs hP hD hS => ?_)
        subst hR
        exact g_retv hx hb hr hlocks hS dX7_tick_85 rfl hP
      · rw [if_pos c28] at hR
        have hok := hok.1 c28
        refine lv_aload_n hx hb dX7_tick_40 rfl (lv_at hl 1 rfl) ?_
        refine lv_iconst (v := 3) hx hb dX7_tick_41 (by decide) ?_
        obtain ⟨k34, hok⟩ := hok
        obtain ⟨R33, eR33, hR, hok⟩ := g_let2 hR hok
        refine g_callS (c_X7_logs l G r z27 3 R33 eR33 k34) hx hb hml hown hts hK hP hD hS hA gX7_tick_X7_logs rfl (n := 2) (by decide +kernel) rfl ⟨Nat.le_of_ble_eq_true rfl, Nat.le_of_ble_eq_true rfl⟩ [0] rfl (by decide) hl.1 rfl (Nat.le_of_ble_eq_true rfl) ⟨Nat.zero_le _, Nat.zero_le _⟩ dX7_tick_42 (fun H locs hP hD hS => ?_)
        have hP : va_P G.1 vwCl (List.flatten [AW G r 112 R33]) H := hP
        have hD : va_D A (List.flatten [AW G r 112 R33]) := hD
        refine lv_goto (tgt := 60) hx hb dX7_tick_45 (by decide) ?_
        refine lv_aload_n hx hb dX7_tick_60 rfl (lv_at hl 1 rfl) ?_
        refine lv_bipush (v := 80) hx hb dX7_tick_61 (by decide) ?_
        refine lv_iload_n hx hb dX7_tick_63 rfl (lv_at hl 0 rfl) ?_
        refine lv_if_eq (tgt := 71) hx hb dX7_tick_64 (by decide) (fun c => absurd c (by decide)) (fun _ => ?_)
        refine lv_iconst (v := 1) hx hb dX7_tick_67 (by decide) ?_
        refine lv_goto (tgt := 72) hx hb dX7_tick_68 (by decide) ?_
        obtain ⟨z35, ez35, hR, hok⟩ := g_let2 hR hok
        refine g_st (n := 112) (f := R33) (k := 80) (B2 := [AW G r 112 z35]) hx hb hK hP hD hS 0 rfl (by decide) (by unfold vp_in; decide) (by subst ez35; rfl) dX7_tick_72 (fun H locs hP hD hS => ?_)
        refine lv_aload_n hx hb dX7_tick_73 rfl (lv_at hl 1 rfl) ?_
        obtain ⟨k37, hok⟩ := hok
        obtain ⟨R36, eR36, hR⟩ := g_let hR
        refine g_callS (c_X7_bleeds l G r z35 R36 eR36 k37) hx hb hml hown hts hK hP hD hS hA gX7_tick_X7_bleeds rfl (n := 1) (by decide +kernel) rfl ⟨Nat.le_of_ble_eq_true rfl, Nat.le_of_ble_eq_true rfl⟩ [0] rfl (by decide) hl.1 rfl (Nat.le_of_ble_eq_true rfl) ⟨Nat.zero_le _, Nat.zero_le _⟩ dX7_tick_74 (fun H locs hP hD hS => ?_)
        have hP : va_P G.1 vwCl (List.flatten [AW G r 112 R36]) H := hP
        have hD : va_D A (List.flatten [AW G r 112 R36]) := hD
        refine lv_aload_n hx hb dX7_tick_77 rfl (lv_at hl 1 rfl) ?_
        refine lv_bipush (v := 76) hx hb dX7_tick_78 (by decide) ?_
        refine lv_dup2_11 hx hb dX7_tick_80 rfl rfl ?_
        refine g_ld (n := 112) (f := R36) (v := R36 76) (k := 76) hx hb hK hP 0 rfl (by decide) (by unfold vp_in; decide) rfl dX7_tick_81 ?_
        refine lv_iconst (v := 1) hx hb dX7_tick_82 (by decide) ?_
        refine lv_iadd hx hb dX7_tick_83 ?_
        obtain ⟨z38, ez38, hR⟩ := g_let hR
        refine g_st (n := 112) (f := R36) (k := 76) (B2 := [AW G r 112 z38]) hx hb hK hP hD hS 0 rfl (by decide) (by unfold vp_in; decide) (by subst ez38; rfl) dX7_tick_84 (fun H locs hP hD hS => ?_)
        subst hR
        exact g_retv hx hb hr hlocks hS dX7_tick_85 rfl hP
