/-! FROM THE ENTRY -/
theorem g_prim {args : Array Value} {s : State} {ty : FieldType} (h : (Cond.arrayClass ty).before args s = true) : ∃ c, ArrOfT s c ty ∧ s.vm.findClass ("[" ++ ty.toString) = some c := by
  obtain ⟨c, k, comp, h1, h2, h3⟩ := Cond.arrayClass_spec h
  exact ⟨c, fun n z => ⟨(fun _ h => by cases h), k, h2, comp, h3⟩, h1⟩
theorem g_over {args : Array Value} {s : State} {C : String} (h : (Cond.arrayOver (.object C)).before args s = true) : ∃ c, ArrOfT s c (.object C) ∧ va_RA s c (.object C) := by
  obtain ⟨comp, c, k, h1, h2, h3, h4, h5⟩ := Cond.arrayOver_spec h
  exact ⟨c, fun n z => ⟨(fun _ h => by cases h), k, h3, comp, h4⟩, k, comp, h3, h4, h1, h5⟩
theorem g_tab_SETTING_LEAST {b : Nat} {s : State} (hgv : (Jvm.Cond.and given_1 narrow_1).before #[Value.ref b] s = true) (hl : (Cond.laysStatic RX6 "SETTING_LEAST" "[I").before #[Value.ref b] s = true) (hi : (Cond.initialized RX6).before #[Value.ref b] s = true) : ∃ t : Nat, va_Z RX6 "SETTING_LEAST" "[I" (.ref t) (fun q : Nat => s.heap.size ≤ q) s s.heap ∧ va_T .int t 9 (fun j => .int (cLeast j)) (fun q : Nat => s.heap.size ≤ q) s s.heap := by
  have hs := flat_of_before _ hgv
  have hA : ∀ a : Nat, a < s.heap.size → ¬ (fun q : Nat => s.heap.size ≤ q) a := fun a h => Nat.not_le.mpr h
  have hel : ∀ j : Nat, j < 9 → (Term.elem (.static "ChargeStages" "SETTING_LEAST" "[I") (.int (Int32.ofNat j))).eval #[Value.ref b] s none [] s = some (.int (cLeast j)) := by
    intro j hj
    rcases (show j = 0 ∨ j = 1 ∨ j = 2 ∨ j = 3 ∨ j = 4 ∨ j = 5 ∨ j = 6 ∨ j = 7 ∨ j = 8 by omega) with rfl | rfl | rfl | rfl | rfl | rfl | rfl | rfl | rfl
    · exact va_eqt (hs (.eq (.elem (.static "ChargeStages" "SETTING_LEAST" "[I") (.int 0)) (.int 100)) (by decide +kernel))
    · exact va_eqt (hs (.eq (.elem (.static "ChargeStages" "SETTING_LEAST" "[I") (.int 1)) (.int 0)) (by decide +kernel))
    · exact va_eqt (hs (.eq (.elem (.static "ChargeStages" "SETTING_LEAST" "[I") (.int 2)) (.int 50)) (by decide +kernel))
    · exact va_eqt (hs (.eq (.elem (.static "ChargeStages" "SETTING_LEAST" "[I") (.int 3)) (.int (-30))) (by decide +kernel))
    · exact va_eqt (hs (.eq (.elem (.static "ChargeStages" "SETTING_LEAST" "[I") (.int 4)) (.int 0)) (by decide +kernel))
    · exact va_eqt (hs (.eq (.elem (.static "ChargeStages" "SETTING_LEAST" "[I") (.int 5)) (.int (-30))) (by decide +kernel))
    · exact va_eqt (hs (.eq (.elem (.static "ChargeStages" "SETTING_LEAST" "[I") (.int 6)) (.int (-30))) (by decide +kernel))
    · exact va_eqt (hs (.eq (.elem (.static "ChargeStages" "SETTING_LEAST" "[I") (.int 7)) (.int 0)) (by decide +kernel))
    · exact va_eqt (hs (.eq (.elem (.static "ChargeStages" "SETTING_LEAST" "[I") (.int 8)) (.int 0)) (by decide +kernel))
  obtain ⟨t, h1, h2⟩ := va_Tof (args := #[Value.ref b]) (s := s) (tm := (.static "ChargeStages" "SETTING_LEAST" "[I")) (ty := .int) (N := 9) (f := fun j => .int (cLeast j)) (A := fun q : Nat => s.heap.size ≤ q) (by decide) (hs (.arrayOf (.static "ChargeStages" "SETTING_LEAST" "[I") .int) (by decide +kernel)) (va_eqt (hs (.eq (.length (.static "ChargeStages" "SETTING_LEAST" "[I")) (.int 9)) (by decide +kernel))) hel hA
  exact ⟨t, va_Zof hl hi h1 hA, h2⟩
theorem g_tab_SETTING_MOST {b : Nat} {s : State} (hgv : (Jvm.Cond.and given_1 narrow_1).before #[Value.ref b] s = true) (hl : (Cond.laysStatic RX6 "SETTING_MOST" "[I").before #[Value.ref b] s = true) (hi : (Cond.initialized RX6).before #[Value.ref b] s = true) : ∃ t : Nat, va_Z RX6 "SETTING_MOST" "[I" (.ref t) (fun q : Nat => s.heap.size ≤ q) s s.heap ∧ va_T .int t 9 (fun j => .int (cMost j)) (fun q : Nat => s.heap.size ≤ q) s s.heap := by
  have hs := flat_of_before _ hgv
  have hA : ∀ a : Nat, a < s.heap.size → ¬ (fun q : Nat => s.heap.size ≤ q) a := fun a h => Nat.not_le.mpr h
  have hel : ∀ j : Nat, j < 9 → (Term.elem (.static "ChargeStages" "SETTING_MOST" "[I") (.int (Int32.ofNat j))).eval #[Value.ref b] s none [] s = some (.int (cMost j)) := by
    intro j hj
    rcases (show j = 0 ∨ j = 1 ∨ j = 2 ∨ j = 3 ∨ j = 4 ∨ j = 5 ∨ j = 6 ∨ j = 7 ∨ j = 8 by omega) with rfl | rfl | rfl | rfl | rfl | rfl | rfl | rfl | rfl
    · exact va_eqt (hs (.eq (.elem (.static "ChargeStages" "SETTING_MOST" "[I") (.int 0)) (.int 5000)) (by decide +kernel))
    · exact va_eqt (hs (.eq (.elem (.static "ChargeStages" "SETTING_MOST" "[I") (.int 1)) (.int 200)) (by decide +kernel))
    · exact va_eqt (hs (.eq (.elem (.static "ChargeStages" "SETTING_MOST" "[I") (.int 2)) (.int 100)) (by decide +kernel))
    · exact va_eqt (hs (.eq (.elem (.static "ChargeStages" "SETTING_MOST" "[I") (.int 3)) (.int 80)) (by decide +kernel))
    · exact va_eqt (hs (.eq (.elem (.static "ChargeStages" "SETTING_MOST" "[I") (.int 4)) (.int 10)) (by decide +kernel))
    · exact va_eqt (hs (.eq (.elem (.static "ChargeStages" "SETTING_MOST" "[I") (.int 5)) (.int 80)) (by decide +kernel))
    · exact va_eqt (hs (.eq (.elem (.static "ChargeStages" "SETTING_MOST" "[I") (.int 6)) (.int 80)) (by decide +kernel))
    · exact va_eqt (hs (.eq (.elem (.static "ChargeStages" "SETTING_MOST" "[I") (.int 7)) (.int 500)) (by decide +kernel))
    · exact va_eqt (hs (.eq (.elem (.static "ChargeStages" "SETTING_MOST" "[I") (.int 8)) (.int 50)) (by decide +kernel))
  obtain ⟨t, h1, h2⟩ := va_Tof (args := #[Value.ref b]) (s := s) (tm := (.static "ChargeStages" "SETTING_MOST" "[I")) (ty := .int) (N := 9) (f := fun j => .int (cMost j)) (A := fun q : Nat => s.heap.size ≤ q) (by decide) (hs (.arrayOf (.static "ChargeStages" "SETTING_MOST" "[I") .int) (by decide +kernel)) (va_eqt (hs (.eq (.length (.static "ChargeStages" "SETTING_MOST" "[I")) (.int 9)) (by decide +kernel))) hel hA
  exact ⟨t, va_Zof hl hi h1 hA, h2⟩
theorem g_tab_SETTING_FIRST {b : Nat} {s : State} (hgv : (Jvm.Cond.and given_1 narrow_1).before #[Value.ref b] s = true) (hl : (Cond.laysStatic RX6 "SETTING_FIRST" "[I").before #[Value.ref b] s = true) (hi : (Cond.initialized RX6).before #[Value.ref b] s = true) : ∃ t : Nat, va_Z RX6 "SETTING_FIRST" "[I" (.ref t) (fun q : Nat => s.heap.size ≤ q) s s.heap ∧ va_T .int t 9 (fun j => .int (cFirst j)) (fun q : Nat => s.heap.size ≤ q) s s.heap := by
  have hs := flat_of_before _ hgv
  have hA : ∀ a : Nat, a < s.heap.size → ¬ (fun q : Nat => s.heap.size ≤ q) a := fun a h => Nat.not_le.mpr h
  have hel : ∀ j : Nat, j < 9 → (Term.elem (.static "ChargeStages" "SETTING_FIRST" "[I") (.int (Int32.ofNat j))).eval #[Value.ref b] s none [] s = some (.int (cFirst j)) := by
    intro j hj
    rcases (show j = 0 ∨ j = 1 ∨ j = 2 ∨ j = 3 ∨ j = 4 ∨ j = 5 ∨ j = 6 ∨ j = 7 ∨ j = 8 by omega) with rfl | rfl | rfl | rfl | rfl | rfl | rfl | rfl | rfl
    · exact va_eqt (hs (.eq (.elem (.static "ChargeStages" "SETTING_FIRST" "[I") (.int 0)) (.int 1000)) (by decide +kernel))
    · exact va_eqt (hs (.eq (.elem (.static "ChargeStages" "SETTING_FIRST" "[I") (.int 1)) (.int 100)) (by decide +kernel))
    · exact va_eqt (hs (.eq (.elem (.static "ChargeStages" "SETTING_FIRST" "[I") (.int 2)) (.int 90)) (by decide +kernel))
    · exact va_eqt (hs (.eq (.elem (.static "ChargeStages" "SETTING_FIRST" "[I") (.int 3)) (.int 25)) (by decide +kernel))
    · exact va_eqt (hs (.eq (.elem (.static "ChargeStages" "SETTING_FIRST" "[I") (.int 4)) (.int 3)) (by decide +kernel))
    · exact va_eqt (hs (.eq (.elem (.static "ChargeStages" "SETTING_FIRST" "[I") (.int 5)) (.int 0)) (by decide +kernel))
    · exact va_eqt (hs (.eq (.elem (.static "ChargeStages" "SETTING_FIRST" "[I") (.int 6)) (.int 45)) (by decide +kernel))
    · exact va_eqt (hs (.eq (.elem (.static "ChargeStages" "SETTING_FIRST" "[I") (.int 7)) (.int 20)) (by decide +kernel))
    · exact va_eqt (hs (.eq (.elem (.static "ChargeStages" "SETTING_FIRST" "[I") (.int 8)) (.int 0)) (by decide +kernel))
  obtain ⟨t, h1, h2⟩ := va_Tof (args := #[Value.ref b]) (s := s) (tm := (.static "ChargeStages" "SETTING_FIRST" "[I")) (ty := .int) (N := 9) (f := fun j => .int (cFirst j)) (A := fun q : Nat => s.heap.size ≤ q) (by decide) (hs (.arrayOf (.static "ChargeStages" "SETTING_FIRST" "[I") .int) (by decide +kernel)) (va_eqt (hs (.eq (.length (.static "ChargeStages" "SETTING_FIRST" "[I")) (.int 9)) (by decide +kernel))) hel hA
  exact ⟨t, va_Zof hl hi h1 hA, h2⟩
set_option maxHeartbeats 8000000 in
set_option maxRecDepth 100000 in
theorem whole_start {p : Program} {e : Env} {s : State} {m : MethodId} {below : List Frame} {meth : Method} {c : Code} (l : Launch) (hflags : l.flags = flags0) {b L : Nat} {xs : Nat → Int32} (hL : L ≤ 260) (C0 : lw_At p s m meth c b L xs) : W p l e room_1 s m #[Value.ref b] below meth c s.heap [] 0 0 (lw_Z below #[Value.ref b] s) (entryFrame m ([Value.ref b] : List Value).toArray 9) := by
  obtain ⟨hx, hb, hr, hml, hown, hts, hX, hbl, hlocks, hgv⟩ := id C0
  have hown : s.vm.findClass RL = some m.cls := hown
  have hA : ∀ q : Nat, s.heap.size ≤ q → (fun q : Nat => s.heap.size ≤ q) q := fun _ h => h
  obtain ⟨c0, i0, hk0⟩ := u_known (C := RX0) (T := TX0) (N := 8) (n := 8) hts wl_X00 (hts (.instantiable RX0 8) (List.mem_of_getElem? (i := 42) (by decide +kernel)))
  obtain ⟨c1, i1, hk1⟩ := u_known (C := RX1) (T := TX1) (N := 2) (n := 2) hts wl_X10 (hts (.instantiable RX1 2) (List.mem_of_getElem? (i := 191) (by decide +kernel)))
  obtain ⟨c2, i2, hk2⟩ := u_known (C := RX2) (T := TX2) (N := 5) (n := 5) hts wl_X20 (hts (.instantiable RX2 5) (List.mem_of_getElem? (i := 117) (by decide +kernel)))
  obtain ⟨c3, i3, hk3⟩ := u_known (C := RX3) (T := TX3) (N := 5) (n := 5) hts wl_X30 (hts (.instantiable RX3 5) (List.mem_of_getElem? (i := 82) (by decide +kernel)))
  obtain ⟨c4, i4, hk4⟩ := u_known (C := RX4) (T := TX4) (N := 12) (n := 12) hts wl_X40 (hts (.instantiable RX4 12) (List.mem_of_getElem? (i := 36) (by decide +kernel)))
  obtain ⟨c5, i5, hk5⟩ := u_known (C := RX5) (T := TX5) (N := 3) (n := 3) hts wl_X50 (hts (.instantiable RX5 3) (List.mem_of_getElem? (i := 208) (by decide +kernel)))
  obtain ⟨c6, i6, hk6⟩ := u_known (C := RX6) (T := TX6) (N := 7) (n := 7) hts wl_X60 (hts (.instantiable RX6 7) (List.mem_of_getElem? (i := 28) (by decide +kernel)))
  obtain ⟨dC, dI, hKc⟩ : ∃ (dC : Nat → ClassId) (dI : Nat → Nat → Nat), ∀ (k : Nat) (q : vw_C), vwCl[k]? = some q → u_Kn s q.1 q.2.1 q.2.2 (dC k) (dI k) := by
    refine ⟨fun k => if k = 0 then c0 else if k = 1 then c1 else if k = 2 then c2 else if k = 3 then c3 else if k = 4 then c4 else if k = 5 then c5 else c6, fun k => if k = 0 then i0 else if k = 1 then i1 else if k = 2 then i2 else if k = 3 then i3 else if k = 4 then i4 else if k = 5 then i5 else i6, ?_⟩
    intro k q hq
    match k, hq with
    | 0, hq => cases hq; exact hk0
    | 1, hq => cases hq; exact hk1
    | 2, hq => cases hq; exact hk2
    | 3, hq => cases hq; exact hk3
    | 4, hq => cases hq; exact hk4
    | 5, hq => cases hq; exact hk5
    | 6, hq => cases hq; exact hk6
    | k + 7, hq => simp [vwCl] at hq
  obtain ⟨cI, g1, g2⟩ := g_prim (hts (.arrayClass .int) (List.mem_of_getElem? (i := 80) (by decide +kernel)))
  obtain ⟨cC, g3, g4⟩ := g_prim (hts (.arrayClass .char) (List.mem_of_getElem? (i := 225) (by decide +kernel)))
  obtain ⟨cS, g5, g6⟩ := g_over (C := RX4) (hts (.arrayOver (.object RX4)) (List.mem_of_getElem? (i := 197) (by decide +kernel)))
  obtain ⟨cL, g7, g8⟩ := g_prim (hts (.arrayClass .long) (List.mem_of_getElem? (i := 648) (by decide +kernel)))
  obtain ⟨G, hG⟩ : ∃ G : gG, G = ((dC, dI), cI, cC, cS, cL) := ⟨_, rfl⟩
  have hNW : ∀ w ∈ gNW, w ∈ lw_tbl := g_mem_pl [232, 209, 227, 37, 486, 198, 387, 43, 83, 118, 428, 457] (by decide +kernel)
  have hK : gK G s := by
    subst hG
    refine ⟨⟨hKc, fun k q hq => ?_⟩, fun w hw => va_Nw.of (gNW_on w hw) (hts w (hNW w hw))⟩
    match k, hq with
    | 0, hq => cases hq; exact ⟨g1, g2⟩
    | 1, hq => cases hq; exact ⟨g3, g4⟩
    | 2, hq => cases hq; exact ⟨g5, g6⟩
    | 3, hq => cases hq; exact ⟨g7, g8⟩
    | k + 4, hq => simp [gTys] at hq
  have hAO : va_AO RX4 s := va_AO.of (hts (.arrayOver (.object RX4)) (List.mem_of_getElem? (i := 197) (by decide +kernel)))
  obtain ⟨z0, y0, w0⟩ := g_tab_SETTING_LEAST hgv (hts (.laysStatic RX6 "SETTING_LEAST" "[I") (List.mem_of_getElem? (i := 328) (by decide +kernel))) (hts (.initialized RX6) (List.mem_of_getElem? (i := 18) (by decide +kernel)))
  obtain ⟨z1, y1, w1⟩ := g_tab_SETTING_MOST hgv (hts (.laysStatic RX6 "SETTING_MOST" "[I") (List.mem_of_getElem? (i := 330) (by decide +kernel))) (hts (.initialized RX6) (List.mem_of_getElem? (i := 18) (by decide +kernel)))
  obtain ⟨z2, y2, w2⟩ := g_tab_SETTING_FIRST hgv (hts (.laysStatic RX6 "SETTING_FIRST" "[I") (List.mem_of_getElem? (i := 233) (by decide +kernel))) (hts (.initialized RX6) (List.mem_of_getElem? (i := 18) (by decide +kernel)))
  obtain ⟨z, ez⟩ : ∃ z : Nat × Nat × Nat, z = (z0, z1, z2) := ⟨_, rfl⟩
  have hZ : gZ z (fun q : Nat => s.heap.size ≤ q) s := by
    subst ez
    exact ⟨y0, y1, y2, w0, w1, w2⟩
  have hS : va_S (fun q : Nat => s.heap.size ≤ q) s.heap s.heap [] := va_S.rf
  have hP : va_P G.1 vwCl (List.flatten []) s.heap := fun k q h => by simp at h
  have hD : va_D (fun q : Nat => s.heap.size ≤ q) (List.flatten []) := ⟨fun i j p q h => by simp at h, fun k q h => by simp at h⟩
  have hl := lv_entry ([.ref b]) (n := 9) (Nat.le_of_ble_eq_true rfl)
  rw [lg_entry_eq]
  generalize (lg_sl ([.ref b]) ++ List.replicate (9 - (lg_sl ([.ref b])).length) Slot.unset).toArray = ls at hl ⊢
  have hl : lv_has ls 9 [(0, .ref b)] := hl
  refine g_callC (As := []) (c_L_texts l G z) hx hb hml hown hts hK hAO hZ hP hD hS hA (g_law gL_law_L_texts) rfl (n := 0) (by decide +kernel) rfl ⟨Nat.le_of_ble_eq_true rfl, Nat.le_of_ble_eq_true rfl⟩ hl.1 rfl (Nat.le_of_ble_eq_true rfl) ⟨Nat.le_of_ble_eq_true rfl, Nat.le_of_ble_eq_true rfl⟩ dL_law_0 (fun H locs hP hS => ?_)
  refine lv_if_eq (tgt := 18) hx hb dL_law_3 (by decide) (fun c => absurd c (by decide)) (fun _ => ?_)
  refine g_callC (As := []) (c_L_stages l G z) hx hb hml hown hts hK hAO hZ hP hD hS hA (g_law gL_law_L_stages) rfl (n := 0) (by decide +kernel) rfl ⟨Nat.le_of_ble_eq_true rfl, Nat.le_of_ble_eq_true rfl⟩ hl.1 rfl (Nat.le_of_ble_eq_true rfl) ⟨Nat.le_of_ble_eq_true rfl, Nat.le_of_ble_eq_true rfl⟩ dL_law_6 (fun H locs hP hS => ?_)
  refine lv_if_eq (tgt := 18) hx hb dL_law_9 (by decide) (fun c => absurd c (by decide)) (fun _ => ?_)
  refine g_callC (As := []) (c_L_bled l G z) hx hb hml hown hts hK hAO hZ hP hD hS hA (g_law gL_law_L_bled) rfl (n := 0) (by decide +kernel) rfl ⟨Nat.le_of_ble_eq_true rfl, Nat.le_of_ble_eq_true rfl⟩ hl.1 rfl (Nat.le_of_ble_eq_true rfl) ⟨Nat.le_of_ble_eq_true rfl, Nat.le_of_ble_eq_true rfl⟩ dL_law_12 (fun H locs hP hS => ?_)
  refine lv_if_ne (tgt := 20) hx hb dL_law_15 (by decide) (fun _ => ?_) (fun c => absurd c (by decide))
  refine g_new (ci := 6) (fs := [.null, .null, .null, .int 0, .null, .null, .null]) (C := RX6) (T := TX6) (N := 7) hx hb hts wl_X60 tyX6 tyX6_ok hown (hts (.classLink RL 14 RX6) (List.mem_of_getElem? (i := 27) (by decide +kernel))) (hts (.instantiable RX6 7) (List.mem_of_getElem? (i := 28) (by decide +kernel))) (hts (.initialized RX6) (List.mem_of_getElem? (i := 18) (by decide +kernel))) hK hP hD hS hA rfl (by decide +kernel) (Nat.le_of_ble_eq_true rfl) (Nat.le_of_ble_eq_true rfl) dL_law_20 (fun q1 H hP hD hS => ?_)
  refine lv_dup hx hb dL_law_23 rfl ?_
  refine g_callI (c_X6_init l G z q1) hx hb hml hown hts hK [] hP hD hS hA (fun U hU hW => ⟨hAO.moved hW.alike, hZ.to hS (g_freeI (B0 := []) hD hS hA) hU hW⟩) (fun U g mk a h => ⟨va_AO.moved (u := U) (U := U.calling g mk a) (Vm.Alike.refl U.vm) h.1, h.2.calling g mk a⟩) (g_law gL_law_X6_init) rfl (List.mem_of_getElem? (i := 18) (by decide +kernel)) (List.mem_of_getElem? (i := 29) (by decide +kernel)) (List.mem_of_getElem? (i := 30) (by decide +kernel)) rfl (by decide +kernel) ⟨Nat.le_of_ble_eq_true rfl, Nat.le_of_ble_eq_true rfl⟩ hl.1 (Nat.le_of_ble_eq_true rfl) ⟨Nat.le_of_ble_eq_true rfl, Nat.le_of_ble_eq_true rfl⟩ dL_law_24 (fun x H2 locs2 ex hP2 hD2 hS2 => ?_)
  clear hP hD hS
  subst ex
  have hS := hS2
  refine lv_astore_n (lv' := [(1, .ref (x 0)), (0, .ref b)]) hx hb dL_law_27 rfl hl (by decide) rfl (fun ls hl => ?_)
  have hP : va_P G.1 vwCl (List.flatten ([] ++ [List.flatten [CW G x n1, (svB G (fun k => x (k + 1)) nC).flatten, (svB G (fun k => x (k + 20)) nS).flatten, (svB G (fun k => x (k + 39)) nS).flatten, HGW G (fun k => x (k + 58)) (0, 0, fun _ => nS), TW G (fun k => x (k + 136)) n2, PW G (fun k => x (k + 138)) n2]])) H2 := hP2
  have hD : va_D (fun q : Nat => s.heap.size ≤ q) (List.flatten ([] ++ [List.flatten [CW G x n1, (svB G (fun k => x (k + 1)) nC).flatten, (svB G (fun k => x (k + 20)) nS).flatten, (svB G (fun k => x (k + 39)) nS).flatten, HGW G (fun k => x (k + 58)) (0, 0, fun _ => nS), TW G (fun k => x (k + 136)) n2, PW G (fun k => x (k + 138)) n2]])) := hD2
  rw [g_reg1] at hP hD
  refine lv_bipush (v := 64) hx hb dL_law_28 (by decide) ?_
  refine g_newl (N := 64) hx hb (hts (.arrayClass .long) (List.mem_of_getElem? (i := 648) (by decide +kernel))) hK hP hD hS hA (by decide) (by decide) (Nat.le_of_ble_eq_true rfl) (Nat.le_of_ble_eq_true rfl) (Nat.le_of_ble_eq_true rfl) dL_law_30 (fun wq H hP hD hS => ?_)
  have hP : va_P G.1 vwCl (List.flatten [CW G x n1, OW G (fun k => x (k + 1)) n1, AW G (x 2) 9 cFirst, BW G (fun k => x (k + 3)) nB, PW G (fun k => x (k + 11)) n2, LW G (fun k => x (k + 16)) n2, OW G (fun k => x (k + 20)) n1, AW G (x 21) 9 n1, BW G (fun k => x (k + 22)) nB, PW G (fun k => x (k + 30)) n2, LW G (fun k => x (k + 35)) n2, OW G (fun k => x (k + 39)) n1, AW G (x 40) 9 n1, BW G (fun k => x (k + 41)) nB, PW G (fun k => x (k + 49)) n2, LW G (fun k => x (k + 54)) n2, HGW G (fun k => x (k + 58)) (0, 0, fun _ => nS), TW G (fun k => x (k + 136)) n2, PW G (fun k => x (k + 138)) n2, JW G wq 64 (fun _ => 0)]) H := hP
  have hD : va_D (fun q : Nat => s.heap.size ≤ q) (List.flatten [CW G x n1, OW G (fun k => x (k + 1)) n1, AW G (x 2) 9 cFirst, BW G (fun k => x (k + 3)) nB, PW G (fun k => x (k + 11)) n2, LW G (fun k => x (k + 16)) n2, OW G (fun k => x (k + 20)) n1, AW G (x 21) 9 n1, BW G (fun k => x (k + 22)) nB, PW G (fun k => x (k + 30)) n2, LW G (fun k => x (k + 35)) n2, OW G (fun k => x (k + 39)) n1, AW G (x 40) 9 n1, BW G (fun k => x (k + 41)) nB, PW G (fun k => x (k + 49)) n2, LW G (fun k => x (k + 54)) n2, HGW G (fun k => x (k + 58)) (0, 0, fun _ => nS), TW G (fun k => x (k + 136)) n2, PW G (fun k => x (k + 138)) n2, JW G wq 64 (fun _ => 0)]) := hD
  refine lv_astore_n (lv' := [(2, .ref wq), (1, .ref (x 0)), (0, .ref b)]) hx hb dL_law_32 rfl hl (by decide) rfl (fun ls hl => ?_)
  refine W.widen (k := 634428) (n := 7198963) (Nat.le_of_ble_eq_true rfl) (Nat.le_of_ble_eq_true rfl) ?_
  exact law_begin C0 hK hZ (law_loop C0 hK hZ hL 37 0 (Nat.zero_le 36) (by omega)) n1 n1 cFirst nB n2 n2 n1 n1 nB n2 n2 n1 n1 nB n2 n2 (0, 0, fun _ => nS) n2 n2 (fun _ => 0) iv_init (Or.inl rfl) (by decide) rfl rfl hP hD hS (lv_sub hl [2, 1, 0] rfl)
