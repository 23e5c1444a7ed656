theorem g_freeI {A : Nat → Prop} {B0 : List va_W} {h : Nat} {e0 : va_E} {H0 H : Heap} {locs : List Loc} (hD : va_D A (B0 ++ [[(h, e0)]]).flatten) (hS : va_S A H0 H locs) (hA : ∀ q : Nat, H0.size ≤ q → A q) : ∀ q : Nat, va_A [(h, e0)] H.size q → A q := by
  intro q hq
  rw [g_A_mem] at hq
  rcases hq with hq | hq
  · simp only [List.map_cons, List.map_nil, List.mem_cons, List.not_mem_nil, or_false] at hq
    rw [hq]
    rw [g_snoc] at hD
    exact (g_nodup.mp hD).2 _ (List.mem_append_right _ List.mem_cons_self)
  · exact hA q (Nat.le_trans hS.1 hq)
theorem g_reg (c : va_W) (S1 S2 S3 Y M : List va_W) : (List.flatten [List.flatten (c :: S1.flatten :: S2.flatten :: S3.flatten :: Y), List.flatten M]) = (c :: (S1 ++ (S2 ++ (S3 ++ (Y ++ M))))).flatten := by simp
theorem g_prim {args : Array Value} {s : State} {ty : FieldType} (h : (Cond.arrayClass ty).before args s = true) : ∃ c, ArrOfT s c ty ∧ s.vm.findClass ("[" ++ ty.toString) = some c := by
  obtain ⟨c, k, comp, h1, h2, h3⟩ := Cond.arrayClass_spec h
  exact ⟨c, fun n z => ⟨(fun _ h => by cases h), k, h2, comp, h3⟩, h1⟩
theorem g_over {args : Array Value} {s : State} {C : String} (h : (Cond.arrayOver (.object C)).before args s = true) : ∃ c, ArrOfT s c (.object C) ∧ va_RA s c (.object C) := by
  obtain ⟨comp, c, k, h1, h2, h3, h4, h5⟩ := Cond.arrayOver_spec h
  exact ⟨c, fun n z => ⟨(fun _ h => by cases h), k, h3, comp, h4⟩, k, comp, h3, h4, h1, h5⟩
theorem g_tab_SETTING_LEAST {b : Nat} {s : State} (hgv : (Jvm.Cond.and given_1 narrow_1).before #[Value.ref b] s = true) (hl : (Cond.laysStatic RX6 "SETTING_LEAST" "[I").before #[Value.ref b] s = true) (hi : (Cond.initialized RX6).before #[Value.ref b] s = true) : ∃ t : Nat, va_Z RX6 "SETTING_LEAST" "[I" (.ref t) (fun q : Nat => s.heap.size ≤ q) s s.heap ∧ va_T .int t 9 (fun j => .int (cLeast j)) (fun q : Nat => s.heap.size ≤ q) s s.heap := by
  have hs := flat_of_before _ hgv
  have hA : ∀ a : Nat, a < s.heap.size → ¬ (fun q : Nat => s.heap.size ≤ q) a := fun a h => Nat.not_le.mpr h
  have hel : ∀ j : Nat, j < 9 → (Term.elem (.static "ChargeStages" "SETTING_LEAST" "[I") (.int (Int32.ofNat j))).eval #[Value.ref b] s none [] s = some (.int (cLeast j)) := by
    intro j hj
    rcases (show j = 0 ∨ j = 1 ∨ j = 2 ∨ j = 3 ∨ j = 4 ∨ j = 5 ∨ j = 6 ∨ j = 7 ∨ j = 8 by omega) with rfl | rfl | rfl | rfl | rfl | rfl | rfl | rfl | rfl
    · exact va_eqt (hs (.eq (.elem (.static "ChargeStages" "SETTING_LEAST" "[I") (.int 0)) (.int 100)) (by decide +kernel))
    · exact va_eqt (hs (.eq (.elem (.static "ChargeStages" "SETTING_LEAST" "[I") (.int 1)) (.int 0)) (by decide +kernel))
    · exact va_eqt (hs (.eq (.elem (.static "ChargeStages" "SETTING_LEAST" "[I") (.int 2)) (.int 50)) (by decide +kernel))
    · exact va_eqt (hs (.eq (.elem (.static "ChargeStages" "SETTING_LEAST" "[I") (.int 3)) (.int (-30))) (by decide +kernel))
    · exact va_eqt (hs (.eq (.elem (.static "ChargeStages" "SETTING_LEAST" "[I") (.int 4)) (.int 0)) (by decide +kernel))
    · exact va_eqt (hs (.eq (.elem (.static "ChargeStages" "SETTING_LEAST" "[I") (.int 5)) (.int (-30))) (by decide +kernel))
    · exact va_eqt (hs (.eq (.elem (.static "ChargeStages" "SETTING_LEAST" "[I") (.int 6)) (.int (-30))) (by decide +kernel))
    · exact va_eqt (hs (.eq (.elem (.static "ChargeStages" "SETTING_LEAST" "[I") (.int 7)) (.int 0)) (by decide +kernel))
    · exact va_eqt (hs (.eq (.elem (.static "ChargeStages" "SETTING_LEAST" "[I") (.int 8)) (.int 0)) (by decide +kernel))
  obtain ⟨t, h1, h2⟩ := va_Tof (args := #[Value.ref b]) (s := s) (tm := (.static "ChargeStages" "SETTING_LEAST" "[I")) (ty := .int) (N := 9) (f := fun j => .int (cLeast j)) (A := fun q : Nat => s.heap.size ≤ q) (by decide) (hs (.arrayOf (.static "ChargeStages" "SETTING_LEAST" "[I") .int) (by decide +kernel)) (va_eqt (hs (.eq (.length (.static "ChargeStages" "SETTING_LEAST" "[I")) (.int 9)) (by decide +kernel))) hel hA
  exact ⟨t, va_Zof hl hi h1 hA, h2⟩
theorem g_tab_SETTING_MOST {b : Nat} {s : State} (hgv : (Jvm.Cond.and given_1 narrow_1).before #[Value.ref b] s = true) (hl : (Cond.laysStatic RX6 "SETTING_MOST" "[I").before #[Value.ref b] s = true) (hi : (Cond.initialized RX6).before #[Value.ref b] s = true) : ∃ t : Nat, va_Z RX6 "SETTING_MOST" "[I" (.ref t) (fun q : Nat => s.heap.size ≤ q) s s.heap ∧ va_T .int t 9 (fun j => .int (cMost j)) (fun q : Nat => s.heap.size ≤ q) s s.heap := by
  have hs := flat_of_before _ hgv
  have hA : ∀ a : Nat, a < s.heap.size → ¬ (fun q : Nat => s.heap.size ≤ q) a := fun a h => Nat.not_le.mpr h
  have hel : ∀ j : Nat, j < 9 → (Term.elem (.static "ChargeStages" "SETTING_MOST" "[I") (.int (Int32.ofNat j))).eval #[Value.ref b] s none [] s = some (.int (cMost j)) := by
    intro j hj
    rcases (show j = 0 ∨ j = 1 ∨ j = 2 ∨ j = 3 ∨ j = 4 ∨ j = 5 ∨ j = 6 ∨ j = 7 ∨ j = 8 by omega) with rfl | rfl | rfl | rfl | rfl | rfl | rfl | rfl | rfl
    · exact va_eqt (hs (.eq (.elem (.static "ChargeStages" "SETTING_MOST" "[I") (.int 0)) (.int 5000)) (by decide +kernel))
    · exact va_eqt (hs (.eq (.elem (.static "ChargeStages" "SETTING_MOST" "[I") (.int 1)) (.int 200)) (by decide +kernel))
    · exact va_eqt (hs (.eq (.elem (.static "ChargeStages" "SETTING_MOST" "[I") (.int 2)) (.int 100)) (by decide +kernel))
    · exact va_eqt (hs (.eq (.elem (.static "ChargeStages" "SETTING_MOST" "[I") (.int 3)) (.int 80)) (by decide +kernel))
    · exact va_eqt (hs (.eq (.elem (.static "ChargeStages" "SETTING_MOST" "[I") (.int 4)) (.int 10)) (by decide +kernel))
    · exact va_eqt (hs (.eq (.elem (.static "ChargeStages" "SETTING_MOST" "[I") (.int 5)) (.int 80)) (by decide +kernel))
    · exact va_eqt (hs (.eq (.elem (.static "ChargeStages" "SETTING_MOST" "[I") (.int 6)) (.int 80)) (by decide +kernel))
    · exact va_eqt (hs (.eq (.elem (.static "ChargeStages" "SETTING_MOST" "[I") (.int 7)) (.int 500)) (by decide +kernel))
    · exact va_eqt (hs (.eq (.elem (.static "ChargeStages" "SETTING_MOST" "[I") (.int 8)) (.int 50)) (by decide +kernel))
  obtain ⟨t, h1, h2⟩ := va_Tof (args := #[Value.ref b]) (s := s) (tm := (.static "ChargeStages" "SETTING_MOST" "[I")) (ty := .int) (N := 9) (f := fun j => .int (cMost j)) (A := fun q : Nat => s.heap.size ≤ q) (by decide) (hs (.arrayOf (.static "ChargeStages" "SETTING_MOST" "[I") .int) (by decide +kernel)) (va_eqt (hs (.eq (.length (.static "ChargeStages" "SETTING_MOST" "[I")) (.int 9)) (by decide +kernel))) hel hA
  exact ⟨t, va_Zof hl hi h1 hA, h2⟩
theorem g_tab_SETTING_FIRST {b : Nat} {s : State} (hgv : (Jvm.Cond.and given_1 narrow_1).before #[Value.ref b] s = true) (hl : (Cond.laysStatic RX6 "SETTING_FIRST" "[I").before #[Value.ref b] s = true) (hi : (Cond.initialized RX6).before #[Value.ref b] s = true) : ∃ t : Nat, va_Z RX6 "SETTING_FIRST" "[I" (.ref t) (fun q : Nat => s.heap.size ≤ q) s s.heap ∧ va_T .int t 9 (fun j => .int (cFirst j)) (fun q : Nat => s.heap.size ≤ q) s s.heap := by
  have hs := flat_of_before _ hgv
  have hA : ∀ a : Nat, a < s.heap.size → ¬ (fun q : Nat => s.heap.size ≤ q) a := fun a h => Nat.not_le.mpr h
  have hel : ∀ j : Nat, j < 9 → (Term.elem (.static "ChargeStages" "SETTING_FIRST" "[I") (.int (Int32.ofNat j))).eval #[Value.ref b] s none [] s = some (.int (cFirst j)) := by
    intro j hj
    rcases (show j = 0 ∨ j = 1 ∨ j = 2 ∨ j = 3 ∨ j = 4 ∨ j = 5 ∨ j = 6 ∨ j = 7 ∨ j = 8 by omega) with rfl | rfl | rfl | rfl | rfl | rfl | rfl | rfl | rfl
    · exact va_eqt (hs (.eq (.elem (.static "ChargeStages" "SETTING_FIRST" "[I") (.int 0)) (.int 1000)) (by decide +kernel))
    · exact va_eqt (hs (.eq (.elem (.static "ChargeStages" "SETTING_FIRST" "[I") (.int 1)) (.int 100)) (by decide +kernel))
    · exact va_eqt (hs (.eq (.elem (.static "ChargeStages" "SETTING_FIRST" "[I") (.int 2)) (.int 90)) (by decide +kernel))
    · exact va_eqt (hs (.eq (.elem (.static "ChargeStages" "SETTING_FIRST" "[I") (.int 3)) (.int 25)) (by decide +kernel))
    · exact va_eqt (hs (.eq (.elem (.static "ChargeStages" "SETTING_FIRST" "[I") (.int 4)) (.int 3)) (by decide +kernel))
    · exact va_eqt (hs (.eq (.elem (.static "ChargeStages" "SETTING_FIRST" "[I") (.int 5)) (.int 0)) (by decide +kernel))
    · exact va_eqt (hs (.eq (.elem (.static "ChargeStages" "SETTING_FIRST" "[I") (.int 6)) (.int 45)) (by decide +kernel))
    · exact va_eqt (hs (.eq (.elem (.static "ChargeStages" "SETTING_FIRST" "[I") (.int 7)) (.int 20)) (by decide +kernel))
    · exact va_eqt (hs (.eq (.elem (.static "ChargeStages" "SETTING_FIRST" "[I") (.int 8)) (.int 0)) (by decide +kernel))
  obtain ⟨t, h1, h2⟩ := va_Tof (args := #[Value.ref b]) (s := s) (tm := (.static "ChargeStages" "SETTING_FIRST" "[I")) (ty := .int) (N := 9) (f := fun j => .int (cFirst j)) (A := fun q : Nat => s.heap.size ≤ q) (by decide) (hs (.arrayOf (.static "ChargeStages" "SETTING_FIRST" "[I") .int) (by decide +kernel)) (va_eqt (hs (.eq (.length (.static "ChargeStages" "SETTING_FIRST" "[I")) (.int 9)) (by decide +kernel))) hel hA
  exact ⟨t, va_Zof hl hi h1 hA, h2⟩
set_option maxHeartbeats 4000000 in
set_option maxRecDepth 100000 in
theorem whole_start {p : Program} {e : Env} {s : State} {m : MethodId} {below : List Frame} {meth : Method} {c : Code} (l : Launch) (hflags : l.flags = flags0) {b L : Nat} {xs : Nat → Int32} (hL : L ≤ 1536) (C0 : lw_At p s m meth c b L xs) : W p l e room_1 s m #[Value.ref b] below meth c s.heap [] 0 0 (lw_Z below #[Value.ref b] s) (entryFrame m ([Value.ref b] : List Value).toArray 4) := by
  have C1 := C0
  obtain ⟨hx, hb, hr, hml, hown, hts, hX, hbl, hlocks, hgv⟩ := C1
  have hown : s.vm.findClass RL = some m.cls := hown
  have hA : ∀ q : Nat, s.heap.size ≤ q → (fun q : Nat => s.heap.size ≤ q) q := fun _ h => h
  obtain ⟨c0, i0, hk0⟩ := u_known (C := RX0) (T := TX0) (N := 8) (n := 8) hts wl_X00 (hts (.instantiable RX0 8) (List.mem_of_getElem? (i := 53) (by decide +kernel)))
  obtain ⟨c1, i1, hk1⟩ := u_known (C := RX1) (T := TX1) (N := 2) (n := 2) hts wl_X10 (hts (.instantiable RX1 2) (List.mem_of_getElem? (i := 202) (by decide +kernel)))
  obtain ⟨c2, i2, hk2⟩ := u_known (C := RX2) (T := TX2) (N := 5) (n := 5) hts wl_X20 (hts (.instantiable RX2 5) (List.mem_of_getElem? (i := 128) (by decide +kernel)))
  obtain ⟨c3, i3, hk3⟩ := u_known (C := RX3) (T := TX3) (N := 5) (n := 5) hts wl_X30 (hts (.instantiable RX3 5) (List.mem_of_getElem? (i := 93) (by decide +kernel)))
  obtain ⟨c4, i4, hk4⟩ := u_known (C := RX4) (T := TX4) (N := 12) (n := 12) hts wl_X40 (hts (.instantiable RX4 12) (List.mem_of_getElem? (i := 47) (by decide +kernel)))
  obtain ⟨c5, i5, hk5⟩ := u_known (C := RX5) (T := TX5) (N := 3) (n := 3) hts wl_X50 (hts (.instantiable RX5 3) (List.mem_of_getElem? (i := 219) (by decide +kernel)))
  obtain ⟨c6, i6, hk6⟩ := u_known (C := RX6) (T := TX6) (N := 7) (n := 7) hts wl_X60 (hts (.instantiable RX6 7) (List.mem_of_getElem? (i := 39) (by decide +kernel)))
  obtain ⟨c7, i7, hk7⟩ := u_known (C := RX7) (T := TX7) (N := 12) (n := 12) hts wl_X70 (hts (.instantiable RX7 12) (List.mem_of_getElem? (i := 587) (by decide +kernel)))
  obtain ⟨dC, dI, hKc⟩ : ∃ (dC : Nat → ClassId) (dI : Nat → Nat → Nat), ∀ (k : Nat) (q : vw_C), vwCl[k]? = some q → u_Kn s q.1 q.2.1 q.2.2 (dC k) (dI k) := by
    refine ⟨fun k => if k = 0 then c0 else if k = 1 then c1 else if k = 2 then c2 else if k = 3 then c3 else if k = 4 then c4 else if k = 5 then c5 else if k = 6 then c6 else c7, fun k => if k = 0 then i0 else if k = 1 then i1 else if k = 2 then i2 else if k = 3 then i3 else if k = 4 then i4 else if k = 5 then i5 else if k = 6 then i6 else i7, ?_⟩
    intro k q hq
    match k, hq with
    | 0, hq => cases hq; exact hk0
    | 1, hq => cases hq; exact hk1
    | 2, hq => cases hq; exact hk2
    | 3, hq => cases hq; exact hk3
    | 4, hq => cases hq; exact hk4
    | 5, hq => cases hq; exact hk5
    | 6, hq => cases hq; exact hk6
    | 7, hq => cases hq; exact hk7
    | k + 8, hq => simp [vwCl] at hq
  obtain ⟨cI, g1, g2⟩ := g_prim (hts (.arrayClass .int) (List.mem_of_getElem? (i := 91) (by decide +kernel)))
  obtain ⟨cC, g3, g4⟩ := g_prim (hts (.arrayClass .char) (List.mem_of_getElem? (i := 236) (by decide +kernel)))
  obtain ⟨cS, g5, g6⟩ := g_over (C := RX4) (hts (.arrayOver (.object RX4)) (List.mem_of_getElem? (i := 208) (by decide +kernel)))
  obtain ⟨G, hG⟩ : ∃ G : gG, G = ((dC, dI), cI, cC, cS) := ⟨_, rfl⟩
  have hNW : ∀ w ∈ gNW, w ∈ lw_tbl := g_mem_pl [243, 220, 238, 48, 497, 209, 398, 54, 94, 129, 439, 468] (by decide +kernel)
  have hK : gK G s := by
    subst hG
    refine ⟨⟨hKc, fun k q hq => ?_⟩, fun w hw => va_Nw.of (gNW_on w hw) (hts w (hNW w hw))⟩
    match k, hq with
    | 0, hq => cases hq; exact ⟨g1, g2⟩
    | 1, hq => cases hq; exact ⟨g3, g4⟩
    | 2, hq => cases hq; exact ⟨g5, g6⟩
    | k + 3, hq => simp [gTys] at hq
  have hAO : va_AO RX4 s := va_AO.of (hts (.arrayOver (.object RX4)) (List.mem_of_getElem? (i := 208) (by decide +kernel)))
  obtain ⟨z0, y0, w0⟩ := g_tab_SETTING_LEAST hgv (hts (.laysStatic RX6 "SETTING_LEAST" "[I") (List.mem_of_getElem? (i := 339) (by decide +kernel))) (hts (.initialized RX6) (List.mem_of_getElem? (i := 28) (by decide +kernel)))
  obtain ⟨z1, y1, w1⟩ := g_tab_SETTING_MOST hgv (hts (.laysStatic RX6 "SETTING_MOST" "[I") (List.mem_of_getElem? (i := 341) (by decide +kernel))) (hts (.initialized RX6) (List.mem_of_getElem? (i := 28) (by decide +kernel)))
  obtain ⟨z2, y2, w2⟩ := g_tab_SETTING_FIRST hgv (hts (.laysStatic RX6 "SETTING_FIRST" "[I") (List.mem_of_getElem? (i := 244) (by decide +kernel))) (hts (.initialized RX6) (List.mem_of_getElem? (i := 28) (by decide +kernel)))
  obtain ⟨z, ez⟩ : ∃ z : Nat × Nat × Nat, z = (z0, z1, z2) := ⟨_, rfl⟩
  have hZ : gZ z (fun q : Nat => s.heap.size ≤ q) s := by
    subst ez
    exact ⟨y0, y1, y2, w0, w1, w2⟩
  have hS : va_S (fun q : Nat => s.heap.size ≤ q) s.heap s.heap [] := va_S.rf
  have hP : va_P G.1 vwCl (List.flatten []) s.heap := fun k q h => by simp at h
  have hD : va_D (fun q : Nat => s.heap.size ≤ q) (List.flatten []) := ⟨fun i j p q h => by simp at h, fun k q h => by simp at h⟩
  have hl := lv_entry ([.ref b]) (n := 4) (Nat.le_of_ble_eq_true rfl)
  rw [lg_entry_eq]
  generalize (lg_sl ([.ref b]) ++ List.replicate (4 - (lg_sl ([.ref b])).length) Slot.unset).toArray = ls at hl ⊢
  have hl : lv_has ls 4 [(0, .ref b)] := hl
  refine g_new (ci := 6) (fs := [.null, .null, .null, .int 0, .null, .null, .null]) (C := RX6) (T := TX6) (N := 7) hx hb hts wl_X60 tyX6 tyX6_ok hown (hts (.classLink RL 7 RX6) (List.mem_of_getElem? (i := 38) (by decide +kernel))) (hts (.instantiable RX6 7) (List.mem_of_getElem? (i := 39) (by decide +kernel))) (hts (.initialized RX6) (List.mem_of_getElem? (i := 28) (by decide +kernel))) hK hP hD hS hA rfl (by decide +kernel) (Nat.le_of_ble_eq_true rfl) (Nat.le_of_ble_eq_true rfl) dL_law_0 (fun q1 H hP hD hS => ?_)
  have hP : va_P G.1 vwCl (List.flatten ([] ++ [[bwO q1 6 [.null, .null, .null, .int 0, .null, .null, .null]]])) H := hP
  have hD : va_D (fun q : Nat => s.heap.size ≤ q) (List.flatten ([] ++ [[bwO q1 6 [.null, .null, .null, .int 0, .null, .null, .null]]])) := hD
  refine lv_dup hx hb dL_law_3 rfl ?_
  refine g_callI (c_X6_init l G z q1) hx hb hml hown hts hK [] hP hD hS hA (fun U hU hW => ⟨hAO.moved hW.alike, hZ.to hS (g_freeI (B0 := []) hD hS hA) hU hW⟩) (fun U g mk a h => ⟨va_AO.moved (u := U) (U := U.calling g mk a) (Vm.Alike.refl U.vm) h.1, h.2.calling g mk a⟩) (g_law gL_law_X6_init) rfl (List.mem_of_getElem? (i := 28) (by decide +kernel)) (List.mem_of_getElem? (i := 40) (by decide +kernel)) (List.mem_of_getElem? (i := 41) (by decide +kernel)) rfl (by decide +kernel) ⟨Nat.le_of_ble_eq_true rfl, Nat.le_of_ble_eq_true rfl⟩ hl.1 (Nat.le_of_ble_eq_true rfl) ⟨Nat.le_of_ble_eq_true rfl, Nat.le_of_ble_eq_true rfl⟩ dL_law_4 (fun x H2 locs2 ex hP2 hD2 hS2 => ?_)
  clear hP hD hS
  subst ex
  have hS := hS2
  have hP : va_P G.1 vwCl (List.flatten ([] ++ [List.flatten [CW G x n1, (svB G (fun k => x (k + 1)) nC).flatten, (svB G (fun k => x (k + 20)) nS).flatten, (svB G (fun k => x (k + 39)) nS).flatten, HGW G (fun k => x (k + 58)) (0, 0, fun _ => nS), TW G (fun k => x (k + 136)) n2, PW G (fun k => x (k + 138)) n2]])) H2 := hP2
  have hD : va_D (fun q : Nat => s.heap.size ≤ q) (List.flatten ([] ++ [List.flatten [CW G x n1, (svB G (fun k => x (k + 1)) nC).flatten, (svB G (fun k => x (k + 20)) nS).flatten, (svB G (fun k => x (k + 39)) nS).flatten, HGW G (fun k => x (k + 58)) (0, 0, fun _ => nS), TW G (fun k => x (k + 136)) n2, PW G (fun k => x (k + 138)) n2]])) := hD2
  refine lv_astore_n (lv' := [(1, .ref (x 0)), (0, .ref b)]) hx hb dL_law_7 rfl hl (by decide) rfl (fun ls hl => ?_)
  have hP : va_P G.1 vwCl (List.flatten [List.flatten [CW G x n1, (svB G (fun k => x (k + 1)) nC).flatten, (svB G (fun k => x (k + 20)) nS).flatten, (svB G (fun k => x (k + 39)) nS).flatten, HGW G (fun k => x (k + 58)) (0, 0, fun _ => nS), TW G (fun k => x (k + 136)) n2, PW G (fun k => x (k + 138)) n2]]) H2 := hP
  have hD : va_D (fun q : Nat => s.heap.size ≤ q) (List.flatten [List.flatten [CW G x n1, (svB G (fun k => x (k + 1)) nC).flatten, (svB G (fun k => x (k + 20)) nS).flatten, (svB G (fun k => x (k + 39)) nS).flatten, HGW G (fun k => x (k + 58)) (0, 0, fun _ => nS), TW G (fun k => x (k + 136)) n2, PW G (fun k => x (k + 138)) n2]]) := hD
  refine g_new (ci := 7) (fs := [.null, .null, .null, .int 0, .null, .int 0, .null, .int 0, .int 0, .int 0, .null, .int 0]) (C := RX7) (T := TX7) (N := 12) hx hb hts wl_X70 tyX7 tyX7_ok hown (hts (.classLink RL 10 RX7) (List.mem_of_getElem? (i := 586) (by decide +kernel))) (hts (.instantiable RX7 12) (List.mem_of_getElem? (i := 587) (by decide +kernel))) (hts (.initialized RX7) (List.mem_of_getElem? (i := 36) (by decide +kernel))) hK hP hD hS hA rfl (by decide +kernel) (Nat.le_of_ble_eq_true rfl) (Nat.le_of_ble_eq_true rfl) dL_law_8 (fun q2 H hP hD hS => ?_)
  have hP : va_P G.1 vwCl (List.flatten ([List.flatten [CW G x n1, (svB G (fun k => x (k + 1)) nC).flatten, (svB G (fun k => x (k + 20)) nS).flatten, (svB G (fun k => x (k + 39)) nS).flatten, HGW G (fun k => x (k + 58)) (0, 0, fun _ => nS), TW G (fun k => x (k + 136)) n2, PW G (fun k => x (k + 138)) n2]] ++ [[bwO q2 7 [.null, .null, .null, .int 0, .null, .int 0, .null, .int 0, .int 0, .int 0, .null, .int 0]]])) H := hP
  have hD : va_D (fun q : Nat => s.heap.size ≤ q) (List.flatten ([List.flatten [CW G x n1, (svB G (fun k => x (k + 1)) nC).flatten, (svB G (fun k => x (k + 20)) nS).flatten, (svB G (fun k => x (k + 39)) nS).flatten, HGW G (fun k => x (k + 58)) (0, 0, fun _ => nS), TW G (fun k => x (k + 136)) n2, PW G (fun k => x (k + 138)) n2]] ++ [[bwO q2 7 [.null, .null, .null, .int 0, .null, .int 0, .null, .int 0, .int 0, .int 0, .null, .int 0]]])) := hD
  refine lv_dup hx hb dL_law_11 rfl ?_
  refine g_callI (c_X7_init l G q2) hx hb hml hown hts hK [List.flatten [CW G x n1, (svB G (fun k => x (k + 1)) nC).flatten, (svB G (fun k => x (k + 20)) nS).flatten, (svB G (fun k => x (k + 39)) nS).flatten, HGW G (fun k => x (k + 58)) (0, 0, fun _ => nS), TW G (fun k => x (k + 136)) n2, PW G (fun k => x (k + 138)) n2]] hP hD hS hA (fun _ _ _ => trivial) (fun _ _ _ _ _ => trivial) (g_law gL_law_X7_init) rfl (List.mem_of_getElem? (i := 36) (by decide +kernel)) (List.mem_of_getElem? (i := 588) (by decide +kernel)) (List.mem_of_getElem? (i := 589) (by decide +kernel)) rfl (by decide +kernel) ⟨Nat.le_of_ble_eq_true rfl, Nat.le_of_ble_eq_true rfl⟩ hl.1 (Nat.le_of_ble_eq_true rfl) ⟨Nat.le_of_ble_eq_true rfl, Nat.le_of_ble_eq_true rfl⟩ dL_law_12 (fun mm H2 locs2 emm hP2 hD2 hS2 => ?_)
  clear hP hD hS
  subst emm
  have hS := hS2
  have hP : va_P G.1 vwCl (List.flatten ([List.flatten [CW G x n1, (svB G (fun k => x (k + 1)) nC).flatten, (svB G (fun k => x (k + 20)) nS).flatten, (svB G (fun k => x (k + 39)) nS).flatten, HGW G (fun k => x (k + 58)) (0, 0, fun _ => nS), TW G (fun k => x (k + 136)) n2, PW G (fun k => x (k + 138)) n2]] ++ [List.flatten [MO G mm n1, AW G (mm 1) 112 nF, AW G (mm 2) 112 n1, AW G (mm 3) 448 n1, AW G (mm 4) 112 n1, CX G (mm 5) n1, AW G (mm 6) 20 n1]])) H2 := hP2
  have hD : va_D (fun q : Nat => s.heap.size ≤ q) (List.flatten ([List.flatten [CW G x n1, (svB G (fun k => x (k + 1)) nC).flatten, (svB G (fun k => x (k + 20)) nS).flatten, (svB G (fun k => x (k + 39)) nS).flatten, HGW G (fun k => x (k + 58)) (0, 0, fun _ => nS), TW G (fun k => x (k + 136)) n2, PW G (fun k => x (k + 138)) n2]] ++ [List.flatten [MO G mm n1, AW G (mm 1) 112 nF, AW G (mm 2) 112 n1, AW G (mm 3) 448 n1, AW G (mm 4) 112 n1, CX G (mm 5) n1, AW G (mm 6) 20 n1]])) := hD2
  refine lv_astore_n (lv' := [(2, .ref (mm 0)), (1, .ref (x 0)), (0, .ref b)]) hx hb dL_law_15 rfl hl (by decide) rfl (fun ls hl => ?_)
  refine lv_iconst (v := 0) hx hb dL_law_16 (by decide) ?_
  refine lv_istore_n (lv' := [(3, .int 0), (2, .ref (mm 0)), (1, .ref (x 0)), (0, .ref b)]) hx hb dL_law_17 rfl hl (by decide) rfl (fun ls hl => ?_)
  have hP : va_P G.1 vwCl (List.flatten [List.flatten [CW G x n1, (svB G (fun k => x (k + 1)) nC).flatten, (svB G (fun k => x (k + 20)) nS).flatten, (svB G (fun k => x (k + 39)) nS).flatten, HGW G (fun k => x (k + 58)) (0, 0, fun _ => nS), TW G (fun k => x (k + 136)) n2, PW G (fun k => x (k + 138)) n2], List.flatten [MO G mm n1, AW G (mm 1) 112 nF, AW G (mm 2) 112 n1, AW G (mm 3) 448 n1, AW G (mm 4) 112 n1, CX G (mm 5) n1, AW G (mm 6) 20 n1]]) H2 := hP
  have hD : va_D (fun q : Nat => s.heap.size ≤ q) (List.flatten [List.flatten [CW G x n1, (svB G (fun k => x (k + 1)) nC).flatten, (svB G (fun k => x (k + 20)) nS).flatten, (svB G (fun k => x (k + 39)) nS).flatten, HGW G (fun k => x (k + 58)) (0, 0, fun _ => nS), TW G (fun k => x (k + 136)) n2, PW G (fun k => x (k + 138)) n2], List.flatten [MO G mm n1, AW G (mm 1) 112 nF, AW G (mm 2) 112 n1, AW G (mm 3) 448 n1, AW G (mm 4) 112 n1, CX G (mm 5) n1, AW G (mm 6) 20 n1]]) := hD
  rw [g_reg] at hP hD
  refine W.widen (k := 600000) (n := 7302250) (Nat.le_of_ble_eq_true rfl) (Nat.le_of_ble_eq_true rfl) ?_
  exact law_loop hL z C0 hK hZ (L + 1) 0 0 (Nat.zero_le L) (by omega) nI_0.symm n1 n1 cFirst nB n2 n2 n1 n1 nB n2 n2 n1 n1 nB n2 n2 (0, 0, fun _ => nS) n2 n2 n1 nF n1 n1 n1 n1 n1 _ _ _ pu_init hP hD hS (lv_sub hl [3, 2, 1, 0] rfl)
