def ok_L_refusesAny0 (o : (Nat → Int32)) (st : (Nat → Int32)) (b : (Nat → Nat → Int32)) (pf : (Nat → Nat → Int32)) (g : (Nat → Nat → Int32)) (fo : (Nat → Int32)) (fst : (Nat → Int32)) (fb : (Nat → Nat → Int32)) (fp : (Nat → Nat → Int32)) (fg : (Nat → Nat → Int32)) (hh : HVal) : Prop := (rok_battery o st b pf g hh 0) ∧ (rok_setChargeU o st b pf g hh (-1) (-1)) ∧ (rok_setChargeB o st b pf g hh 0 (-1)) ∧ (rok_use o st b pf g hh 0) ∧ (rok_setU o st b pf g hh (-1) 9999) ∧ (rok_pass o st b pf g hh 0) ∧ (rok_setB o st b pf g hh 0 99) ∧ (rok_settingV 0) ∧ (rok_setN o st b pf g hh 0 ((st (0 : Int32).toNatClampNeg + 1000) - 1000)) ∧ (rok_setB o st b pf g hh 1 (-1)) ∧ (rok_settingV 1) ∧ (rok_setN o st b pf g hh 1 ((st (1 : Int32).toNatClampNeg + 1000) - 1000)) ∧ (rok_setB o st b pf g hh 2 49) ∧ (rok_settingV 2) ∧ (rok_setN o st b pf g hh 2 ((st (2 : Int32).toNatClampNeg + 1000) - 1000)) ∧ (rok_setB o st b pf g hh 3 (-31)) ∧ (rok_settingV 3) ∧ (rok_setN o st b pf g hh 3 ((st (3 : Int32).toNatClampNeg + 1000) - 1000)) ∧ (rok_setB o st b pf g hh 4 (-1)) ∧ (rok_settingV 4) ∧ (rok_setN o st b pf g hh 4 ((st (4 : Int32).toNatClampNeg + 1000) - 1000)) ∧ (rok_setB o st b pf g hh 5 (-31)) ∧ (rok_settingV 5) ∧ (rok_setN o st b pf g hh 5 ((st (5 : Int32).toNatClampNeg + 1000) - 1000)) ∧ (rok_setB o st b pf g hh 6 (-31)) ∧ (rok_settingV 6) ∧ (rok_setN o st b pf g hh 6 ((st (6 : Int32).toNatClampNeg + 1000) - 1000)) ∧ (rok_setB o st b pf g hh 7 (-1)) ∧ (rok_settingV 7) ∧ (rok_setN o st b pf g hh 7 ((st (7 : Int32).toNatClampNeg + 1000) - 1000)) ∧ (rok_setB o st b pf g hh 8 (-1)) ∧ (rok_settingV 8) ∧ (rok_setN o st b pf g hh 8 ((st (8 : Int32).toNatClampNeg + 1000) - 1000)) ∧ (rok_cellU st b (-1) 99) ∧ (rok_cellB st b 0 (-1)) ∧ (rok_settingU (-1)) ∧ (rok_stageU pf (-1) 99) ∧ (rok_voltage st b (-1)) ∧ (rok_chargeInU o st b pf g (-1) (-1)) ∧ (rok_chargeInB o st b pf g 0 (-1)) ∧ (rok_eventB g (-1) 0) ∧ (rok_eventN g 10 0) ∧ (rok_countB b (-1)) ∧ (rok_count3 b o) ∧ (rok_warmest o st b pf g fo fst fb fp fg) ∧ (rok_count3 b o) ∧ (rok_count3 b o) ∧ (rok_stop o hh) ∧ True
set_option maxHeartbeats 4000000 in
set_option maxRecDepth 100000 in
theorem c_L_refusesAny0_7 (l : Launch) (G : gG) (z : Nat × Nat × Nat) (x : Nat → Nat) (cx : (Nat → Int32)) (o : (Nat → Int32)) (st : (Nat → Int32)) (b : (Nat → Nat → Int32)) (pf : (Nat → Nat → Int32)) (g : (Nat → Nat → Int32)) (fo : (Nat → Int32)) (fst : (Nat → Int32)) (fb : (Nat → Nat → Int32)) (fp : (Nat → Nat → Int32)) (fg : (Nat → Nat → Int32)) (hh : HVal) (t : (Nat → Nat → Int32)) {p : Program} {e : Env} {s : State} {m : MethodId} {below : List Frame} {meth : Method} {c : Code} {A : Nat → Prop} {H : Heap} {locs : List Loc} {ls : Array Slot} (hx : p.tables.exec = Jvm.exec) (hb : c.code = cL_refusesAny) (hml : c.maxLocals = 6) (hr : meth.sig.returnType = (some .boolean)) (hts : ∀ w ∈ wsL_refusesAny, w.before (List.toArray [.ref (x 0), .int 0]) s = true) (hown : s.vm.findClass RL = some m.cls) (hlocks : meth.locks = false) (hK : gK G s) (hA : ∀ q : Nat, s.heap.size ≤ q → A q) (hZ : gZ z A s) (hok : (rok_countB b (-1)) ∧ (rok_count3 b o) ∧ (rok_warmest o st b pf g fo fst fb fp fg) ∧ (rok_count3 b o) ∧ (rok_count3 b o) ∧ (rok_stop o hh) ∧ True) (hP : va_P G.1 vwCl (List.flatten [CW G x cx, OW G (fun k => x (k + 1)) o, AW G (x 2) 9 st, BW G (fun k => x (k + 3)) b, PW G (fun k => x (k + 11)) pf, LW G (fun k => x (k + 16)) g, OW G (fun k => x (k + 20)) fo, AW G (x 21) 9 fst, BW G (fun k => x (k + 22)) fb, PW G (fun k => x (k + 30)) fp, LW G (fun k => x (k + 35)) fg, HGW G (fun k => x (k + 58)) hh, TW G (fun k => x (k + 136)) t]) H) (hD : va_D A (List.flatten [CW G x cx, OW G (fun k => x (k + 1)) o, AW G (x 2) 9 st, BW G (fun k => x (k + 3)) b, PW G (fun k => x (k + 11)) pf, LW G (fun k => x (k + 16)) g, OW G (fun k => x (k + 20)) fo, AW G (x 21) 9 fst, BW G (fun k => x (k + 22)) fb, PW G (fun k => x (k + 30)) fp, LW G (fun k => x (k + 35)) fg, HGW G (fun k => x (k + 58)) hh, TW G (fun k => x (k + 136)) t])) (hS : va_S A s.heap H locs) (hl : lv_has ls 6 [(3, .int 9), (5, .int 50), (4, .int 0), (2, .int (-1)), (0, .ref (x 0)), (1, .int 0)]) : W p l e { frames := 8, cells := 0, slots := 0, locals := 164 } s m (List.toArray [.ref (x 0), .int 0]) below meth c H locs 0 0 (gQ G below (List.toArray [.ref (x 0), .int 0]) s (some (.int 1)) [CW G x cx, OW G (fun k => x (k + 1)) o, AW G (x 2) 9 st, BW G (fun k => x (k + 3)) b, PW G (fun k => x (k + 11)) pf, LW G (fun k => x (k + 16)) g, OW G (fun k => x (k + 20)) fo, AW G (x 21) 9 fst, BW G (fun k => x (k + 22)) fb, PW G (fun k => x (k + 30)) fp, LW G (fun k => x (k + 35)) fg, HGW G (fun k => x (k + 58)) hh, TW G (fun k => x (k + 136)) t] A) (F0 m 474 ls []) := by
  refine lv_aload_n hx hb dL_refusesAny_474 rfl (lv_at hl 4 rfl) ?_
  refine lv_iload_n hx hb dL_refusesAny_475 rfl (lv_at hl 5 rfl) ?_
  refine lv_if_ne (tgt := 483) hx hb dL_refusesAny_476 (by decide) (fun c => absurd c (by decide)) (fun _ => ?_)
  refine lv_iconst (v := (-1)) hx hb dL_refusesAny_479 (by decide) ?_
  refine lv_goto (tgt := 485) hx hb dL_refusesAny_480 (by decide) ?_
  obtain ⟨k1, hok⟩ := hok
  refine g_callV (cr_countB l G x cx o st b pf g hh t (-1) k1) hx hb hml hown hts hK hP hD hS hA gL_refusesAny_X6_count rfl (n := 1) (by decide +kernel) rfl ⟨Nat.le_of_ble_eq_true rfl, Nat.le_of_ble_eq_true rfl⟩ [0, 1, 2, 3, 4, 5, 11, 12] rfl (by decide) 0 rfl (ci := 6) rfl hl.1 rfl (Nat.le_of_ble_eq_true rfl) ⟨Nat.zero_le _, Nat.zero_le _⟩ dL_refusesAny_485 (fun H locs hP hD hS => ?_)
  have hP : va_P G.1 vwCl (List.flatten [CW G x cx, OW G (fun k => x (k + 1)) o, AW G (x 2) 9 st, BW G (fun k => x (k + 3)) b, PW G (fun k => x (k + 11)) pf, LW G (fun k => x (k + 16)) g, OW G (fun k => x (k + 20)) fo, AW G (x 21) 9 fst, BW G (fun k => x (k + 22)) fb, PW G (fun k => x (k + 30)) fp, LW G (fun k => x (k + 35)) fg, HGW G (fun k => x (k + 58)) hh, TW G (fun k => x (k + 136)) t]) H := hP
  have hD : va_D A (List.flatten [CW G x cx, OW G (fun k => x (k + 1)) o, AW G (x 2) 9 st, BW G (fun k => x (k + 3)) b, PW G (fun k => x (k + 11)) pf, LW G (fun k => x (k + 16)) g, OW G (fun k => x (k + 20)) fo, AW G (x 21) 9 fst, BW G (fun k => x (k + 22)) fb, PW G (fun k => x (k + 30)) fp, LW G (fun k => x (k + 35)) fg, HGW G (fun k => x (k + 58)) hh, TW G (fun k => x (k + 136)) t]) := hD
  refine lv_bipush (v := (-2)) hx hb dL_refusesAny_488 (by decide) ?_
  refine lv_icmp_ne (tgt := 563) hx hb dL_refusesAny_490 (by decide) (fun c => absurd c (by decide)) (fun _ => ?_)
  refine lv_aload_n hx hb dL_refusesAny_493 rfl (lv_at hl 4 rfl) ?_
  refine lv_iconst (v := 3) hx hb dL_refusesAny_494 (by decide) ?_
  obtain ⟨k2, hok⟩ := hok
  refine g_callV (cr_count3 l G x cx o st b pf g hh t k2) hx hb hml hown hts hK hP hD hS hA gL_refusesAny_X6_count rfl (n := 1) (by decide +kernel) rfl ⟨Nat.le_of_ble_eq_true rfl, Nat.le_of_ble_eq_true rfl⟩ [0, 1, 2, 3, 4, 5, 11, 12] rfl (by decide) 0 rfl (ci := 6) rfl hl.1 rfl (Nat.le_of_ble_eq_true rfl) ⟨Nat.zero_le _, Nat.zero_le _⟩ dL_refusesAny_495 (fun H locs hP hD hS => ?_)
  have hP : va_P G.1 vwCl (List.flatten [CW G x cx, OW G (fun k => x (k + 1)) o, AW G (x 2) 9 st, BW G (fun k => x (k + 3)) b, PW G (fun k => x (k + 11)) pf, LW G (fun k => x (k + 16)) g, OW G (fun k => x (k + 20)) fo, AW G (x 21) 9 fst, BW G (fun k => x (k + 22)) fb, PW G (fun k => x (k + 30)) fp, LW G (fun k => x (k + 35)) fg, HGW G (fun k => x (k + 58)) hh, TW G (fun k => x (k + 136)) t]) H := hP
  have hD : va_D A (List.flatten [CW G x cx, OW G (fun k => x (k + 1)) o, AW G (x 2) 9 st, BW G (fun k => x (k + 3)) b, PW G (fun k => x (k + 11)) pf, LW G (fun k => x (k + 16)) g, OW G (fun k => x (k + 20)) fo, AW G (x 21) 9 fst, BW G (fun k => x (k + 22)) fb, PW G (fun k => x (k + 30)) fp, LW G (fun k => x (k + 35)) fg, HGW G (fun k => x (k + 58)) hh, TW G (fun k => x (k + 136)) t]) := hD
  refine lv_iconst (v := 1) hx hb dL_refusesAny_498 (by decide) ?_
  refine lv_icmp_eq (tgt := 511) hx hb dL_refusesAny_499 (by decide) (fun c => absurd c (by decide)) (fun _ => ?_)
  refine lv_aload_n hx hb dL_refusesAny_502 rfl (lv_at hl 4 rfl) ?_
  obtain ⟨k3, hok⟩ := hok
  refine g_callV (cr_warmest l G x cx o st b pf g fo fst fb fp fg k3) hx hb hml hown hts hK hP hD hS hA gL_refusesAny_X6_warmest rfl (n := 0) (by decide +kernel) rfl ⟨Nat.le_of_ble_eq_true rfl, Nat.le_of_ble_eq_true rfl⟩ [0, 1, 2, 3, 4, 5, 6, 7, 8, 9, 10] rfl (by decide) 0 rfl (ci := 6) rfl hl.1 rfl (Nat.le_of_ble_eq_true rfl) ⟨Nat.zero_le _, Nat.zero_le _⟩ dL_refusesAny_503 (fun H locs hP hD hS => ?_)
  have hP : va_P G.1 vwCl (List.flatten [CW G x cx, OW G (fun k => x (k + 1)) o, AW G (x 2) 9 st, BW G (fun k => x (k + 3)) b, PW G (fun k => x (k + 11)) pf, LW G (fun k => x (k + 16)) g, OW G (fun k => x (k + 20)) fo, AW G (x 21) 9 fst, BW G (fun k => x (k + 22)) fb, PW G (fun k => x (k + 30)) fp, LW G (fun k => x (k + 35)) fg, HGW G (fun k => x (k + 58)) hh, TW G (fun k => x (k + 136)) t]) H := hP
  have hD : va_D A (List.flatten [CW G x cx, OW G (fun k => x (k + 1)) o, AW G (x 2) 9 st, BW G (fun k => x (k + 3)) b, PW G (fun k => x (k + 11)) pf, LW G (fun k => x (k + 16)) g, OW G (fun k => x (k + 20)) fo, AW G (x 21) 9 fst, BW G (fun k => x (k + 22)) fb, PW G (fun k => x (k + 30)) fp, LW G (fun k => x (k + 35)) fg, HGW G (fun k => x (k + 58)) hh, TW G (fun k => x (k + 136)) t]) := hD
  refine lv_bipush (v := (-4)) hx hb dL_refusesAny_506 (by decide) ?_
  refine lv_icmp_ne (tgt := 563) hx hb dL_refusesAny_508 (by decide) (fun c => absurd c (by decide)) (fun _ => ?_)
  refine lv_aload_n hx hb dL_refusesAny_511 rfl (lv_at hl 4 rfl) ?_
  refine lv_iconst (v := 3) hx hb dL_refusesAny_512 (by decide) ?_
  obtain ⟨k4, hok⟩ := hok
  refine g_callV (cr_count3 l G x cx o st b pf g hh t k4) hx hb hml hown hts hK hP hD hS hA gL_refusesAny_X6_count rfl (n := 1) (by decide +kernel) rfl ⟨Nat.le_of_ble_eq_true rfl, Nat.le_of_ble_eq_true rfl⟩ [0, 1, 2, 3, 4, 5, 11, 12] rfl (by decide) 0 rfl (ci := 6) rfl hl.1 rfl (Nat.le_of_ble_eq_true rfl) ⟨Nat.zero_le _, Nat.zero_le _⟩ dL_refusesAny_513 (fun H locs hP hD hS => ?_)
  have hP : va_P G.1 vwCl (List.flatten [CW G x cx, OW G (fun k => x (k + 1)) o, AW G (x 2) 9 st, BW G (fun k => x (k + 3)) b, PW G (fun k => x (k + 11)) pf, LW G (fun k => x (k + 16)) g, OW G (fun k => x (k + 20)) fo, AW G (x 21) 9 fst, BW G (fun k => x (k + 22)) fb, PW G (fun k => x (k + 30)) fp, LW G (fun k => x (k + 35)) fg, HGW G (fun k => x (k + 58)) hh, TW G (fun k => x (k + 136)) t]) H := hP
  have hD : va_D A (List.flatten [CW G x cx, OW G (fun k => x (k + 1)) o, AW G (x 2) 9 st, BW G (fun k => x (k + 3)) b, PW G (fun k => x (k + 11)) pf, LW G (fun k => x (k + 16)) g, OW G (fun k => x (k + 20)) fo, AW G (x 21) 9 fst, BW G (fun k => x (k + 22)) fb, PW G (fun k => x (k + 30)) fp, LW G (fun k => x (k + 35)) fg, HGW G (fun k => x (k + 58)) hh, TW G (fun k => x (k + 136)) t]) := hD
  refine lv_iconst (v := 1) hx hb dL_refusesAny_516 (by decide) ?_
  refine lv_icmp_ne (tgt := 542) hx hb dL_refusesAny_517 (by decide) (fun _ => ?_) (fun c => absurd c (by decide))
  refine lv_aload_n hx hb dL_refusesAny_542 rfl (lv_at hl 4 rfl) ?_
  refine lv_iconst (v := 3) hx hb dL_refusesAny_543 (by decide) ?_
  obtain ⟨k5, hok⟩ := hok
  refine g_callV (cr_count3 l G x cx o st b pf g hh t k5) hx hb hml hown hts hK hP hD hS hA gL_refusesAny_X6_count rfl (n := 1) (by decide +kernel) rfl ⟨Nat.le_of_ble_eq_true rfl, Nat.le_of_ble_eq_true rfl⟩ [0, 1, 2, 3, 4, 5, 11, 12] rfl (by decide) 0 rfl (ci := 6) rfl hl.1 rfl (Nat.le_of_ble_eq_true rfl) ⟨Nat.zero_le _, Nat.zero_le _⟩ dL_refusesAny_544 (fun H locs hP hD hS => ?_)
  have hP : va_P G.1 vwCl (List.flatten [CW G x cx, OW G (fun k => x (k + 1)) o, AW G (x 2) 9 st, BW G (fun k => x (k + 3)) b, PW G (fun k => x (k + 11)) pf, LW G (fun k => x (k + 16)) g, OW G (fun k => x (k + 20)) fo, AW G (x 21) 9 fst, BW G (fun k => x (k + 22)) fb, PW G (fun k => x (k + 30)) fp, LW G (fun k => x (k + 35)) fg, HGW G (fun k => x (k + 58)) hh, TW G (fun k => x (k + 136)) t]) H := hP
  have hD : va_D A (List.flatten [CW G x cx, OW G (fun k => x (k + 1)) o, AW G (x 2) 9 st, BW G (fun k => x (k + 3)) b, PW G (fun k => x (k + 11)) pf, LW G (fun k => x (k + 16)) g, OW G (fun k => x (k + 20)) fo, AW G (x 21) 9 fst, BW G (fun k => x (k + 22)) fb, PW G (fun k => x (k + 30)) fp, LW G (fun k => x (k + 35)) fg, HGW G (fun k => x (k + 58)) hh, TW G (fun k => x (k + 136)) t]) := hD
  refine lv_if_ne (tgt := 559) hx hb dL_refusesAny_547 (by decide) (fun c => absurd c (by decide)) (fun _ => ?_)
  refine lv_aload_n hx hb dL_refusesAny_550 rfl (lv_at hl 4 rfl) ?_
  obtain ⟨k6, hok⟩ := hok
  refine g_callV (cr_stop l G x cx o st b pf g hh k6) hx hb hml hown hts hK hP hD hS hA gL_refusesAny_X6_stop rfl (n := 0) (by decide +kernel) rfl ⟨Nat.le_of_ble_eq_true rfl, Nat.le_of_ble_eq_true rfl⟩ [0, 1, 2, 3, 4, 5, 11] rfl (by decide) 0 rfl (ci := 6) rfl hl.1 rfl (Nat.le_of_ble_eq_true rfl) ⟨Nat.zero_le _, Nat.zero_le _⟩ dL_refusesAny_551 (fun H locs hP hD hS => ?_)
  have hP : va_P G.1 vwCl (List.flatten [CW G x cx, OW G (fun k => x (k + 1)) o, AW G (x 2) 9 st, BW G (fun k => x (k + 3)) b, PW G (fun k => x (k + 11)) pf, LW G (fun k => x (k + 16)) g, OW G (fun k => x (k + 20)) fo, AW G (x 21) 9 fst, BW G (fun k => x (k + 22)) fb, PW G (fun k => x (k + 30)) fp, LW G (fun k => x (k + 35)) fg, HGW G (fun k => x (k + 58)) hh, TW G (fun k => x (k + 136)) t]) H := hP
  have hD : va_D A (List.flatten [CW G x cx, OW G (fun k => x (k + 1)) o, AW G (x 2) 9 st, BW G (fun k => x (k + 3)) b, PW G (fun k => x (k + 11)) pf, LW G (fun k => x (k + 16)) g, OW G (fun k => x (k + 20)) fo, AW G (x 21) 9 fst, BW G (fun k => x (k + 22)) fb, PW G (fun k => x (k + 30)) fp, LW G (fun k => x (k + 35)) fg, HGW G (fun k => x (k + 58)) hh, TW G (fun k => x (k + 136)) t]) := hD
  refine lv_bipush (v := (-5)) hx hb dL_refusesAny_554 (by decide) ?_
  refine lv_icmp_ne (tgt := 563) hx hb dL_refusesAny_556 (by decide) (fun c => absurd c (by decide)) (fun _ => ?_)
  refine lv_iconst (v := 1) hx hb dL_refusesAny_559 (by decide) ?_
  refine lv_goto (tgt := 564) hx hb dL_refusesAny_560 (by decide) ?_
  exact g_retz hx hb hr hlocks hS rfl dL_refusesAny_564 rfl hP
set_option maxHeartbeats 4000000 in
set_option maxRecDepth 100000 in
theorem c_L_refusesAny0_6 (l : Launch) (G : gG) (z : Nat × Nat × Nat) (x : Nat → Nat) (cx : (Nat → Int32)) (o : (Nat → Int32)) (st : (Nat → Int32)) (b : (Nat → Nat → Int32)) (pf : (Nat → Nat → Int32)) (g : (Nat → Nat → Int32)) (fo : (Nat → Int32)) (fst : (Nat → Int32)) (fb : (Nat → Nat → Int32)) (fp : (Nat → Nat → Int32)) (fg : (Nat → Nat → Int32)) (hh : HVal) (t : (Nat → Nat → Int32)) {p : Program} {e : Env} {s : State} {m : MethodId} {below : List Frame} {meth : Method} {c : Code} {A : Nat → Prop} {H : Heap} {locs : List Loc} {ls : Array Slot} (hx : p.tables.exec = Jvm.exec) (hb : c.code = cL_refusesAny) (hml : c.maxLocals = 6) (hr : meth.sig.returnType = (some .boolean)) (hts : ∀ w ∈ wsL_refusesAny, w.before (List.toArray [.ref (x 0), .int 0]) s = true) (hown : s.vm.findClass RL = some m.cls) (hlocks : meth.locks = false) (hK : gK G s) (hA : ∀ q : Nat, s.heap.size ≤ q → A q) (hZ : gZ z A s) (hok : (rok_stageU pf (-1) 99) ∧ (rok_voltage st b (-1)) ∧ (rok_chargeInU o st b pf g (-1) (-1)) ∧ (rok_chargeInB o st b pf g 0 (-1)) ∧ (rok_eventB g (-1) 0) ∧ (rok_eventN g 10 0) ∧ (rok_countB b (-1)) ∧ (rok_count3 b o) ∧ (rok_warmest o st b pf g fo fst fb fp fg) ∧ (rok_count3 b o) ∧ (rok_count3 b o) ∧ (rok_stop o hh) ∧ True) (hP : va_P G.1 vwCl (List.flatten [CW G x cx, OW G (fun k => x (k + 1)) o, AW G (x 2) 9 st, BW G (fun k => x (k + 3)) b, PW G (fun k => x (k + 11)) pf, LW G (fun k => x (k + 16)) g, OW G (fun k => x (k + 20)) fo, AW G (x 21) 9 fst, BW G (fun k => x (k + 22)) fb, PW G (fun k => x (k + 30)) fp, LW G (fun k => x (k + 35)) fg, HGW G (fun k => x (k + 58)) hh, TW G (fun k => x (k + 136)) t]) H) (hD : va_D A (List.flatten [CW G x cx, OW G (fun k => x (k + 1)) o, AW G (x 2) 9 st, BW G (fun k => x (k + 3)) b, PW G (fun k => x (k + 11)) pf, LW G (fun k => x (k + 16)) g, OW G (fun k => x (k + 20)) fo, AW G (x 21) 9 fst, BW G (fun k => x (k + 22)) fb, PW G (fun k => x (k + 30)) fp, LW G (fun k => x (k + 35)) fg, HGW G (fun k => x (k + 58)) hh, TW G (fun k => x (k + 136)) t])) (hS : va_S A s.heap H locs) (hl : lv_has ls 6 [(3, .int 9), (5, .int 50), (4, .int 0), (2, .int (-1)), (0, .ref (x 0)), (1, .int 0)]) : W p l e { frames := 8, cells := 0, slots := 0, locals := 164 } s m (List.toArray [.ref (x 0), .int 0]) below meth c H locs 0 0 (gQ G below (List.toArray [.ref (x 0), .int 0]) s (some (.int 1)) [CW G x cx, OW G (fun k => x (k + 1)) o, AW G (x 2) 9 st, BW G (fun k => x (k + 3)) b, PW G (fun k => x (k + 11)) pf, LW G (fun k => x (k + 16)) g, OW G (fun k => x (k + 20)) fo, AW G (x 21) 9 fst, BW G (fun k => x (k + 22)) fb, PW G (fun k => x (k + 30)) fp, LW G (fun k => x (k + 35)) fg, HGW G (fun k => x (k + 58)) hh, TW G (fun k => x (k + 136)) t] A) (F0 m 347 ls []) := by
  refine lv_aload_n hx hb dL_refusesAny_347 rfl (lv_at hl 4 rfl) ?_
  refine lv_iload_n hx hb dL_refusesAny_348 rfl (lv_at hl 5 rfl) ?_
  refine lv_if_ne (tgt := 356) hx hb dL_refusesAny_349 (by decide) (fun c => absurd c (by decide)) (fun _ => ?_)
  refine lv_iconst (v := (-1)) hx hb dL_refusesAny_352 (by decide) ?_
  refine lv_goto (tgt := 361) hx hb dL_refusesAny_353 (by decide) ?_
  refine lv_bipush (v := 99) hx hb dL_refusesAny_361 (by decide) ?_
  obtain ⟨k1, hok⟩ := hok
  refine g_callV (cr_stageU l G x cx o st b pf g (-1) 99 k1) hx hb hml hown hts hK hP hD hS hA gL_refusesAny_X6_stage rfl (n := 2) (by decide +kernel) rfl ⟨Nat.le_of_ble_eq_true rfl, Nat.le_of_ble_eq_true rfl⟩ [0, 1, 2, 3, 4, 5] rfl (by decide) 0 rfl (ci := 6) rfl hl.1 rfl (Nat.le_of_ble_eq_true rfl) ⟨Nat.zero_le _, Nat.zero_le _⟩ dL_refusesAny_363 (fun H locs hP hD hS => ?_)
  have hP : va_P G.1 vwCl (List.flatten [CW G x cx, OW G (fun k => x (k + 1)) o, AW G (x 2) 9 st, BW G (fun k => x (k + 3)) b, PW G (fun k => x (k + 11)) pf, LW G (fun k => x (k + 16)) g, OW G (fun k => x (k + 20)) fo, AW G (x 21) 9 fst, BW G (fun k => x (k + 22)) fb, PW G (fun k => x (k + 30)) fp, LW G (fun k => x (k + 35)) fg, HGW G (fun k => x (k + 58)) hh, TW G (fun k => x (k + 136)) t]) H := hP
  have hD : va_D A (List.flatten [CW G x cx, OW G (fun k => x (k + 1)) o, AW G (x 2) 9 st, BW G (fun k => x (k + 3)) b, PW G (fun k => x (k + 11)) pf, LW G (fun k => x (k + 16)) g, OW G (fun k => x (k + 20)) fo, AW G (x 21) 9 fst, BW G (fun k => x (k + 22)) fb, PW G (fun k => x (k + 30)) fp, LW G (fun k => x (k + 35)) fg, HGW G (fun k => x (k + 58)) hh, TW G (fun k => x (k + 136)) t]) := hD
  refine lv_iconst (v := (-1)) hx hb dL_refusesAny_366 (by decide) ?_
  refine lv_icmp_ne (tgt := 433) hx hb dL_refusesAny_367 (by decide) (fun c => absurd c (by decide)) (fun _ => ?_)
  refine lv_aload_n hx hb dL_refusesAny_370 rfl (lv_at hl 4 rfl) ?_
  refine lv_iload_n hx hb dL_refusesAny_371 rfl (lv_at hl 5 rfl) ?_
  refine lv_if_ne (tgt := 379) hx hb dL_refusesAny_372 (by decide) (fun c => absurd c (by decide)) (fun _ => ?_)
  refine lv_iconst (v := (-1)) hx hb dL_refusesAny_375 (by decide) ?_
  refine lv_goto (tgt := 382) hx hb dL_refusesAny_376 (by decide) ?_
  obtain ⟨k2, hok⟩ := hok
  refine g_callV (cr_voltage l G x cx o st b pf g (-1) k2) hx hb hml hown hts hK hP hD hS hA gL_refusesAny_X6_voltage rfl (n := 1) (by decide +kernel) rfl ⟨Nat.le_of_ble_eq_true rfl, Nat.le_of_ble_eq_true rfl⟩ [0, 1, 2, 3, 4, 5] rfl (by decide) 0 rfl (ci := 6) rfl hl.1 rfl (Nat.le_of_ble_eq_true rfl) ⟨Nat.zero_le _, Nat.zero_le _⟩ dL_refusesAny_382 (fun H locs hP hD hS => ?_)
  have hP : va_P G.1 vwCl (List.flatten [CW G x cx, OW G (fun k => x (k + 1)) o, AW G (x 2) 9 st, BW G (fun k => x (k + 3)) b, PW G (fun k => x (k + 11)) pf, LW G (fun k => x (k + 16)) g, OW G (fun k => x (k + 20)) fo, AW G (x 21) 9 fst, BW G (fun k => x (k + 22)) fb, PW G (fun k => x (k + 30)) fp, LW G (fun k => x (k + 35)) fg, HGW G (fun k => x (k + 58)) hh, TW G (fun k => x (k + 136)) t]) H := hP
  have hD : va_D A (List.flatten [CW G x cx, OW G (fun k => x (k + 1)) o, AW G (x 2) 9 st, BW G (fun k => x (k + 3)) b, PW G (fun k => x (k + 11)) pf, LW G (fun k => x (k + 16)) g, OW G (fun k => x (k + 20)) fo, AW G (x 21) 9 fst, BW G (fun k => x (k + 22)) fb, PW G (fun k => x (k + 30)) fp, LW G (fun k => x (k + 35)) fg, HGW G (fun k => x (k + 58)) hh, TW G (fun k => x (k + 136)) t]) := hD
  refine lv_bipush (v := (-2)) hx hb dL_refusesAny_385 (by decide) ?_
  refine lv_icmp_ne (tgt := 433) hx hb dL_refusesAny_387 (by decide) (fun c => absurd c (by decide)) (fun _ => ?_)
  refine lv_aload_n hx hb dL_refusesAny_390 rfl (lv_at hl 4 rfl) ?_
  refine lv_iload_n hx hb dL_refusesAny_391 rfl (lv_at hl 5 rfl) ?_
  refine lv_if_ne (tgt := 399) hx hb dL_refusesAny_392 (by decide) (fun c => absurd c (by decide)) (fun _ => ?_)
  refine lv_iconst (v := (-1)) hx hb dL_refusesAny_395 (by decide) ?_
  refine lv_goto (tgt := 404) hx hb dL_refusesAny_396 (by decide) ?_
  refine lv_iconst (v := (-1)) hx hb dL_refusesAny_404 (by decide) ?_
  obtain ⟨k3, hok⟩ := hok
  refine g_callV (cr_chargeInU l G x cx o st b pf g fo fst fb fp fg (-1) (-1) k3) hx hb hml hown hts hK hP hD hS hA gL_refusesAny_X6_chargeIn rfl (n := 2) (by decide +kernel) rfl ⟨Nat.le_of_ble_eq_true rfl, Nat.le_of_ble_eq_true rfl⟩ [0, 1, 2, 3, 4, 5, 6, 7, 8, 9, 10] rfl (by decide) 0 rfl (ci := 6) rfl hl.1 rfl (Nat.le_of_ble_eq_true rfl) ⟨Nat.zero_le _, Nat.zero_le _⟩ dL_refusesAny_405 (fun H locs hP hD hS => ?_)
  have hP : va_P G.1 vwCl (List.flatten [CW G x cx, OW G (fun k => x (k + 1)) o, AW G (x 2) 9 st, BW G (fun k => x (k + 3)) b, PW G (fun k => x (k + 11)) pf, LW G (fun k => x (k + 16)) g, OW G (fun k => x (k + 20)) fo, AW G (x 21) 9 fst, BW G (fun k => x (k + 22)) fb, PW G (fun k => x (k + 30)) fp, LW G (fun k => x (k + 35)) fg, HGW G (fun k => x (k + 58)) hh, TW G (fun k => x (k + 136)) t]) H := hP
  have hD : va_D A (List.flatten [CW G x cx, OW G (fun k => x (k + 1)) o, AW G (x 2) 9 st, BW G (fun k => x (k + 3)) b, PW G (fun k => x (k + 11)) pf, LW G (fun k => x (k + 16)) g, OW G (fun k => x (k + 20)) fo, AW G (x 21) 9 fst, BW G (fun k => x (k + 22)) fb, PW G (fun k => x (k + 30)) fp, LW G (fun k => x (k + 35)) fg, HGW G (fun k => x (k + 58)) hh, TW G (fun k => x (k + 136)) t]) := hD
  refine lv_iconst (v := (-1)) hx hb dL_refusesAny_408 (by decide) ?_
  refine lv_icmp_ne (tgt := 433) hx hb dL_refusesAny_409 (by decide) (fun c => absurd c (by decide)) (fun _ => ?_)
  refine lv_aload_n hx hb dL_refusesAny_412 rfl (lv_at hl 4 rfl) ?_
  refine lv_iconst (v := 0) hx hb dL_refusesAny_413 (by decide) ?_
  refine lv_iload_n hx hb dL_refusesAny_414 rfl (lv_at hl 5 rfl) ?_
  refine lv_if_ne (tgt := 422) hx hb dL_refusesAny_415 (by decide) (fun c => absurd c (by decide)) (fun _ => ?_)
  refine lv_iconst (v := (-1)) hx hb dL_refusesAny_418 (by decide) ?_
  refine lv_goto (tgt := 425) hx hb dL_refusesAny_419 (by decide) ?_
  obtain ⟨k4, hok⟩ := hok
  refine g_callV (cr_chargeInB l G x cx o st b pf g fo fst fb fp fg 0 (-1) k4) hx hb hml hown hts hK hP hD hS hA gL_refusesAny_X6_chargeIn rfl (n := 2) (by decide +kernel) rfl ⟨Nat.le_of_ble_eq_true rfl, Nat.le_of_ble_eq_true rfl⟩ [0, 1, 2, 3, 4, 5, 6, 7, 8, 9, 10] rfl (by decide) 0 rfl (ci := 6) rfl hl.1 rfl (Nat.le_of_ble_eq_true rfl) ⟨Nat.zero_le _, Nat.zero_le _⟩ dL_refusesAny_425 (fun H locs hP hD hS => ?_)
  have hP : va_P G.1 vwCl (List.flatten [CW G x cx, OW G (fun k => x (k + 1)) o, AW G (x 2) 9 st, BW G (fun k => x (k + 3)) b, PW G (fun k => x (k + 11)) pf, LW G (fun k => x (k + 16)) g, OW G (fun k => x (k + 20)) fo, AW G (x 21) 9 fst, BW G (fun k => x (k + 22)) fb, PW G (fun k => x (k + 30)) fp, LW G (fun k => x (k + 35)) fg, HGW G (fun k => x (k + 58)) hh, TW G (fun k => x (k + 136)) t]) H := hP
  have hD : va_D A (List.flatten [CW G x cx, OW G (fun k => x (k + 1)) o, AW G (x 2) 9 st, BW G (fun k => x (k + 3)) b, PW G (fun k => x (k + 11)) pf, LW G (fun k => x (k + 16)) g, OW G (fun k => x (k + 20)) fo, AW G (x 21) 9 fst, BW G (fun k => x (k + 22)) fb, PW G (fun k => x (k + 30)) fp, LW G (fun k => x (k + 35)) fg, HGW G (fun k => x (k + 58)) hh, TW G (fun k => x (k + 136)) t]) := hD
  refine lv_bipush (v := (-2)) hx hb dL_refusesAny_428 (by decide) ?_
  refine lv_icmp_eq (tgt := 435) hx hb dL_refusesAny_430 (by decide) (fun _ => ?_) (fun c => absurd c (by decide))
  refine lv_aload_n hx hb dL_refusesAny_435 rfl (lv_at hl 4 rfl) ?_
  refine lv_iload_n hx hb dL_refusesAny_436 rfl (lv_at hl 5 rfl) ?_
  refine lv_if_ne (tgt := 444) hx hb dL_refusesAny_437 (by decide) (fun c => absurd c (by decide)) (fun _ => ?_)
  refine lv_iconst (v := (-1)) hx hb dL_refusesAny_440 (by decide) ?_
  refine lv_goto (tgt := 445) hx hb dL_refusesAny_441 (by decide) ?_
  refine lv_iload_n hx hb dL_refusesAny_445 rfl (lv_at hl 5 rfl) ?_
  refine lv_if_ne (tgt := 453) hx hb dL_refusesAny_446 (by decide) (fun c => absurd c (by decide)) (fun _ => ?_)
  refine lv_iconst (v := 0) hx hb dL_refusesAny_449 (by decide) ?_
  refine lv_goto (tgt := 454) hx hb dL_refusesAny_450 (by decide) ?_
  obtain ⟨k5, hok⟩ := hok
  refine g_callV (cr_eventB l G x cx o st b pf g (-1) 0 k5) hx hb hml hown hts hK hP hD hS hA gL_refusesAny_X6_event rfl (n := 2) (by decide +kernel) rfl ⟨Nat.le_of_ble_eq_true rfl, Nat.le_of_ble_eq_true rfl⟩ [0, 1, 2, 3, 4, 5] rfl (by decide) 0 rfl (ci := 6) rfl hl.1 rfl (Nat.le_of_ble_eq_true rfl) ⟨Nat.zero_le _, Nat.zero_le _⟩ dL_refusesAny_454 (fun H locs hP hD hS => ?_)
  have hP : va_P G.1 vwCl (List.flatten [CW G x cx, OW G (fun k => x (k + 1)) o, AW G (x 2) 9 st, BW G (fun k => x (k + 3)) b, PW G (fun k => x (k + 11)) pf, LW G (fun k => x (k + 16)) g, OW G (fun k => x (k + 20)) fo, AW G (x 21) 9 fst, BW G (fun k => x (k + 22)) fb, PW G (fun k => x (k + 30)) fp, LW G (fun k => x (k + 35)) fg, HGW G (fun k => x (k + 58)) hh, TW G (fun k => x (k + 136)) t]) H := hP
  have hD : va_D A (List.flatten [CW G x cx, OW G (fun k => x (k + 1)) o, AW G (x 2) 9 st, BW G (fun k => x (k + 3)) b, PW G (fun k => x (k + 11)) pf, LW G (fun k => x (k + 16)) g, OW G (fun k => x (k + 20)) fo, AW G (x 21) 9 fst, BW G (fun k => x (k + 22)) fb, PW G (fun k => x (k + 30)) fp, LW G (fun k => x (k + 35)) fg, HGW G (fun k => x (k + 58)) hh, TW G (fun k => x (k + 136)) t]) := hD
  refine lv_bipush (v := (-2)) hx hb dL_refusesAny_457 (by decide) ?_
  refine lv_icmp_ne (tgt := 563) hx hb dL_refusesAny_459 (by decide) (fun c => absurd c (by decide)) (fun _ => ?_)
  refine lv_aload_n hx hb dL_refusesAny_462 rfl (lv_at hl 4 rfl) ?_
  refine lv_bipush (v := 10) hx hb dL_refusesAny_463 (by decide) ?_
  refine lv_iconst (v := 0) hx hb dL_refusesAny_465 (by decide) ?_
  obtain ⟨k6, hok⟩ := hok
  refine g_callV (cr_eventN l G x cx o st b pf g 10 0 k6) hx hb hml hown hts hK hP hD hS hA gL_refusesAny_X6_event rfl (n := 2) (by decide +kernel) rfl ⟨Nat.le_of_ble_eq_true rfl, Nat.le_of_ble_eq_true rfl⟩ [0, 1, 2, 3, 4, 5] rfl (by decide) 0 rfl (ci := 6) rfl hl.1 rfl (Nat.le_of_ble_eq_true rfl) ⟨Nat.zero_le _, Nat.zero_le _⟩ dL_refusesAny_466 (fun H locs hP hD hS => ?_)
  have hP : va_P G.1 vwCl (List.flatten [CW G x cx, OW G (fun k => x (k + 1)) o, AW G (x 2) 9 st, BW G (fun k => x (k + 3)) b, PW G (fun k => x (k + 11)) pf, LW G (fun k => x (k + 16)) g, OW G (fun k => x (k + 20)) fo, AW G (x 21) 9 fst, BW G (fun k => x (k + 22)) fb, PW G (fun k => x (k + 30)) fp, LW G (fun k => x (k + 35)) fg, HGW G (fun k => x (k + 58)) hh, TW G (fun k => x (k + 136)) t]) H := hP
  have hD : va_D A (List.flatten [CW G x cx, OW G (fun k => x (k + 1)) o, AW G (x 2) 9 st, BW G (fun k => x (k + 3)) b, PW G (fun k => x (k + 11)) pf, LW G (fun k => x (k + 16)) g, OW G (fun k => x (k + 20)) fo, AW G (x 21) 9 fst, BW G (fun k => x (k + 22)) fb, PW G (fun k => x (k + 30)) fp, LW G (fun k => x (k + 35)) fg, HGW G (fun k => x (k + 58)) hh, TW G (fun k => x (k + 136)) t]) := hD
  refine lv_bipush (v := (-5)) hx hb dL_refusesAny_469 (by decide) ?_
  refine lv_icmp_ne (tgt := 563) hx hb dL_refusesAny_471 (by decide) (fun c => absurd c (by decide)) (fun _ => ?_)
  exact c_L_refusesAny0_7 l G z x cx o st b pf g fo fst fb fp fg hh t hx hb hml hr hts hown hlocks hK hA hZ hok hP hD hS (lv_sub hl [0, 1, 2, 3, 4, 5] rfl)
set_option maxHeartbeats 4000000 in
set_option maxRecDepth 100000 in
theorem c_L_refusesAny0_5 (l : Launch) (G : gG) (z : Nat × Nat × Nat) (x : Nat → Nat) (cx : (Nat → Int32)) (o : (Nat → Int32)) (st : (Nat → Int32)) (b : (Nat → Nat → Int32)) (pf : (Nat → Nat → Int32)) (g : (Nat → Nat → Int32)) (fo : (Nat → Int32)) (fst : (Nat → Int32)) (fb : (Nat → Nat → Int32)) (fp : (Nat → Nat → Int32)) (fg : (Nat → Nat → Int32)) (hh : HVal) (t : (Nat → Nat → Int32)) {p : Program} {e : Env} {s : State} {m : MethodId} {below : List Frame} {meth : Method} {c : Code} {A : Nat → Prop} {H : Heap} {locs : List Loc} {ls : Array Slot} (hx : p.tables.exec = Jvm.exec) (hb : c.code = cL_refusesAny) (hml : c.maxLocals = 6) (hr : meth.sig.returnType = (some .boolean)) (hts : ∀ w ∈ wsL_refusesAny, w.before (List.toArray [.ref (x 0), .int 0]) s = true) (hown : s.vm.findClass RL = some m.cls) (hlocks : meth.locks = false) (hK : gK G s) (hA : ∀ q : Nat, s.heap.size ≤ q → A q) (hZ : gZ z A s) (hok : (rok_setB o st b pf g hh 8 (-1)) ∧ (rok_settingV 8) ∧ (rok_setN o st b pf g hh 8 ((st (8 : Int32).toNatClampNeg + 1000) - 1000)) ∧ (rok_cellU st b (-1) 99) ∧ (rok_cellB st b 0 (-1)) ∧ (rok_settingU (-1)) ∧ (rok_stageU pf (-1) 99) ∧ (rok_voltage st b (-1)) ∧ (rok_chargeInU o st b pf g (-1) (-1)) ∧ (rok_chargeInB o st b pf g 0 (-1)) ∧ (rok_eventB g (-1) 0) ∧ (rok_eventN g 10 0) ∧ (rok_countB b (-1)) ∧ (rok_count3 b o) ∧ (rok_warmest o st b pf g fo fst fb fp fg) ∧ (rok_count3 b o) ∧ (rok_count3 b o) ∧ (rok_stop o hh) ∧ True) (hP : va_P G.1 vwCl (List.flatten [CW G x cx, OW G (fun k => x (k + 1)) o, AW G (x 2) 9 st, BW G (fun k => x (k + 3)) b, PW G (fun k => x (k + 11)) pf, LW G (fun k => x (k + 16)) g, OW G (fun k => x (k + 20)) fo, AW G (x 21) 9 fst, BW G (fun k => x (k + 22)) fb, PW G (fun k => x (k + 30)) fp, LW G (fun k => x (k + 35)) fg, HGW G (fun k => x (k + 58)) hh, TW G (fun k => x (k + 136)) t]) H) (hD : va_D A (List.flatten [CW G x cx, OW G (fun k => x (k + 1)) o, AW G (x 2) 9 st, BW G (fun k => x (k + 3)) b, PW G (fun k => x (k + 11)) pf, LW G (fun k => x (k + 16)) g, OW G (fun k => x (k + 20)) fo, AW G (x 21) 9 fst, BW G (fun k => x (k + 22)) fb, PW G (fun k => x (k + 30)) fp, LW G (fun k => x (k + 35)) fg, HGW G (fun k => x (k + 58)) hh, TW G (fun k => x (k + 136)) t])) (hS : va_S A s.heap H locs) (hl : lv_has ls 6 [(5, .int 50), (4, .int 0), (3, .int 8), (2, .int (-1)), (0, .ref (x 0)), (1, .int 0)]) : W p l e { frames := 8, cells := 0, slots := 0, locals := 164 } s m (List.toArray [.ref (x 0), .int 0]) below meth c H locs 0 0 (gQ G below (List.toArray [.ref (x 0), .int 0]) s (some (.int 1)) [CW G x cx, OW G (fun k => x (k + 1)) o, AW G (x 2) 9 st, BW G (fun k => x (k + 3)) b, PW G (fun k => x (k + 11)) pf, LW G (fun k => x (k + 16)) g, OW G (fun k => x (k + 20)) fo, AW G (x 21) 9 fst, BW G (fun k => x (k + 22)) fb, PW G (fun k => x (k + 30)) fp, LW G (fun k => x (k + 35)) fg, HGW G (fun k => x (k + 58)) hh, TW G (fun k => x (k + 136)) t] A) (F0 m 252 ls []) := by
  refine lv_aload_n hx hb dL_refusesAny_252 rfl (lv_at hl 4 rfl) ?_
  refine lv_iload_n hx hb dL_refusesAny_253 rfl (lv_at hl 2 rfl) ?_
  refine lv_iload_n hx hb dL_refusesAny_254 rfl (lv_at hl 5 rfl) ?_
  refine lv_if_ne (tgt := 265) hx hb dL_refusesAny_255 (by decide) (fun c => absurd c (by decide)) (fun _ => ?_)
  refine lv_iload hx hb dL_refusesAny_258 (lv_at hl 1 rfl) ?_
  refine lv_iconst (v := 1) hx hb dL_refusesAny_260 (by decide) ?_
  refine lv_isub hx hb dL_refusesAny_261 ?_
  refine g_topE (y := (-1)) (by decide) ?_
  refine lv_goto (tgt := 269) hx hb dL_refusesAny_262 (by decide) ?_
  obtain ⟨k1, hok⟩ := hok
  refine g_callZ (cr_setB l G z x cx o st b pf g hh 8 (-1) k1) hx hb hml hown hts hK hP hD hS hA hZ gL_refusesAny_X6_set rfl (n := 2) (by decide +kernel) rfl ⟨Nat.le_of_ble_eq_true rfl, Nat.le_of_ble_eq_true rfl⟩ [0, 1, 2, 3, 4, 5, 11] rfl (by decide) 0 rfl (ci := 6) rfl hl.1 rfl (Nat.le_of_ble_eq_true rfl) ⟨Nat.zero_le _, Nat.zero_le _⟩ dL_refusesAny_269 (fun H locs hP hD hS => ?_)
  have hP : va_P G.1 vwCl (List.flatten [CW G x cx, OW G (fun k => x (k + 1)) o, AW G (x 2) 9 st, BW G (fun k => x (k + 3)) b, PW G (fun k => x (k + 11)) pf, LW G (fun k => x (k + 16)) g, OW G (fun k => x (k + 20)) fo, AW G (x 21) 9 fst, BW G (fun k => x (k + 22)) fb, PW G (fun k => x (k + 30)) fp, LW G (fun k => x (k + 35)) fg, HGW G (fun k => x (k + 58)) hh, TW G (fun k => x (k + 136)) t]) H := hP
  have hD : va_D A (List.flatten [CW G x cx, OW G (fun k => x (k + 1)) o, AW G (x 2) 9 st, BW G (fun k => x (k + 3)) b, PW G (fun k => x (k + 11)) pf, LW G (fun k => x (k + 16)) g, OW G (fun k => x (k + 20)) fo, AW G (x 21) 9 fst, BW G (fun k => x (k + 22)) fb, PW G (fun k => x (k + 30)) fp, LW G (fun k => x (k + 35)) fg, HGW G (fun k => x (k + 58)) hh, TW G (fun k => x (k + 136)) t]) := hD
  refine lv_bipush (v := (-2)) hx hb dL_refusesAny_272 (by decide) ?_
  refine lv_icmp_ne (tgt := 296) hx hb dL_refusesAny_274 (by decide) (fun c => absurd c (by decide)) (fun _ => ?_)
  refine lv_aload_n hx hb dL_refusesAny_277 rfl (lv_at hl 4 rfl) ?_
  refine lv_iload_n hx hb dL_refusesAny_278 rfl (lv_at hl 2 rfl) ?_
  refine lv_aload_n hx hb dL_refusesAny_279 rfl (lv_at hl 4 rfl) ?_
  refine lv_iload_n hx hb dL_refusesAny_280 rfl (lv_at hl 2 rfl) ?_
  obtain ⟨k2, hok⟩ := hok
  refine g_callV (cr_settingV l G x cx o st b pf g 8 k2) hx hb hml hown hts hK hP hD hS hA gL_refusesAny_X6_setting rfl (n := 1) (by decide +kernel) rfl ⟨Nat.le_of_ble_eq_true rfl, Nat.le_of_ble_eq_true rfl⟩ [0, 1, 2, 3, 4, 5] rfl (by decide) 0 rfl (ci := 6) rfl hl.1 rfl (Nat.le_of_ble_eq_true rfl) ⟨Nat.zero_le _, Nat.zero_le _⟩ dL_refusesAny_281 (fun H locs hP hD hS => ?_)
  have hP : va_P G.1 vwCl (List.flatten [CW G x cx, OW G (fun k => x (k + 1)) o, AW G (x 2) 9 st, BW G (fun k => x (k + 3)) b, PW G (fun k => x (k + 11)) pf, LW G (fun k => x (k + 16)) g, OW G (fun k => x (k + 20)) fo, AW G (x 21) 9 fst, BW G (fun k => x (k + 22)) fb, PW G (fun k => x (k + 30)) fp, LW G (fun k => x (k + 35)) fg, HGW G (fun k => x (k + 58)) hh, TW G (fun k => x (k + 136)) t]) H := hP
  have hD : va_D A (List.flatten [CW G x cx, OW G (fun k => x (k + 1)) o, AW G (x 2) 9 st, BW G (fun k => x (k + 3)) b, PW G (fun k => x (k + 11)) pf, LW G (fun k => x (k + 16)) g, OW G (fun k => x (k + 20)) fo, AW G (x 21) 9 fst, BW G (fun k => x (k + 22)) fb, PW G (fun k => x (k + 30)) fp, LW G (fun k => x (k + 35)) fg, HGW G (fun k => x (k + 58)) hh, TW G (fun k => x (k + 136)) t]) := hD
  refine lv_sipush (v := 1000) hx hb dL_refusesAny_284 (by decide) ?_
  refine lv_isub hx hb dL_refusesAny_287 ?_
  obtain ⟨k3, hok⟩ := hok
  refine g_callZ (cr_setN l G z x cx o st b pf g hh 8 ((st (8 : Int32).toNatClampNeg + 1000) - 1000) k3) hx hb hml hown hts hK hP hD hS hA hZ gL_refusesAny_X6_set rfl (n := 2) (by decide +kernel) rfl ⟨Nat.le_of_ble_eq_true rfl, Nat.le_of_ble_eq_true rfl⟩ [0, 1, 2, 3, 4, 5, 11] rfl (by decide) 0 rfl (ci := 6) rfl hl.1 rfl (Nat.le_of_ble_eq_true rfl) ⟨Nat.zero_le _, Nat.zero_le _⟩ dL_refusesAny_288 (fun H locs hP hD hS => ?_)
  have hP : va_P G.1 vwCl (List.flatten [CW G x cx, OW G (fun k => x (k + 1)) o, AW G (x 2) 9 st, BW G (fun k => x (k + 3)) b, PW G (fun k => x (k + 11)) pf, LW G (fun k => x (k + 16)) g, OW G (fun k => x (k + 20)) fo, AW G (x 21) 9 fst, BW G (fun k => x (k + 22)) fb, PW G (fun k => x (k + 30)) fp, LW G (fun k => x (k + 35)) fg, HGW G (fun k => x (k + 58)) hh, TW G (fun k => x (k + 136)) t]) H := hP
  have hD : va_D A (List.flatten [CW G x cx, OW G (fun k => x (k + 1)) o, AW G (x 2) 9 st, BW G (fun k => x (k + 3)) b, PW G (fun k => x (k + 11)) pf, LW G (fun k => x (k + 16)) g, OW G (fun k => x (k + 20)) fo, AW G (x 21) 9 fst, BW G (fun k => x (k + 22)) fb, PW G (fun k => x (k + 30)) fp, LW G (fun k => x (k + 35)) fg, HGW G (fun k => x (k + 58)) hh, TW G (fun k => x (k + 136)) t]) := hD
  refine lv_bipush (v := (-5)) hx hb dL_refusesAny_291 (by decide) ?_
  refine lv_icmp_eq (tgt := 298) hx hb dL_refusesAny_293 (by decide) (fun _ => ?_) (fun c => absurd c (by decide))
  refine lv_iinc (v := 9) (lv' := [(3, .int 9), (5, .int 50), (4, .int 0), (2, .int (-1)), (0, .ref (x 0)), (1, .int 0)]) hx hb dL_refusesAny_298 hl (k := 2) rfl (by decide) (by decide) rfl (fun ls hl => ?_)
  refine lv_goto (tgt := 135) hx hb dL_refusesAny_301 (by decide) ?_
  refine lv_iload_n hx hb dL_refusesAny_135 rfl (lv_at hl 0 rfl) ?_
  refine lv_bipush (v := 9) hx hb dL_refusesAny_136 (by decide) ?_
  refine lv_icmp_ge (tgt := 304) hx hb dL_refusesAny_138 (by decide) (fun _ => ?_) (fun c => absurd c (by decide))
  refine lv_aload_n hx hb dL_refusesAny_304 rfl (lv_at hl 4 rfl) ?_
  refine lv_iload_n hx hb dL_refusesAny_305 rfl (lv_at hl 5 rfl) ?_
  refine lv_if_ne (tgt := 313) hx hb dL_refusesAny_306 (by decide) (fun c => absurd c (by decide)) (fun _ => ?_)
  refine lv_iconst (v := (-1)) hx hb dL_refusesAny_309 (by decide) ?_
  refine lv_goto (tgt := 318) hx hb dL_refusesAny_310 (by decide) ?_
  refine lv_bipush (v := 99) hx hb dL_refusesAny_318 (by decide) ?_
  obtain ⟨k4, hok⟩ := hok
  refine g_callV (cr_cellU l G x cx o st b pf g (-1) 99 k4) hx hb hml hown hts hK hP hD hS hA gL_refusesAny_X6_cell rfl (n := 2) (by decide +kernel) rfl ⟨Nat.le_of_ble_eq_true rfl, Nat.le_of_ble_eq_true rfl⟩ [0, 1, 2, 3, 4, 5] rfl (by decide) 0 rfl (ci := 6) rfl hl.1 rfl (Nat.le_of_ble_eq_true rfl) ⟨Nat.zero_le _, Nat.zero_le _⟩ dL_refusesAny_320 (fun H locs hP hD hS => ?_)
  have hP : va_P G.1 vwCl (List.flatten [CW G x cx, OW G (fun k => x (k + 1)) o, AW G (x 2) 9 st, BW G (fun k => x (k + 3)) b, PW G (fun k => x (k + 11)) pf, LW G (fun k => x (k + 16)) g, OW G (fun k => x (k + 20)) fo, AW G (x 21) 9 fst, BW G (fun k => x (k + 22)) fb, PW G (fun k => x (k + 30)) fp, LW G (fun k => x (k + 35)) fg, HGW G (fun k => x (k + 58)) hh, TW G (fun k => x (k + 136)) t]) H := hP
  have hD : va_D A (List.flatten [CW G x cx, OW G (fun k => x (k + 1)) o, AW G (x 2) 9 st, BW G (fun k => x (k + 3)) b, PW G (fun k => x (k + 11)) pf, LW G (fun k => x (k + 16)) g, OW G (fun k => x (k + 20)) fo, AW G (x 21) 9 fst, BW G (fun k => x (k + 22)) fb, PW G (fun k => x (k + 30)) fp, LW G (fun k => x (k + 35)) fg, HGW G (fun k => x (k + 58)) hh, TW G (fun k => x (k + 136)) t]) := hD
  refine lv_iconst (v := (-1)) hx hb dL_refusesAny_323 (by decide) ?_
  refine lv_icmp_ne (tgt := 433) hx hb dL_refusesAny_324 (by decide) (fun c => absurd c (by decide)) (fun _ => ?_)
  refine lv_aload_n hx hb dL_refusesAny_327 rfl (lv_at hl 4 rfl) ?_
  refine lv_iconst (v := 0) hx hb dL_refusesAny_328 (by decide) ?_
  refine lv_iload_n hx hb dL_refusesAny_329 rfl (lv_at hl 3 rfl) ?_
  obtain ⟨k5, hok⟩ := hok
  refine g_callV (cr_cellB l G x cx o st b pf g 0 (-1) k5) hx hb hml hown hts hK hP hD hS hA gL_refusesAny_X6_cell rfl (n := 2) (by decide +kernel) rfl ⟨Nat.le_of_ble_eq_true rfl, Nat.le_of_ble_eq_true rfl⟩ [0, 1, 2, 3, 4, 5] rfl (by decide) 0 rfl (ci := 6) rfl hl.1 rfl (Nat.le_of_ble_eq_true rfl) ⟨Nat.zero_le _, Nat.zero_le _⟩ dL_refusesAny_330 (fun H locs hP hD hS => ?_)
  have hP : va_P G.1 vwCl (List.flatten [CW G x cx, OW G (fun k => x (k + 1)) o, AW G (x 2) 9 st, BW G (fun k => x (k + 3)) b, PW G (fun k => x (k + 11)) pf, LW G (fun k => x (k + 16)) g, OW G (fun k => x (k + 20)) fo, AW G (x 21) 9 fst, BW G (fun k => x (k + 22)) fb, PW G (fun k => x (k + 30)) fp, LW G (fun k => x (k + 35)) fg, HGW G (fun k => x (k + 58)) hh, TW G (fun k => x (k + 136)) t]) H := hP
  have hD : va_D A (List.flatten [CW G x cx, OW G (fun k => x (k + 1)) o, AW G (x 2) 9 st, BW G (fun k => x (k + 3)) b, PW G (fun k => x (k + 11)) pf, LW G (fun k => x (k + 16)) g, OW G (fun k => x (k + 20)) fo, AW G (x 21) 9 fst, BW G (fun k => x (k + 22)) fb, PW G (fun k => x (k + 30)) fp, LW G (fun k => x (k + 35)) fg, HGW G (fun k => x (k + 58)) hh, TW G (fun k => x (k + 136)) t]) := hD
  refine lv_bipush (v := (-2)) hx hb dL_refusesAny_333 (by decide) ?_
  refine lv_icmp_ne (tgt := 433) hx hb dL_refusesAny_335 (by decide) (fun c => absurd c (by decide)) (fun _ => ?_)
  refine lv_aload_n hx hb dL_refusesAny_338 rfl (lv_at hl 4 rfl) ?_
  refine lv_iload_n hx hb dL_refusesAny_339 rfl (lv_at hl 3 rfl) ?_
  obtain ⟨k6, hok⟩ := hok
  refine g_callV (cr_settingU l G x cx o st b pf g (-1) k6) hx hb hml hown hts hK hP hD hS hA gL_refusesAny_X6_setting rfl (n := 1) (by decide +kernel) rfl ⟨Nat.le_of_ble_eq_true rfl, Nat.le_of_ble_eq_true rfl⟩ [0, 1, 2, 3, 4, 5] rfl (by decide) 0 rfl (ci := 6) rfl hl.1 rfl (Nat.le_of_ble_eq_true rfl) ⟨Nat.zero_le _, Nat.zero_le _⟩ dL_refusesAny_340 (fun H locs hP hD hS => ?_)
  have hP : va_P G.1 vwCl (List.flatten [CW G x cx, OW G (fun k => x (k + 1)) o, AW G (x 2) 9 st, BW G (fun k => x (k + 3)) b, PW G (fun k => x (k + 11)) pf, LW G (fun k => x (k + 16)) g, OW G (fun k => x (k + 20)) fo, AW G (x 21) 9 fst, BW G (fun k => x (k + 22)) fb, PW G (fun k => x (k + 30)) fp, LW G (fun k => x (k + 35)) fg, HGW G (fun k => x (k + 58)) hh, TW G (fun k => x (k + 136)) t]) H := hP
  have hD : va_D A (List.flatten [CW G x cx, OW G (fun k => x (k + 1)) o, AW G (x 2) 9 st, BW G (fun k => x (k + 3)) b, PW G (fun k => x (k + 11)) pf, LW G (fun k => x (k + 16)) g, OW G (fun k => x (k + 20)) fo, AW G (x 21) 9 fst, BW G (fun k => x (k + 22)) fb, PW G (fun k => x (k + 30)) fp, LW G (fun k => x (k + 35)) fg, HGW G (fun k => x (k + 58)) hh, TW G (fun k => x (k + 136)) t]) := hD
  refine lv_iconst (v := (-1)) hx hb dL_refusesAny_343 (by decide) ?_
  refine lv_icmp_ne (tgt := 433) hx hb dL_refusesAny_344 (by decide) (fun c => absurd c (by decide)) (fun _ => ?_)
  exact c_L_refusesAny0_6 l G z x cx o st b pf g fo fst fb fp fg hh t hx hb hml hr hts hown hlocks hK hA hZ hok hP hD hS (lv_sub hl [0, 1, 2, 3, 4, 5] rfl)
set_option maxHeartbeats 4000000 in
set_option maxRecDepth 100000 in
theorem c_L_refusesAny0_4 (l : Launch) (G : gG) (z : Nat × Nat × Nat) (x : Nat → Nat) (cx : (Nat → Int32)) (o : (Nat → Int32)) (st : (Nat → Int32)) (b : (Nat → Nat → Int32)) (pf : (Nat → Nat → Int32)) (g : (Nat → Nat → Int32)) (fo : (Nat → Int32)) (fst : (Nat → Int32)) (fb : (Nat → Nat → Int32)) (fp : (Nat → Nat → Int32)) (fg : (Nat → Nat → Int32)) (hh : HVal) (t : (Nat → Nat → Int32)) {p : Program} {e : Env} {s : State} {m : MethodId} {below : List Frame} {meth : Method} {c : Code} {A : Nat → Prop} {H : Heap} {locs : List Loc} {ls : Array Slot} (hx : p.tables.exec = Jvm.exec) (hb : c.code = cL_refusesAny) (hml : c.maxLocals = 6) (hr : meth.sig.returnType = (some .boolean)) (hts : ∀ w ∈ wsL_refusesAny, w.before (List.toArray [.ref (x 0), .int 0]) s = true) (hown : s.vm.findClass RL = some m.cls) (hlocks : meth.locks = false) (hK : gK G s) (hA : ∀ q : Nat, s.heap.size ≤ q → A q) (hZ : gZ z A s) (hok : (rok_setB o st b pf g hh 6 (-31)) ∧ (rok_settingV 6) ∧ (rok_setN o st b pf g hh 6 ((st (6 : Int32).toNatClampNeg + 1000) - 1000)) ∧ (rok_setB o st b pf g hh 7 (-1)) ∧ (rok_settingV 7) ∧ (rok_setN o st b pf g hh 7 ((st (7 : Int32).toNatClampNeg + 1000) - 1000)) ∧ (rok_setB o st b pf g hh 8 (-1)) ∧ (rok_settingV 8) ∧ (rok_setN o st b pf g hh 8 ((st (8 : Int32).toNatClampNeg + 1000) - 1000)) ∧ (rok_cellU st b (-1) 99) ∧ (rok_cellB st b 0 (-1)) ∧ (rok_settingU (-1)) ∧ (rok_stageU pf (-1) 99) ∧ (rok_voltage st b (-1)) ∧ (rok_chargeInU o st b pf g (-1) (-1)) ∧ (rok_chargeInB o st b pf g 0 (-1)) ∧ (rok_eventB g (-1) 0) ∧ (rok_eventN g 10 0) ∧ (rok_countB b (-1)) ∧ (rok_count3 b o) ∧ (rok_warmest o st b pf g fo fst fb fp fg) ∧ (rok_count3 b o) ∧ (rok_count3 b o) ∧ (rok_stop o hh) ∧ True) (hP : va_P G.1 vwCl (List.flatten [CW G x cx, OW G (fun k => x (k + 1)) o, AW G (x 2) 9 st, BW G (fun k => x (k + 3)) b, PW G (fun k => x (k + 11)) pf, LW G (fun k => x (k + 16)) g, OW G (fun k => x (k + 20)) fo, AW G (x 21) 9 fst, BW G (fun k => x (k + 22)) fb, PW G (fun k => x (k + 30)) fp, LW G (fun k => x (k + 35)) fg, HGW G (fun k => x (k + 58)) hh, TW G (fun k => x (k + 136)) t]) H) (hD : va_D A (List.flatten [CW G x cx, OW G (fun k => x (k + 1)) o, AW G (x 2) 9 st, BW G (fun k => x (k + 3)) b, PW G (fun k => x (k + 11)) pf, LW G (fun k => x (k + 16)) g, OW G (fun k => x (k + 20)) fo, AW G (x 21) 9 fst, BW G (fun k => x (k + 22)) fb, PW G (fun k => x (k + 30)) fp, LW G (fun k => x (k + 35)) fg, HGW G (fun k => x (k + 58)) hh, TW G (fun k => x (k + 136)) t])) (hS : va_S A s.heap H locs) (hl : lv_has ls 6 [(5, .int 80), (4, .int (-30)), (3, .int 6), (2, .int (-1)), (0, .ref (x 0)), (1, .int 0)]) : W p l e { frames := 8, cells := 0, slots := 0, locals := 164 } s m (List.toArray [.ref (x 0), .int 0]) below meth c H locs 0 0 (gQ G below (List.toArray [.ref (x 0), .int 0]) s (some (.int 1)) [CW G x cx, OW G (fun k => x (k + 1)) o, AW G (x 2) 9 st, BW G (fun k => x (k + 3)) b, PW G (fun k => x (k + 11)) pf, LW G (fun k => x (k + 16)) g, OW G (fun k => x (k + 20)) fo, AW G (x 21) 9 fst, BW G (fun k => x (k + 22)) fb, PW G (fun k => x (k + 30)) fp, LW G (fun k => x (k + 35)) fg, HGW G (fun k => x (k + 58)) hh, TW G (fun k => x (k + 136)) t] A) (F0 m 252 ls []) := by
  refine lv_aload_n hx hb dL_refusesAny_252 rfl (lv_at hl 4 rfl) ?_
  refine lv_iload_n hx hb dL_refusesAny_253 rfl (lv_at hl 2 rfl) ?_
  refine lv_iload_n hx hb dL_refusesAny_254 rfl (lv_at hl 5 rfl) ?_
  refine lv_if_ne (tgt := 265) hx hb dL_refusesAny_255 (by decide) (fun c => absurd c (by decide)) (fun _ => ?_)
  refine lv_iload hx hb dL_refusesAny_258 (lv_at hl 1 rfl) ?_
  refine lv_iconst (v := 1) hx hb dL_refusesAny_260 (by decide) ?_
  refine lv_isub hx hb dL_refusesAny_261 ?_
  refine g_topE (y := (-31)) (by decide) ?_
  refine lv_goto (tgt := 269) hx hb dL_refusesAny_262 (by decide) ?_
  obtain ⟨k1, hok⟩ := hok
  refine g_callZ (cr_setB l G z x cx o st b pf g hh 6 (-31) k1) hx hb hml hown hts hK hP hD hS hA hZ gL_refusesAny_X6_set rfl (n := 2) (by decide +kernel) rfl ⟨Nat.le_of_ble_eq_true rfl, Nat.le_of_ble_eq_true rfl⟩ [0, 1, 2, 3, 4, 5, 11] rfl (by decide) 0 rfl (ci := 6) rfl hl.1 rfl (Nat.le_of_ble_eq_true rfl) ⟨Nat.zero_le _, Nat.zero_le _⟩ dL_refusesAny_269 (fun H locs hP hD hS => ?_)
  have hP : va_P G.1 vwCl (List.flatten [CW G x cx, OW G (fun k => x (k + 1)) o, AW G (x 2) 9 st, BW G (fun k => x (k + 3)) b, PW G (fun k => x (k + 11)) pf, LW G (fun k => x (k + 16)) g, OW G (fun k => x (k + 20)) fo, AW G (x 21) 9 fst, BW G (fun k => x (k + 22)) fb, PW G (fun k => x (k + 30)) fp, LW G (fun k => x (k + 35)) fg, HGW G (fun k => x (k + 58)) hh, TW G (fun k => x (k + 136)) t]) H := hP
  have hD : va_D A (List.flatten [CW G x cx, OW G (fun k => x (k + 1)) o, AW G (x 2) 9 st, BW G (fun k => x (k + 3)) b, PW G (fun k => x (k + 11)) pf, LW G (fun k => x (k + 16)) g, OW G (fun k => x (k + 20)) fo, AW G (x 21) 9 fst, BW G (fun k => x (k + 22)) fb, PW G (fun k => x (k + 30)) fp, LW G (fun k => x (k + 35)) fg, HGW G (fun k => x (k + 58)) hh, TW G (fun k => x (k + 136)) t]) := hD
  refine lv_bipush (v := (-2)) hx hb dL_refusesAny_272 (by decide) ?_
  refine lv_icmp_ne (tgt := 296) hx hb dL_refusesAny_274 (by decide) (fun c => absurd c (by decide)) (fun _ => ?_)
  refine lv_aload_n hx hb dL_refusesAny_277 rfl (lv_at hl 4 rfl) ?_
  refine lv_iload_n hx hb dL_refusesAny_278 rfl (lv_at hl 2 rfl) ?_
  refine lv_aload_n hx hb dL_refusesAny_279 rfl (lv_at hl 4 rfl) ?_
  refine lv_iload_n hx hb dL_refusesAny_280 rfl (lv_at hl 2 rfl) ?_
  obtain ⟨k2, hok⟩ := hok
  refine g_callV (cr_settingV l G x cx o st b pf g 6 k2) hx hb hml hown hts hK hP hD hS hA gL_refusesAny_X6_setting rfl (n := 1) (by decide +kernel) rfl ⟨Nat.le_of_ble_eq_true rfl, Nat.le_of_ble_eq_true rfl⟩ [0, 1, 2, 3, 4, 5] rfl (by decide) 0 rfl (ci := 6) rfl hl.1 rfl (Nat.le_of_ble_eq_true rfl) ⟨Nat.zero_le _, Nat.zero_le _⟩ dL_refusesAny_281 (fun H locs hP hD hS => ?_)
  have hP : va_P G.1 vwCl (List.flatten [CW G x cx, OW G (fun k => x (k + 1)) o, AW G (x 2) 9 st, BW G (fun k => x (k + 3)) b, PW G (fun k => x (k + 11)) pf, LW G (fun k => x (k + 16)) g, OW G (fun k => x (k + 20)) fo, AW G (x 21) 9 fst, BW G (fun k => x (k + 22)) fb, PW G (fun k => x (k + 30)) fp, LW G (fun k => x (k + 35)) fg, HGW G (fun k => x (k + 58)) hh, TW G (fun k => x (k + 136)) t]) H := hP
  have hD : va_D A (List.flatten [CW G x cx, OW G (fun k => x (k + 1)) o, AW G (x 2) 9 st, BW G (fun k => x (k + 3)) b, PW G (fun k => x (k + 11)) pf, LW G (fun k => x (k + 16)) g, OW G (fun k => x (k + 20)) fo, AW G (x 21) 9 fst, BW G (fun k => x (k + 22)) fb, PW G (fun k => x (k + 30)) fp, LW G (fun k => x (k + 35)) fg, HGW G (fun k => x (k + 58)) hh, TW G (fun k => x (k + 136)) t]) := hD
  refine lv_sipush (v := 1000) hx hb dL_refusesAny_284 (by decide) ?_
  refine lv_isub hx hb dL_refusesAny_287 ?_
  obtain ⟨k3, hok⟩ := hok
  refine g_callZ (cr_setN l G z x cx o st b pf g hh 6 ((st (6 : Int32).toNatClampNeg + 1000) - 1000) k3) hx hb hml hown hts hK hP hD hS hA hZ gL_refusesAny_X6_set rfl (n := 2) (by decide +kernel) rfl ⟨Nat.le_of_ble_eq_true rfl, Nat.le_of_ble_eq_true rfl⟩ [0, 1, 2, 3, 4, 5, 11] rfl (by decide) 0 rfl (ci := 6) rfl hl.1 rfl (Nat.le_of_ble_eq_true rfl) ⟨Nat.zero_le _, Nat.zero_le _⟩ dL_refusesAny_288 (fun H locs hP hD hS => ?_)
  have hP : va_P G.1 vwCl (List.flatten [CW G x cx, OW G (fun k => x (k + 1)) o, AW G (x 2) 9 st, BW G (fun k => x (k + 3)) b, PW G (fun k => x (k + 11)) pf, LW G (fun k => x (k + 16)) g, OW G (fun k => x (k + 20)) fo, AW G (x 21) 9 fst, BW G (fun k => x (k + 22)) fb, PW G (fun k => x (k + 30)) fp, LW G (fun k => x (k + 35)) fg, HGW G (fun k => x (k + 58)) hh, TW G (fun k => x (k + 136)) t]) H := hP
  have hD : va_D A (List.flatten [CW G x cx, OW G (fun k => x (k + 1)) o, AW G (x 2) 9 st, BW G (fun k => x (k + 3)) b, PW G (fun k => x (k + 11)) pf, LW G (fun k => x (k + 16)) g, OW G (fun k => x (k + 20)) fo, AW G (x 21) 9 fst, BW G (fun k => x (k + 22)) fb, PW G (fun k => x (k + 30)) fp, LW G (fun k => x (k + 35)) fg, HGW G (fun k => x (k + 58)) hh, TW G (fun k => x (k + 136)) t]) := hD
  refine lv_bipush (v := (-5)) hx hb dL_refusesAny_291 (by decide) ?_
  refine lv_icmp_eq (tgt := 298) hx hb dL_refusesAny_293 (by decide) (fun _ => ?_) (fun c => absurd c (by decide))
  refine lv_iinc (v := 7) (lv' := [(3, .int 7), (5, .int 80), (4, .int (-30)), (2, .int (-1)), (0, .ref (x 0)), (1, .int 0)]) hx hb dL_refusesAny_298 hl (k := 2) rfl (by decide) (by decide) rfl (fun ls hl => ?_)
  refine lv_goto (tgt := 135) hx hb dL_refusesAny_301 (by decide) ?_
  refine lv_iload_n hx hb dL_refusesAny_135 rfl (lv_at hl 0 rfl) ?_
  refine lv_bipush (v := 9) hx hb dL_refusesAny_136 (by decide) ?_
  refine lv_icmp_ge (tgt := 304) hx hb dL_refusesAny_138 (by decide) (fun c => absurd c (by decide)) (fun _ => ?_)
  refine lv_iload_n hx hb dL_refusesAny_141 rfl (lv_at hl 0 rfl) ?_
  refine lv_if_ne (tgt := 150) hx hb dL_refusesAny_142 (by decide) (fun _ => ?_) (fun c => absurd c (by decide))
  refine lv_iload_n hx hb dL_refusesAny_150 rfl (lv_at hl 0 rfl) ?_
  refine lv_iconst (v := 2) hx hb dL_refusesAny_151 (by decide) ?_
  refine lv_icmp_ne (tgt := 160) hx hb dL_refusesAny_152 (by decide) (fun _ => ?_) (fun c => absurd c (by decide))
  refine lv_iload_n hx hb dL_refusesAny_160 rfl (lv_at hl 0 rfl) ?_
  refine lv_iconst (v := 3) hx hb dL_refusesAny_161 (by decide) ?_
  refine lv_icmp_eq (tgt := 176) hx hb dL_refusesAny_162 (by decide) (fun c => absurd c (by decide)) (fun _ => ?_)
  refine lv_iload_n hx hb dL_refusesAny_165 rfl (lv_at hl 0 rfl) ?_
  refine lv_iconst (v := 5) hx hb dL_refusesAny_166 (by decide) ?_
  refine lv_icmp_eq (tgt := 176) hx hb dL_refusesAny_167 (by decide) (fun c => absurd c (by decide)) (fun _ => ?_)
  refine lv_iload_n hx hb dL_refusesAny_170 rfl (lv_at hl 0 rfl) ?_
  refine lv_bipush (v := 6) hx hb dL_refusesAny_171 (by decide) ?_
  refine lv_icmp_ne (tgt := 181) hx hb dL_refusesAny_173 (by decide) (fun _ => ?_) (fun c => absurd c (by decide))
  refine lv_iconst (v := 0) hx hb dL_refusesAny_181 (by decide) ?_
  refine lv_istore (lv' := [(4, .int 0), (3, .int 7), (5, .int 80), (2, .int (-1)), (0, .ref (x 0)), (1, .int 0)]) hx hb dL_refusesAny_182 hl (by decide) rfl (fun ls hl => ?_)
  refine lv_iload_n hx hb dL_refusesAny_184 rfl (lv_at hl 1 rfl) ?_
  refine lv_if_ne (tgt := 194) hx hb dL_refusesAny_185 (by decide) (fun _ => ?_) (fun c => absurd c (by decide))
  refine lv_iload_n hx hb dL_refusesAny_194 rfl (lv_at hl 1 rfl) ?_
  refine lv_iconst (v := 1) hx hb dL_refusesAny_195 (by decide) ?_
  refine lv_icmp_ne (tgt := 205) hx hb dL_refusesAny_196 (by decide) (fun _ => ?_) (fun c => absurd c (by decide))
  refine lv_iload_n hx hb dL_refusesAny_205 rfl (lv_at hl 1 rfl) ?_
  refine lv_iconst (v := 2) hx hb dL_refusesAny_206 (by decide) ?_
  refine lv_icmp_ne (tgt := 215) hx hb dL_refusesAny_207 (by decide) (fun _ => ?_) (fun c => absurd c (by decide))
  refine lv_iload_n hx hb dL_refusesAny_215 rfl (lv_at hl 1 rfl) ?_
  refine lv_iconst (v := 4) hx hb dL_refusesAny_216 (by decide) ?_
  refine lv_icmp_ne (tgt := 225) hx hb dL_refusesAny_217 (by decide) (fun _ => ?_) (fun c => absurd c (by decide))
  refine lv_iload_n hx hb dL_refusesAny_225 rfl (lv_at hl 1 rfl) ?_
  refine lv_bipush (v := 7) hx hb dL_refusesAny_226 (by decide) ?_
  refine lv_icmp_ne (tgt := 237) hx hb dL_refusesAny_228 (by decide) (fun c => absurd c (by decide)) (fun _ => ?_)
  refine lv_sipush (v := 500) hx hb dL_refusesAny_231 (by decide) ?_
  refine lv_goto (tgt := 250) hx hb dL_refusesAny_234 (by decide) ?_
  refine lv_istore (lv' := [(5, .int 500), (4, .int 0), (3, .int 7), (2, .int (-1)), (0, .ref (x 0)), (1, .int 0)]) hx hb dL_refusesAny_250 hl (by decide) rfl (fun ls hl => ?_)
  refine lv_aload_n hx hb dL_refusesAny_252 rfl (lv_at hl 4 rfl) ?_
  refine lv_iload_n hx hb dL_refusesAny_253 rfl (lv_at hl 2 rfl) ?_
  refine lv_iload_n hx hb dL_refusesAny_254 rfl (lv_at hl 5 rfl) ?_
  refine lv_if_ne (tgt := 265) hx hb dL_refusesAny_255 (by decide) (fun c => absurd c (by decide)) (fun _ => ?_)
  refine lv_iload hx hb dL_refusesAny_258 (lv_at hl 1 rfl) ?_
  refine lv_iconst (v := 1) hx hb dL_refusesAny_260 (by decide) ?_
  refine lv_isub hx hb dL_refusesAny_261 ?_
  refine g_topE (y := (-1)) (by decide) ?_
  refine lv_goto (tgt := 269) hx hb dL_refusesAny_262 (by decide) ?_
  obtain ⟨k4, hok⟩ := hok
  refine g_callZ (cr_setB l G z x cx o st b pf g hh 7 (-1) k4) hx hb hml hown hts hK hP hD hS hA hZ gL_refusesAny_X6_set rfl (n := 2) (by decide +kernel) rfl ⟨Nat.le_of_ble_eq_true rfl, Nat.le_of_ble_eq_true rfl⟩ [0, 1, 2, 3, 4, 5, 11] rfl (by decide) 0 rfl (ci := 6) rfl hl.1 rfl (Nat.le_of_ble_eq_true rfl) ⟨Nat.zero_le _, Nat.zero_le _⟩ dL_refusesAny_269 (fun H locs hP hD hS => ?_)
  have hP : va_P G.1 vwCl (List.flatten [CW G x cx, OW G (fun k => x (k + 1)) o, AW G (x 2) 9 st, BW G (fun k => x (k + 3)) b, PW G (fun k => x (k + 11)) pf, LW G (fun k => x (k + 16)) g, OW G (fun k => x (k + 20)) fo, AW G (x 21) 9 fst, BW G (fun k => x (k + 22)) fb, PW G (fun k => x (k + 30)) fp, LW G (fun k => x (k + 35)) fg, HGW G (fun k => x (k + 58)) hh, TW G (fun k => x (k + 136)) t]) H := hP
  have hD : va_D A (List.flatten [CW G x cx, OW G (fun k => x (k + 1)) o, AW G (x 2) 9 st, BW G (fun k => x (k + 3)) b, PW G (fun k => x (k + 11)) pf, LW G (fun k => x (k + 16)) g, OW G (fun k => x (k + 20)) fo, AW G (x 21) 9 fst, BW G (fun k => x (k + 22)) fb, PW G (fun k => x (k + 30)) fp, LW G (fun k => x (k + 35)) fg, HGW G (fun k => x (k + 58)) hh, TW G (fun k => x (k + 136)) t]) := hD
  refine lv_bipush (v := (-2)) hx hb dL_refusesAny_272 (by decide) ?_
  refine lv_icmp_ne (tgt := 296) hx hb dL_refusesAny_274 (by decide) (fun c => absurd c (by decide)) (fun _ => ?_)
  refine lv_aload_n hx hb dL_refusesAny_277 rfl (lv_at hl 4 rfl) ?_
  refine lv_iload_n hx hb dL_refusesAny_278 rfl (lv_at hl 2 rfl) ?_
  refine lv_aload_n hx hb dL_refusesAny_279 rfl (lv_at hl 4 rfl) ?_
  refine lv_iload_n hx hb dL_refusesAny_280 rfl (lv_at hl 2 rfl) ?_
  obtain ⟨k5, hok⟩ := hok
  refine g_callV (cr_settingV l G x cx o st b pf g 7 k5) hx hb hml hown hts hK hP hD hS hA gL_refusesAny_X6_setting rfl (n := 1) (by decide +kernel) rfl ⟨Nat.le_of_ble_eq_true rfl, Nat.le_of_ble_eq_true rfl⟩ [0, 1, 2, 3, 4, 5] rfl (by decide) 0 rfl (ci := 6) rfl hl.1 rfl (Nat.le_of_ble_eq_true rfl) ⟨Nat.zero_le _, Nat.zero_le _⟩ dL_refusesAny_281 (fun H locs hP hD hS => ?_)
  have hP : va_P G.1 vwCl (List.flatten [CW G x cx, OW G (fun k => x (k + 1)) o, AW G (x 2) 9 st, BW G (fun k => x (k + 3)) b, PW G (fun k => x (k + 11)) pf, LW G (fun k => x (k + 16)) g, OW G (fun k => x (k + 20)) fo, AW G (x 21) 9 fst, BW G (fun k => x (k + 22)) fb, PW G (fun k => x (k + 30)) fp, LW G (fun k => x (k + 35)) fg, HGW G (fun k => x (k + 58)) hh, TW G (fun k => x (k + 136)) t]) H := hP
  have hD : va_D A (List.flatten [CW G x cx, OW G (fun k => x (k + 1)) o, AW G (x 2) 9 st, BW G (fun k => x (k + 3)) b, PW G (fun k => x (k + 11)) pf, LW G (fun k => x (k + 16)) g, OW G (fun k => x (k + 20)) fo, AW G (x 21) 9 fst, BW G (fun k => x (k + 22)) fb, PW G (fun k => x (k + 30)) fp, LW G (fun k => x (k + 35)) fg, HGW G (fun k => x (k + 58)) hh, TW G (fun k => x (k + 136)) t]) := hD
  refine lv_sipush (v := 1000) hx hb dL_refusesAny_284 (by decide) ?_
  refine lv_isub hx hb dL_refusesAny_287 ?_
  obtain ⟨k6, hok⟩ := hok
  refine g_callZ (cr_setN l G z x cx o st b pf g hh 7 ((st (7 : Int32).toNatClampNeg + 1000) - 1000) k6) hx hb hml hown hts hK hP hD hS hA hZ gL_refusesAny_X6_set rfl (n := 2) (by decide +kernel) rfl ⟨Nat.le_of_ble_eq_true rfl, Nat.le_of_ble_eq_true rfl⟩ [0, 1, 2, 3, 4, 5, 11] rfl (by decide) 0 rfl (ci := 6) rfl hl.1 rfl (Nat.le_of_ble_eq_true rfl) ⟨Nat.zero_le _, Nat.zero_le _⟩ dL_refusesAny_288 (fun H locs hP hD hS => ?_)
  have hP : va_P G.1 vwCl (List.flatten [CW G x cx, OW G (fun k => x (k + 1)) o, AW G (x 2) 9 st, BW G (fun k => x (k + 3)) b, PW G (fun k => x (k + 11)) pf, LW G (fun k => x (k + 16)) g, OW G (fun k => x (k + 20)) fo, AW G (x 21) 9 fst, BW G (fun k => x (k + 22)) fb, PW G (fun k => x (k + 30)) fp, LW G (fun k => x (k + 35)) fg, HGW G (fun k => x (k + 58)) hh, TW G (fun k => x (k + 136)) t]) H := hP
  have hD : va_D A (List.flatten [CW G x cx, OW G (fun k => x (k + 1)) o, AW G (x 2) 9 st, BW G (fun k => x (k + 3)) b, PW G (fun k => x (k + 11)) pf, LW G (fun k => x (k + 16)) g, OW G (fun k => x (k + 20)) fo, AW G (x 21) 9 fst, BW G (fun k => x (k + 22)) fb, PW G (fun k => x (k + 30)) fp, LW G (fun k => x (k + 35)) fg, HGW G (fun k => x (k + 58)) hh, TW G (fun k => x (k + 136)) t]) := hD
  refine lv_bipush (v := (-5)) hx hb dL_refusesAny_291 (by decide) ?_
  refine lv_icmp_eq (tgt := 298) hx hb dL_refusesAny_293 (by decide) (fun _ => ?_) (fun c => absurd c (by decide))
  refine lv_iinc (v := 8) (lv' := [(3, .int 8), (5, .int 500), (4, .int 0), (2, .int (-1)), (0, .ref (x 0)), (1, .int 0)]) hx hb dL_refusesAny_298 hl (k := 2) rfl (by decide) (by decide) rfl (fun ls hl => ?_)
  refine lv_goto (tgt := 135) hx hb dL_refusesAny_301 (by decide) ?_
  refine lv_iload_n hx hb dL_refusesAny_135 rfl (lv_at hl 0 rfl) ?_
  refine lv_bipush (v := 9) hx hb dL_refusesAny_136 (by decide) ?_
  refine lv_icmp_ge (tgt := 304) hx hb dL_refusesAny_138 (by decide) (fun c => absurd c (by decide)) (fun _ => ?_)
  refine lv_iload_n hx hb dL_refusesAny_141 rfl (lv_at hl 0 rfl) ?_
  refine lv_if_ne (tgt := 150) hx hb dL_refusesAny_142 (by decide) (fun _ => ?_) (fun c => absurd c (by decide))
  refine lv_iload_n hx hb dL_refusesAny_150 rfl (lv_at hl 0 rfl) ?_
  refine lv_iconst (v := 2) hx hb dL_refusesAny_151 (by decide) ?_
  refine lv_icmp_ne (tgt := 160) hx hb dL_refusesAny_152 (by decide) (fun _ => ?_) (fun c => absurd c (by decide))
  refine lv_iload_n hx hb dL_refusesAny_160 rfl (lv_at hl 0 rfl) ?_
  refine lv_iconst (v := 3) hx hb dL_refusesAny_161 (by decide) ?_
  refine lv_icmp_eq (tgt := 176) hx hb dL_refusesAny_162 (by decide) (fun c => absurd c (by decide)) (fun _ => ?_)
  refine lv_iload_n hx hb dL_refusesAny_165 rfl (lv_at hl 0 rfl) ?_
  refine lv_iconst (v := 5) hx hb dL_refusesAny_166 (by decide) ?_
  refine lv_icmp_eq (tgt := 176) hx hb dL_refusesAny_167 (by decide) (fun c => absurd c (by decide)) (fun _ => ?_)
  refine lv_iload_n hx hb dL_refusesAny_170 rfl (lv_at hl 0 rfl) ?_
  refine lv_bipush (v := 6) hx hb dL_refusesAny_171 (by decide) ?_
  refine lv_icmp_ne (tgt := 181) hx hb dL_refusesAny_173 (by decide) (fun _ => ?_) (fun c => absurd c (by decide))
  refine lv_iconst (v := 0) hx hb dL_refusesAny_181 (by decide) ?_
  refine lv_istore (lv' := [(4, .int 0), (3, .int 8), (5, .int 500), (2, .int (-1)), (0, .ref (x 0)), (1, .int 0)]) hx hb dL_refusesAny_182 hl (by decide) rfl (fun ls hl => ?_)
  refine lv_iload_n hx hb dL_refusesAny_184 rfl (lv_at hl 1 rfl) ?_
  refine lv_if_ne (tgt := 194) hx hb dL_refusesAny_185 (by decide) (fun _ => ?_) (fun c => absurd c (by decide))
  refine lv_iload_n hx hb dL_refusesAny_194 rfl (lv_at hl 1 rfl) ?_
  refine lv_iconst (v := 1) hx hb dL_refusesAny_195 (by decide) ?_
  refine lv_icmp_ne (tgt := 205) hx hb dL_refusesAny_196 (by decide) (fun _ => ?_) (fun c => absurd c (by decide))
  refine lv_iload_n hx hb dL_refusesAny_205 rfl (lv_at hl 1 rfl) ?_
  refine lv_iconst (v := 2) hx hb dL_refusesAny_206 (by decide) ?_
  refine lv_icmp_ne (tgt := 215) hx hb dL_refusesAny_207 (by decide) (fun _ => ?_) (fun c => absurd c (by decide))
  refine lv_iload_n hx hb dL_refusesAny_215 rfl (lv_at hl 1 rfl) ?_
  refine lv_iconst (v := 4) hx hb dL_refusesAny_216 (by decide) ?_
  refine lv_icmp_ne (tgt := 225) hx hb dL_refusesAny_217 (by decide) (fun _ => ?_) (fun c => absurd c (by decide))
  refine lv_iload_n hx hb dL_refusesAny_225 rfl (lv_at hl 1 rfl) ?_
  refine lv_bipush (v := 7) hx hb dL_refusesAny_226 (by decide) ?_
  refine lv_icmp_ne (tgt := 237) hx hb dL_refusesAny_228 (by decide) (fun _ => ?_) (fun c => absurd c (by decide))
  refine lv_iload_n hx hb dL_refusesAny_237 rfl (lv_at hl 1 rfl) ?_
  refine lv_bipush (v := 8) hx hb dL_refusesAny_238 (by decide) ?_
  refine lv_icmp_ne (tgt := 248) hx hb dL_refusesAny_240 (by decide) (fun c => absurd c (by decide)) (fun _ => ?_)
  refine lv_bipush (v := 50) hx hb dL_refusesAny_243 (by decide) ?_
  refine lv_goto (tgt := 250) hx hb dL_refusesAny_245 (by decide) ?_
  refine lv_istore (lv' := [(5, .int 50), (4, .int 0), (3, .int 8), (2, .int (-1)), (0, .ref (x 0)), (1, .int 0)]) hx hb dL_refusesAny_250 hl (by decide) rfl (fun ls hl => ?_)
  exact c_L_refusesAny0_5 l G z x cx o st b pf g fo fst fb fp fg hh t hx hb hml hr hts hown hlocks hK hA hZ hok hP hD hS (lv_sub hl [0, 1, 2, 3, 4, 5] rfl)
set_option maxHeartbeats 4000000 in
set_option maxRecDepth 100000 in
theorem c_L_refusesAny0_3 (l : Launch) (G : gG) (z : Nat × Nat × Nat) (x : Nat → Nat) (cx : (Nat → Int32)) (o : (Nat → Int32)) (st : (Nat → Int32)) (b : (Nat → Nat → Int32)) (pf : (Nat → Nat → Int32)) (g : (Nat → Nat → Int32)) (fo : (Nat → Int32)) (fst : (Nat → Int32)) (fb : (Nat → Nat → Int32)) (fp : (Nat → Nat → Int32)) (fg : (Nat → Nat → Int32)) (hh : HVal) (t : (Nat → Nat → Int32)) {p : Program} {e : Env} {s : State} {m : MethodId} {below : List Frame} {meth : Method} {c : Code} {A : Nat → Prop} {H : Heap} {locs : List Loc} {ls : Array Slot} (hx : p.tables.exec = Jvm.exec) (hb : c.code = cL_refusesAny) (hml : c.maxLocals = 6) (hr : meth.sig.returnType = (some .boolean)) (hts : ∀ w ∈ wsL_refusesAny, w.before (List.toArray [.ref (x 0), .int 0]) s = true) (hown : s.vm.findClass RL = some m.cls) (hlocks : meth.locks = false) (hK : gK G s) (hA : ∀ q : Nat, s.heap.size ≤ q → A q) (hZ : gZ z A s) (hok : (rok_setB o st b pf g hh 4 (-1)) ∧ (rok_settingV 4) ∧ (rok_setN o st b pf g hh 4 ((st (4 : Int32).toNatClampNeg + 1000) - 1000)) ∧ (rok_setB o st b pf g hh 5 (-31)) ∧ (rok_settingV 5) ∧ (rok_setN o st b pf g hh 5 ((st (5 : Int32).toNatClampNeg + 1000) - 1000)) ∧ (rok_setB o st b pf g hh 6 (-31)) ∧ (rok_settingV 6) ∧ (rok_setN o st b pf g hh 6 ((st (6 : Int32).toNatClampNeg + 1000) - 1000)) ∧ (rok_setB o st b pf g hh 7 (-1)) ∧ (rok_settingV 7) ∧ (rok_setN o st b pf g hh 7 ((st (7 : Int32).toNatClampNeg + 1000) - 1000)) ∧ (rok_setB o st b pf g hh 8 (-1)) ∧ (rok_settingV 8) ∧ (rok_setN o st b pf g hh 8 ((st (8 : Int32).toNatClampNeg + 1000) - 1000)) ∧ (rok_cellU st b (-1) 99) ∧ (rok_cellB st b 0 (-1)) ∧ (rok_settingU (-1)) ∧ (rok_stageU pf (-1) 99) ∧ (rok_voltage st b (-1)) ∧ (rok_chargeInU o st b pf g (-1) (-1)) ∧ (rok_chargeInB o st b pf g 0 (-1)) ∧ (rok_eventB g (-1) 0) ∧ (rok_eventN g 10 0) ∧ (rok_countB b (-1)) ∧ (rok_count3 b o) ∧ (rok_warmest o st b pf g fo fst fb fp fg) ∧ (rok_count3 b o) ∧ (rok_count3 b o) ∧ (rok_stop o hh) ∧ True) (hP : va_P G.1 vwCl (List.flatten [CW G x cx, OW G (fun k => x (k + 1)) o, AW G (x 2) 9 st, BW G (fun k => x (k + 3)) b, PW G (fun k => x (k + 11)) pf, LW G (fun k => x (k + 16)) g, OW G (fun k => x (k + 20)) fo, AW G (x 21) 9 fst, BW G (fun k => x (k + 22)) fb, PW G (fun k => x (k + 30)) fp, LW G (fun k => x (k + 35)) fg, HGW G (fun k => x (k + 58)) hh, TW G (fun k => x (k + 136)) t]) H) (hD : va_D A (List.flatten [CW G x cx, OW G (fun k => x (k + 1)) o, AW G (x 2) 9 st, BW G (fun k => x (k + 3)) b, PW G (fun k => x (k + 11)) pf, LW G (fun k => x (k + 16)) g, OW G (fun k => x (k + 20)) fo, AW G (x 21) 9 fst, BW G (fun k => x (k + 22)) fb, PW G (fun k => x (k + 30)) fp, LW G (fun k => x (k + 35)) fg, HGW G (fun k => x (k + 58)) hh, TW G (fun k => x (k + 136)) t])) (hS : va_S A s.heap H locs) (hl : lv_has ls 6 [(5, .int 10), (4, .int 0), (3, .int 4), (2, .int (-1)), (0, .ref (x 0)), (1, .int 0)]) : W p l e { frames := 8, cells := 0, slots := 0, locals := 164 } s m (List.toArray [.ref (x 0), .int 0]) below meth c H locs 0 0 (gQ G below (List.toArray [.ref (x 0), .int 0]) s (some (.int 1)) [CW G x cx, OW G (fun k => x (k + 1)) o, AW G (x 2) 9 st, BW G (fun k => x (k + 3)) b, PW G (fun k => x (k + 11)) pf, LW G (fun k => x (k + 16)) g, OW G (fun k => x (k + 20)) fo, AW G (x 21) 9 fst, BW G (fun k => x (k + 22)) fb, PW G (fun k => x (k + 30)) fp, LW G (fun k => x (k + 35)) fg, HGW G (fun k => x (k + 58)) hh, TW G (fun k => x (k + 136)) t] A) (F0 m 252 ls []) := by
  refine lv_aload_n hx hb dL_refusesAny_252 rfl (lv_at hl 4 rfl) ?_
  refine lv_iload_n hx hb dL_refusesAny_253 rfl (lv_at hl 2 rfl) ?_
  refine lv_iload_n hx hb dL_refusesAny_254 rfl (lv_at hl 5 rfl) ?_
  refine lv_if_ne (tgt := 265) hx hb dL_refusesAny_255 (by decide) (fun c => absurd c (by decide)) (fun _ => ?_)
  refine lv_iload hx hb dL_refusesAny_258 (lv_at hl 1 rfl) ?_
  refine lv_iconst (v := 1) hx hb dL_refusesAny_260 (by decide) ?_
  refine lv_isub hx hb dL_refusesAny_261 ?_
  refine g_topE (y := (-1)) (by decide) ?_
  refine lv_goto (tgt := 269) hx hb dL_refusesAny_262 (by decide) ?_
  obtain ⟨k1, hok⟩ := hok
  refine g_callZ (cr_setB l G z x cx o st b pf g hh 4 (-1) k1) hx hb hml hown hts hK hP hD hS hA hZ gL_refusesAny_X6_set rfl (n := 2) (by decide +kernel) rfl ⟨Nat.le_of_ble_eq_true rfl, Nat.le_of_ble_eq_true rfl⟩ [0, 1, 2, 3, 4, 5, 11] rfl (by decide) 0 rfl (ci := 6) rfl hl.1 rfl (Nat.le_of_ble_eq_true rfl) ⟨Nat.zero_le _, Nat.zero_le _⟩ dL_refusesAny_269 (fun H locs hP hD hS => ?_)
  have hP : va_P G.1 vwCl (List.flatten [CW G x cx, OW G (fun k => x (k + 1)) o, AW G (x 2) 9 st, BW G (fun k => x (k + 3)) b, PW G (fun k => x (k + 11)) pf, LW G (fun k => x (k + 16)) g, OW G (fun k => x (k + 20)) fo, AW G (x 21) 9 fst, BW G (fun k => x (k + 22)) fb, PW G (fun k => x (k + 30)) fp, LW G (fun k => x (k + 35)) fg, HGW G (fun k => x (k + 58)) hh, TW G (fun k => x (k + 136)) t]) H := hP
  have hD : va_D A (List.flatten [CW G x cx, OW G (fun k => x (k + 1)) o, AW G (x 2) 9 st, BW G (fun k => x (k + 3)) b, PW G (fun k => x (k + 11)) pf, LW G (fun k => x (k + 16)) g, OW G (fun k => x (k + 20)) fo, AW G (x 21) 9 fst, BW G (fun k => x (k + 22)) fb, PW G (fun k => x (k + 30)) fp, LW G (fun k => x (k + 35)) fg, HGW G (fun k => x (k + 58)) hh, TW G (fun k => x (k + 136)) t]) := hD
  refine lv_bipush (v := (-2)) hx hb dL_refusesAny_272 (by decide) ?_
  refine lv_icmp_ne (tgt := 296) hx hb dL_refusesAny_274 (by decide) (fun c => absurd c (by decide)) (fun _ => ?_)
  refine lv_aload_n hx hb dL_refusesAny_277 rfl (lv_at hl 4 rfl) ?_
  refine lv_iload_n hx hb dL_refusesAny_278 rfl (lv_at hl 2 rfl) ?_
  refine lv_aload_n hx hb dL_refusesAny_279 rfl (lv_at hl 4 rfl) ?_
  refine lv_iload_n hx hb dL_refusesAny_280 rfl (lv_at hl 2 rfl) ?_
  obtain ⟨k2, hok⟩ := hok
  refine g_callV (cr_settingV l G x cx o st b pf g 4 k2) hx hb hml hown hts hK hP hD hS hA gL_refusesAny_X6_setting rfl (n := 1) (by decide +kernel) rfl ⟨Nat.le_of_ble_eq_true rfl, Nat.le_of_ble_eq_true rfl⟩ [0, 1, 2, 3, 4, 5] rfl (by decide) 0 rfl (ci := 6) rfl hl.1 rfl (Nat.le_of_ble_eq_true rfl) ⟨Nat.zero_le _, Nat.zero_le _⟩ dL_refusesAny_281 (fun H locs hP hD hS => ?_)
  have hP : va_P G.1 vwCl (List.flatten [CW G x cx, OW G (fun k => x (k + 1)) o, AW G (x 2) 9 st, BW G (fun k => x (k + 3)) b, PW G (fun k => x (k + 11)) pf, LW G (fun k => x (k + 16)) g, OW G (fun k => x (k + 20)) fo, AW G (x 21) 9 fst, BW G (fun k => x (k + 22)) fb, PW G (fun k => x (k + 30)) fp, LW G (fun k => x (k + 35)) fg, HGW G (fun k => x (k + 58)) hh, TW G (fun k => x (k + 136)) t]) H := hP
  have hD : va_D A (List.flatten [CW G x cx, OW G (fun k => x (k + 1)) o, AW G (x 2) 9 st, BW G (fun k => x (k + 3)) b, PW G (fun k => x (k + 11)) pf, LW G (fun k => x (k + 16)) g, OW G (fun k => x (k + 20)) fo, AW G (x 21) 9 fst, BW G (fun k => x (k + 22)) fb, PW G (fun k => x (k + 30)) fp, LW G (fun k => x (k + 35)) fg, HGW G (fun k => x (k + 58)) hh, TW G (fun k => x (k + 136)) t]) := hD
  refine lv_sipush (v := 1000) hx hb dL_refusesAny_284 (by decide) ?_
  refine lv_isub hx hb dL_refusesAny_287 ?_
  obtain ⟨k3, hok⟩ := hok
  refine g_callZ (cr_setN l G z x cx o st b pf g hh 4 ((st (4 : Int32).toNatClampNeg + 1000) - 1000) k3) hx hb hml hown hts hK hP hD hS hA hZ gL_refusesAny_X6_set rfl (n := 2) (by decide +kernel) rfl ⟨Nat.le_of_ble_eq_true rfl, Nat.le_of_ble_eq_true rfl⟩ [0, 1, 2, 3, 4, 5, 11] rfl (by decide) 0 rfl (ci := 6) rfl hl.1 rfl (Nat.le_of_ble_eq_true rfl) ⟨Nat.zero_le _, Nat.zero_le _⟩ dL_refusesAny_288 (fun H locs hP hD hS => ?_)
  have hP : va_P G.1 vwCl (List.flatten [CW G x cx, OW G (fun k => x (k + 1)) o, AW G (x 2) 9 st, BW G (fun k => x (k + 3)) b, PW G (fun k => x (k + 11)) pf, LW G (fun k => x (k + 16)) g, OW G (fun k => x (k + 20)) fo, AW G (x 21) 9 fst, BW G (fun k => x (k + 22)) fb, PW G (fun k => x (k + 30)) fp, LW G (fun k => x (k + 35)) fg, HGW G (fun k => x (k + 58)) hh, TW G (fun k => x (k + 136)) t]) H := hP
  have hD : va_D A (List.flatten [CW G x cx, OW G (fun k => x (k + 1)) o, AW G (x 2) 9 st, BW G (fun k => x (k + 3)) b, PW G (fun k => x (k + 11)) pf, LW G (fun k => x (k + 16)) g, OW G (fun k => x (k + 20)) fo, AW G (x 21) 9 fst, BW G (fun k => x (k + 22)) fb, PW G (fun k => x (k + 30)) fp, LW G (fun k => x (k + 35)) fg, HGW G (fun k => x (k + 58)) hh, TW G (fun k => x (k + 136)) t]) := hD
  refine lv_bipush (v := (-5)) hx hb dL_refusesAny_291 (by decide) ?_
  refine lv_icmp_eq (tgt := 298) hx hb dL_refusesAny_293 (by decide) (fun _ => ?_) (fun c => absurd c (by decide))
  refine lv_iinc (v := 5) (lv' := [(3, .int 5), (5, .int 10), (4, .int 0), (2, .int (-1)), (0, .ref (x 0)), (1, .int 0)]) hx hb dL_refusesAny_298 hl (k := 2) rfl (by decide) (by decide) rfl (fun ls hl => ?_)
  refine lv_goto (tgt := 135) hx hb dL_refusesAny_301 (by decide) ?_
  refine lv_iload_n hx hb dL_refusesAny_135 rfl (lv_at hl 0 rfl) ?_
  refine lv_bipush (v := 9) hx hb dL_refusesAny_136 (by decide) ?_
  refine lv_icmp_ge (tgt := 304) hx hb dL_refusesAny_138 (by decide) (fun c => absurd c (by decide)) (fun _ => ?_)
  refine lv_iload_n hx hb dL_refusesAny_141 rfl (lv_at hl 0 rfl) ?_
  refine lv_if_ne (tgt := 150) hx hb dL_refusesAny_142 (by decide) (fun _ => ?_) (fun c => absurd c (by decide))
  refine lv_iload_n hx hb dL_refusesAny_150 rfl (lv_at hl 0 rfl) ?_
  refine lv_iconst (v := 2) hx hb dL_refusesAny_151 (by decide) ?_
  refine lv_icmp_ne (tgt := 160) hx hb dL_refusesAny_152 (by decide) (fun _ => ?_) (fun c => absurd c (by decide))
  refine lv_iload_n hx hb dL_refusesAny_160 rfl (lv_at hl 0 rfl) ?_
  refine lv_iconst (v := 3) hx hb dL_refusesAny_161 (by decide) ?_
  refine lv_icmp_eq (tgt := 176) hx hb dL_refusesAny_162 (by decide) (fun c => absurd c (by decide)) (fun _ => ?_)
  refine lv_iload_n hx hb dL_refusesAny_165 rfl (lv_at hl 0 rfl) ?_
  refine lv_iconst (v := 5) hx hb dL_refusesAny_166 (by decide) ?_
  refine lv_icmp_eq (tgt := 176) hx hb dL_refusesAny_167 (by decide) (fun _ => ?_) (fun c => absurd c (by decide))
  refine lv_bipush (v := (-30)) hx hb dL_refusesAny_176 (by decide) ?_
  refine lv_goto (tgt := 182) hx hb dL_refusesAny_178 (by decide) ?_
  refine lv_istore (lv' := [(4, .int (-30)), (3, .int 5), (5, .int 10), (2, .int (-1)), (0, .ref (x 0)), (1, .int 0)]) hx hb dL_refusesAny_182 hl (by decide) rfl (fun ls hl => ?_)
  refine lv_iload_n hx hb dL_refusesAny_184 rfl (lv_at hl 1 rfl) ?_
  refine lv_if_ne (tgt := 194) hx hb dL_refusesAny_185 (by decide) (fun _ => ?_) (fun c => absurd c (by decide))
  refine lv_iload_n hx hb dL_refusesAny_194 rfl (lv_at hl 1 rfl) ?_
  refine lv_iconst (v := 1) hx hb dL_refusesAny_195 (by decide) ?_
  refine lv_icmp_ne (tgt := 205) hx hb dL_refusesAny_196 (by decide) (fun _ => ?_) (fun c => absurd c (by decide))
  refine lv_iload_n hx hb dL_refusesAny_205 rfl (lv_at hl 1 rfl) ?_
  refine lv_iconst (v := 2) hx hb dL_refusesAny_206 (by decide) ?_
  refine lv_icmp_ne (tgt := 215) hx hb dL_refusesAny_207 (by decide) (fun _ => ?_) (fun c => absurd c (by decide))
  refine lv_iload_n hx hb dL_refusesAny_215 rfl (lv_at hl 1 rfl) ?_
  refine lv_iconst (v := 4) hx hb dL_refusesAny_216 (by decide) ?_
  refine lv_icmp_ne (tgt := 225) hx hb dL_refusesAny_217 (by decide) (fun _ => ?_) (fun c => absurd c (by decide))
  refine lv_iload_n hx hb dL_refusesAny_225 rfl (lv_at hl 1 rfl) ?_
  refine lv_bipush (v := 7) hx hb dL_refusesAny_226 (by decide) ?_
  refine lv_icmp_ne (tgt := 237) hx hb dL_refusesAny_228 (by decide) (fun _ => ?_) (fun c => absurd c (by decide))
  refine lv_iload_n hx hb dL_refusesAny_237 rfl (lv_at hl 1 rfl) ?_
  refine lv_bipush (v := 8) hx hb dL_refusesAny_238 (by decide) ?_
  refine lv_icmp_ne (tgt := 248) hx hb dL_refusesAny_240 (by decide) (fun _ => ?_) (fun c => absurd c (by decide))
  refine lv_bipush (v := 80) hx hb dL_refusesAny_248 (by decide) ?_
  refine lv_istore (lv' := [(5, .int 80), (4, .int (-30)), (3, .int 5), (2, .int (-1)), (0, .ref (x 0)), (1, .int 0)]) hx hb dL_refusesAny_250 hl (by decide) rfl (fun ls hl => ?_)
  refine lv_aload_n hx hb dL_refusesAny_252 rfl (lv_at hl 4 rfl) ?_
  refine lv_iload_n hx hb dL_refusesAny_253 rfl (lv_at hl 2 rfl) ?_
  refine lv_iload_n hx hb dL_refusesAny_254 rfl (lv_at hl 5 rfl) ?_
  refine lv_if_ne (tgt := 265) hx hb dL_refusesAny_255 (by decide) (fun c => absurd c (by decide)) (fun _ => ?_)
  refine lv_iload hx hb dL_refusesAny_258 (lv_at hl 1 rfl) ?_
  refine lv_iconst (v := 1) hx hb dL_refusesAny_260 (by decide) ?_
  refine lv_isub hx hb dL_refusesAny_261 ?_
  refine g_topE (y := (-31)) (by decide) ?_
  refine lv_goto (tgt := 269) hx hb dL_refusesAny_262 (by decide) ?_
  obtain ⟨k4, hok⟩ := hok
  refine g_callZ (cr_setB l G z x cx o st b pf g hh 5 (-31) k4) hx hb hml hown hts hK hP hD hS hA hZ gL_refusesAny_X6_set rfl (n := 2) (by decide +kernel) rfl ⟨Nat.le_of_ble_eq_true rfl, Nat.le_of_ble_eq_true rfl⟩ [0, 1, 2, 3, 4, 5, 11] rfl (by decide) 0 rfl (ci := 6) rfl hl.1 rfl (Nat.le_of_ble_eq_true rfl) ⟨Nat.zero_le _, Nat.zero_le _⟩ dL_refusesAny_269 (fun H locs hP hD hS => ?_)
  have hP : va_P G.1 vwCl (List.flatten [CW G x cx, OW G (fun k => x (k + 1)) o, AW G (x 2) 9 st, BW G (fun k => x (k + 3)) b, PW G (fun k => x (k + 11)) pf, LW G (fun k => x (k + 16)) g, OW G (fun k => x (k + 20)) fo, AW G (x 21) 9 fst, BW G (fun k => x (k + 22)) fb, PW G (fun k => x (k + 30)) fp, LW G (fun k => x (k + 35)) fg, HGW G (fun k => x (k + 58)) hh, TW G (fun k => x (k + 136)) t]) H := hP
  have hD : va_D A (List.flatten [CW G x cx, OW G (fun k => x (k + 1)) o, AW G (x 2) 9 st, BW G (fun k => x (k + 3)) b, PW G (fun k => x (k + 11)) pf, LW G (fun k => x (k + 16)) g, OW G (fun k => x (k + 20)) fo, AW G (x 21) 9 fst, BW G (fun k => x (k + 22)) fb, PW G (fun k => x (k + 30)) fp, LW G (fun k => x (k + 35)) fg, HGW G (fun k => x (k + 58)) hh, TW G (fun k => x (k + 136)) t]) := hD
  refine lv_bipush (v := (-2)) hx hb dL_refusesAny_272 (by decide) ?_
  refine lv_icmp_ne (tgt := 296) hx hb dL_refusesAny_274 (by decide) (fun c => absurd c (by decide)) (fun _ => ?_)
  refine lv_aload_n hx hb dL_refusesAny_277 rfl (lv_at hl 4 rfl) ?_
  refine lv_iload_n hx hb dL_refusesAny_278 rfl (lv_at hl 2 rfl) ?_
  refine lv_aload_n hx hb dL_refusesAny_279 rfl (lv_at hl 4 rfl) ?_
  refine lv_iload_n hx hb dL_refusesAny_280 rfl (lv_at hl 2 rfl) ?_
  obtain ⟨k5, hok⟩ := hok
  refine g_callV (cr_settingV l G x cx o st b pf g 5 k5) hx hb hml hown hts hK hP hD hS hA gL_refusesAny_X6_setting rfl (n := 1) (by decide +kernel) rfl ⟨Nat.le_of_ble_eq_true rfl, Nat.le_of_ble_eq_true rfl⟩ [0, 1, 2, 3, 4, 5] rfl (by decide) 0 rfl (ci := 6) rfl hl.1 rfl (Nat.le_of_ble_eq_true rfl) ⟨Nat.zero_le _, Nat.zero_le _⟩ dL_refusesAny_281 (fun H locs hP hD hS => ?_)
  have hP : va_P G.1 vwCl (List.flatten [CW G x cx, OW G (fun k => x (k + 1)) o, AW G (x 2) 9 st, BW G (fun k => x (k + 3)) b, PW G (fun k => x (k + 11)) pf, LW G (fun k => x (k + 16)) g, OW G (fun k => x (k + 20)) fo, AW G (x 21) 9 fst, BW G (fun k => x (k + 22)) fb, PW G (fun k => x (k + 30)) fp, LW G (fun k => x (k + 35)) fg, HGW G (fun k => x (k + 58)) hh, TW G (fun k => x (k + 136)) t]) H := hP
  have hD : va_D A (List.flatten [CW G x cx, OW G (fun k => x (k + 1)) o, AW G (x 2) 9 st, BW G (fun k => x (k + 3)) b, PW G (fun k => x (k + 11)) pf, LW G (fun k => x (k + 16)) g, OW G (fun k => x (k + 20)) fo, AW G (x 21) 9 fst, BW G (fun k => x (k + 22)) fb, PW G (fun k => x (k + 30)) fp, LW G (fun k => x (k + 35)) fg, HGW G (fun k => x (k + 58)) hh, TW G (fun k => x (k + 136)) t]) := hD
  refine lv_sipush (v := 1000) hx hb dL_refusesAny_284 (by decide) ?_
  refine lv_isub hx hb dL_refusesAny_287 ?_
  obtain ⟨k6, hok⟩ := hok
  refine g_callZ (cr_setN l G z x cx o st b pf g hh 5 ((st (5 : Int32).toNatClampNeg + 1000) - 1000) k6) hx hb hml hown hts hK hP hD hS hA hZ gL_refusesAny_X6_set rfl (n := 2) (by decide +kernel) rfl ⟨Nat.le_of_ble_eq_true rfl, Nat.le_of_ble_eq_true rfl⟩ [0, 1, 2, 3, 4, 5, 11] rfl (by decide) 0 rfl (ci := 6) rfl hl.1 rfl (Nat.le_of_ble_eq_true rfl) ⟨Nat.zero_le _, Nat.zero_le _⟩ dL_refusesAny_288 (fun H locs hP hD hS => ?_)
  have hP : va_P G.1 vwCl (List.flatten [CW G x cx, OW G (fun k => x (k + 1)) o, AW G (x 2) 9 st, BW G (fun k => x (k + 3)) b, PW G (fun k => x (k + 11)) pf, LW G (fun k => x (k + 16)) g, OW G (fun k => x (k + 20)) fo, AW G (x 21) 9 fst, BW G (fun k => x (k + 22)) fb, PW G (fun k => x (k + 30)) fp, LW G (fun k => x (k + 35)) fg, HGW G (fun k => x (k + 58)) hh, TW G (fun k => x (k + 136)) t]) H := hP
  have hD : va_D A (List.flatten [CW G x cx, OW G (fun k => x (k + 1)) o, AW G (x 2) 9 st, BW G (fun k => x (k + 3)) b, PW G (fun k => x (k + 11)) pf, LW G (fun k => x (k + 16)) g, OW G (fun k => x (k + 20)) fo, AW G (x 21) 9 fst, BW G (fun k => x (k + 22)) fb, PW G (fun k => x (k + 30)) fp, LW G (fun k => x (k + 35)) fg, HGW G (fun k => x (k + 58)) hh, TW G (fun k => x (k + 136)) t]) := hD
  refine lv_bipush (v := (-5)) hx hb dL_refusesAny_291 (by decide) ?_
  refine lv_icmp_eq (tgt := 298) hx hb dL_refusesAny_293 (by decide) (fun _ => ?_) (fun c => absurd c (by decide))
  refine lv_iinc (v := 6) (lv' := [(3, .int 6), (5, .int 80), (4, .int (-30)), (2, .int (-1)), (0, .ref (x 0)), (1, .int 0)]) hx hb dL_refusesAny_298 hl (k := 2) rfl (by decide) (by decide) rfl (fun ls hl => ?_)
  refine lv_goto (tgt := 135) hx hb dL_refusesAny_301 (by decide) ?_
  refine lv_iload_n hx hb dL_refusesAny_135 rfl (lv_at hl 0 rfl) ?_
  refine lv_bipush (v := 9) hx hb dL_refusesAny_136 (by decide) ?_
  refine lv_icmp_ge (tgt := 304) hx hb dL_refusesAny_138 (by decide) (fun c => absurd c (by decide)) (fun _ => ?_)
  refine lv_iload_n hx hb dL_refusesAny_141 rfl (lv_at hl 0 rfl) ?_
  refine lv_if_ne (tgt := 150) hx hb dL_refusesAny_142 (by decide) (fun _ => ?_) (fun c => absurd c (by decide))
  refine lv_iload_n hx hb dL_refusesAny_150 rfl (lv_at hl 0 rfl) ?_
  refine lv_iconst (v := 2) hx hb dL_refusesAny_151 (by decide) ?_
  refine lv_icmp_ne (tgt := 160) hx hb dL_refusesAny_152 (by decide) (fun _ => ?_) (fun c => absurd c (by decide))
  refine lv_iload_n hx hb dL_refusesAny_160 rfl (lv_at hl 0 rfl) ?_
  refine lv_iconst (v := 3) hx hb dL_refusesAny_161 (by decide) ?_
  refine lv_icmp_eq (tgt := 176) hx hb dL_refusesAny_162 (by decide) (fun c => absurd c (by decide)) (fun _ => ?_)
  refine lv_iload_n hx hb dL_refusesAny_165 rfl (lv_at hl 0 rfl) ?_
  refine lv_iconst (v := 5) hx hb dL_refusesAny_166 (by decide) ?_
  refine lv_icmp_eq (tgt := 176) hx hb dL_refusesAny_167 (by decide) (fun c => absurd c (by decide)) (fun _ => ?_)
  refine lv_iload_n hx hb dL_refusesAny_170 rfl (lv_at hl 0 rfl) ?_
  refine lv_bipush (v := 6) hx hb dL_refusesAny_171 (by decide) ?_
  refine lv_icmp_ne (tgt := 181) hx hb dL_refusesAny_173 (by decide) (fun c => absurd c (by decide)) (fun _ => ?_)
  refine lv_bipush (v := (-30)) hx hb dL_refusesAny_176 (by decide) ?_
  refine lv_goto (tgt := 182) hx hb dL_refusesAny_178 (by decide) ?_
  refine lv_istore (lv' := [(4, .int (-30)), (3, .int 6), (5, .int 80), (2, .int (-1)), (0, .ref (x 0)), (1, .int 0)]) hx hb dL_refusesAny_182 hl (by decide) rfl (fun ls hl => ?_)
  refine lv_iload_n hx hb dL_refusesAny_184 rfl (lv_at hl 1 rfl) ?_
  refine lv_if_ne (tgt := 194) hx hb dL_refusesAny_185 (by decide) (fun _ => ?_) (fun c => absurd c (by decide))
  refine lv_iload_n hx hb dL_refusesAny_194 rfl (lv_at hl 1 rfl) ?_
  refine lv_iconst (v := 1) hx hb dL_refusesAny_195 (by decide) ?_
  refine lv_icmp_ne (tgt := 205) hx hb dL_refusesAny_196 (by decide) (fun _ => ?_) (fun c => absurd c (by decide))
  refine lv_iload_n hx hb dL_refusesAny_205 rfl (lv_at hl 1 rfl) ?_
  refine lv_iconst (v := 2) hx hb dL_refusesAny_206 (by decide) ?_
  refine lv_icmp_ne (tgt := 215) hx hb dL_refusesAny_207 (by decide) (fun _ => ?_) (fun c => absurd c (by decide))
  refine lv_iload_n hx hb dL_refusesAny_215 rfl (lv_at hl 1 rfl) ?_
  refine lv_iconst (v := 4) hx hb dL_refusesAny_216 (by decide) ?_
  refine lv_icmp_ne (tgt := 225) hx hb dL_refusesAny_217 (by decide) (fun _ => ?_) (fun c => absurd c (by decide))
  refine lv_iload_n hx hb dL_refusesAny_225 rfl (lv_at hl 1 rfl) ?_
  refine lv_bipush (v := 7) hx hb dL_refusesAny_226 (by decide) ?_
  refine lv_icmp_ne (tgt := 237) hx hb dL_refusesAny_228 (by decide) (fun _ => ?_) (fun c => absurd c (by decide))
  refine lv_iload_n hx hb dL_refusesAny_237 rfl (lv_at hl 1 rfl) ?_
  refine lv_bipush (v := 8) hx hb dL_refusesAny_238 (by decide) ?_
  refine lv_icmp_ne (tgt := 248) hx hb dL_refusesAny_240 (by decide) (fun _ => ?_) (fun c => absurd c (by decide))
  refine lv_bipush (v := 80) hx hb dL_refusesAny_248 (by decide) ?_
  refine lv_istore (lv' := [(5, .int 80), (4, .int (-30)), (3, .int 6), (2, .int (-1)), (0, .ref (x 0)), (1, .int 0)]) hx hb dL_refusesAny_250 hl (by decide) rfl (fun ls hl => ?_)
  exact c_L_refusesAny0_4 l G z x cx o st b pf g fo fst fb fp fg hh t hx hb hml hr hts hown hlocks hK hA hZ hok hP hD hS (lv_sub hl [0, 1, 2, 3, 4, 5] rfl)
set_option maxHeartbeats 4000000 in
set_option maxRecDepth 100000 in
theorem c_L_refusesAny0_2 (l : Launch) (G : gG) (z : Nat × Nat × Nat) (x : Nat → Nat) (cx : (Nat → Int32)) (o : (Nat → Int32)) (st : (Nat → Int32)) (b : (Nat → Nat → Int32)) (pf : (Nat → Nat → Int32)) (g : (Nat → Nat → Int32)) (fo : (Nat → Int32)) (fst : (Nat → Int32)) (fb : (Nat → Nat → Int32)) (fp : (Nat → Nat → Int32)) (fg : (Nat → Nat → Int32)) (hh : HVal) (t : (Nat → Nat → Int32)) {p : Program} {e : Env} {s : State} {m : MethodId} {below : List Frame} {meth : Method} {c : Code} {A : Nat → Prop} {H : Heap} {locs : List Loc} {ls : Array Slot} (hx : p.tables.exec = Jvm.exec) (hb : c.code = cL_refusesAny) (hml : c.maxLocals = 6) (hr : meth.sig.returnType = (some .boolean)) (hts : ∀ w ∈ wsL_refusesAny, w.before (List.toArray [.ref (x 0), .int 0]) s = true) (hown : s.vm.findClass RL = some m.cls) (hlocks : meth.locks = false) (hK : gK G s) (hA : ∀ q : Nat, s.heap.size ≤ q → A q) (hZ : gZ z A s) (hok : (rok_setB o st b pf g hh 2 49) ∧ (rok_settingV 2) ∧ (rok_setN o st b pf g hh 2 ((st (2 : Int32).toNatClampNeg + 1000) - 1000)) ∧ (rok_setB o st b pf g hh 3 (-31)) ∧ (rok_settingV 3) ∧ (rok_setN o st b pf g hh 3 ((st (3 : Int32).toNatClampNeg + 1000) - 1000)) ∧ (rok_setB o st b pf g hh 4 (-1)) ∧ (rok_settingV 4) ∧ (rok_setN o st b pf g hh 4 ((st (4 : Int32).toNatClampNeg + 1000) - 1000)) ∧ (rok_setB o st b pf g hh 5 (-31)) ∧ (rok_settingV 5) ∧ (rok_setN o st b pf g hh 5 ((st (5 : Int32).toNatClampNeg + 1000) - 1000)) ∧ (rok_setB o st b pf g hh 6 (-31)) ∧ (rok_settingV 6) ∧ (rok_setN o st b pf g hh 6 ((st (6 : Int32).toNatClampNeg + 1000) - 1000)) ∧ (rok_setB o st b pf g hh 7 (-1)) ∧ (rok_settingV 7) ∧ (rok_setN o st b pf g hh 7 ((st (7 : Int32).toNatClampNeg + 1000) - 1000)) ∧ (rok_setB o st b pf g hh 8 (-1)) ∧ (rok_settingV 8) ∧ (rok_setN o st b pf g hh 8 ((st (8 : Int32).toNatClampNeg + 1000) - 1000)) ∧ (rok_cellU st b (-1) 99) ∧ (rok_cellB st b 0 (-1)) ∧ (rok_settingU (-1)) ∧ (rok_stageU pf (-1) 99) ∧ (rok_voltage st b (-1)) ∧ (rok_chargeInU o st b pf g (-1) (-1)) ∧ (rok_chargeInB o st b pf g 0 (-1)) ∧ (rok_eventB g (-1) 0) ∧ (rok_eventN g 10 0) ∧ (rok_countB b (-1)) ∧ (rok_count3 b o) ∧ (rok_warmest o st b pf g fo fst fb fp fg) ∧ (rok_count3 b o) ∧ (rok_count3 b o) ∧ (rok_stop o hh) ∧ True) (hP : va_P G.1 vwCl (List.flatten [CW G x cx, OW G (fun k => x (k + 1)) o, AW G (x 2) 9 st, BW G (fun k => x (k + 3)) b, PW G (fun k => x (k + 11)) pf, LW G (fun k => x (k + 16)) g, OW G (fun k => x (k + 20)) fo, AW G (x 21) 9 fst, BW G (fun k => x (k + 22)) fb, PW G (fun k => x (k + 30)) fp, LW G (fun k => x (k + 35)) fg, HGW G (fun k => x (k + 58)) hh, TW G (fun k => x (k + 136)) t]) H) (hD : va_D A (List.flatten [CW G x cx, OW G (fun k => x (k + 1)) o, AW G (x 2) 9 st, BW G (fun k => x (k + 3)) b, PW G (fun k => x (k + 11)) pf, LW G (fun k => x (k + 16)) g, OW G (fun k => x (k + 20)) fo, AW G (x 21) 9 fst, BW G (fun k => x (k + 22)) fb, PW G (fun k => x (k + 30)) fp, LW G (fun k => x (k + 35)) fg, HGW G (fun k => x (k + 58)) hh, TW G (fun k => x (k + 136)) t])) (hS : va_S A s.heap H locs) (hl : lv_has ls 6 [(5, .int 100), (4, .int 50), (3, .int 2), (2, .int (-1)), (0, .ref (x 0)), (1, .int 0)]) : W p l e { frames := 8, cells := 0, slots := 0, locals := 164 } s m (List.toArray [.ref (x 0), .int 0]) below meth c H locs 0 0 (gQ G below (List.toArray [.ref (x 0), .int 0]) s (some (.int 1)) [CW G x cx, OW G (fun k => x (k + 1)) o, AW G (x 2) 9 st, BW G (fun k => x (k + 3)) b, PW G (fun k => x (k + 11)) pf, LW G (fun k => x (k + 16)) g, OW G (fun k => x (k + 20)) fo, AW G (x 21) 9 fst, BW G (fun k => x (k + 22)) fb, PW G (fun k => x (k + 30)) fp, LW G (fun k => x (k + 35)) fg, HGW G (fun k => x (k + 58)) hh, TW G (fun k => x (k + 136)) t] A) (F0 m 252 ls []) := by
  refine lv_aload_n hx hb dL_refusesAny_252 rfl (lv_at hl 4 rfl) ?_
  refine lv_iload_n hx hb dL_refusesAny_253 rfl (lv_at hl 2 rfl) ?_
  refine lv_iload_n hx hb dL_refusesAny_254 rfl (lv_at hl 5 rfl) ?_
  refine lv_if_ne (tgt := 265) hx hb dL_refusesAny_255 (by decide) (fun c => absurd c (by decide)) (fun _ => ?_)
  refine lv_iload hx hb dL_refusesAny_258 (lv_at hl 1 rfl) ?_
  refine lv_iconst (v := 1) hx hb dL_refusesAny_260 (by decide) ?_
  refine lv_isub hx hb dL_refusesAny_261 ?_
  refine g_topE (y := 49) (by decide) ?_
  refine lv_goto (tgt := 269) hx hb dL_refusesAny_262 (by decide) ?_
  obtain ⟨k1, hok⟩ := hok
  refine g_callZ (cr_setB l G z x cx o st b pf g hh 2 49 k1) hx hb hml hown hts hK hP hD hS hA hZ gL_refusesAny_X6_set rfl (n := 2) (by decide +kernel) rfl ⟨Nat.le_of_ble_eq_true rfl, Nat.le_of_ble_eq_true rfl⟩ [0, 1, 2, 3, 4, 5, 11] rfl (by decide) 0 rfl (ci := 6) rfl hl.1 rfl (Nat.le_of_ble_eq_true rfl) ⟨Nat.zero_le _, Nat.zero_le _⟩ dL_refusesAny_269 (fun H locs hP hD hS => ?_)
  have hP : va_P G.1 vwCl (List.flatten [CW G x cx, OW G (fun k => x (k + 1)) o, AW G (x 2) 9 st, BW G (fun k => x (k + 3)) b, PW G (fun k => x (k + 11)) pf, LW G (fun k => x (k + 16)) g, OW G (fun k => x (k + 20)) fo, AW G (x 21) 9 fst, BW G (fun k => x (k + 22)) fb, PW G (fun k => x (k + 30)) fp, LW G (fun k => x (k + 35)) fg, HGW G (fun k => x (k + 58)) hh, TW G (fun k => x (k + 136)) t]) H := hP
  have hD : va_D A (List.flatten [CW G x cx, OW G (fun k => x (k + 1)) o, AW G (x 2) 9 st, BW G (fun k => x (k + 3)) b, PW G (fun k => x (k + 11)) pf, LW G (fun k => x (k + 16)) g, OW G (fun k => x (k + 20)) fo, AW G (x 21) 9 fst, BW G (fun k => x (k + 22)) fb, PW G (fun k => x (k + 30)) fp, LW G (fun k => x (k + 35)) fg, HGW G (fun k => x (k + 58)) hh, TW G (fun k => x (k + 136)) t]) := hD
  refine lv_bipush (v := (-2)) hx hb dL_refusesAny_272 (by decide) ?_
  refine lv_icmp_ne (tgt := 296) hx hb dL_refusesAny_274 (by decide) (fun c => absurd c (by decide)) (fun _ => ?_)
  refine lv_aload_n hx hb dL_refusesAny_277 rfl (lv_at hl 4 rfl) ?_
  refine lv_iload_n hx hb dL_refusesAny_278 rfl (lv_at hl 2 rfl) ?_
  refine lv_aload_n hx hb dL_refusesAny_279 rfl (lv_at hl 4 rfl) ?_
  refine lv_iload_n hx hb dL_refusesAny_280 rfl (lv_at hl 2 rfl) ?_
  obtain ⟨k2, hok⟩ := hok
  refine g_callV (cr_settingV l G x cx o st b pf g 2 k2) hx hb hml hown hts hK hP hD hS hA gL_refusesAny_X6_setting rfl (n := 1) (by decide +kernel) rfl ⟨Nat.le_of_ble_eq_true rfl, Nat.le_of_ble_eq_true rfl⟩ [0, 1, 2, 3, 4, 5] rfl (by decide) 0 rfl (ci := 6) rfl hl.1 rfl (Nat.le_of_ble_eq_true rfl) ⟨Nat.zero_le _, Nat.zero_le _⟩ dL_refusesAny_281 (fun H locs hP hD hS => ?_)
  have hP : va_P G.1 vwCl (List.flatten [CW G x cx, OW G (fun k => x (k + 1)) o, AW G (x 2) 9 st, BW G (fun k => x (k + 3)) b, PW G (fun k => x (k + 11)) pf, LW G (fun k => x (k + 16)) g, OW G (fun k => x (k + 20)) fo, AW G (x 21) 9 fst, BW G (fun k => x (k + 22)) fb, PW G (fun k => x (k + 30)) fp, LW G (fun k => x (k + 35)) fg, HGW G (fun k => x (k + 58)) hh, TW G (fun k => x (k + 136)) t]) H := hP
  have hD : va_D A (List.flatten [CW G x cx, OW G (fun k => x (k + 1)) o, AW G (x 2) 9 st, BW G (fun k => x (k + 3)) b, PW G (fun k => x (k + 11)) pf, LW G (fun k => x (k + 16)) g, OW G (fun k => x (k + 20)) fo, AW G (x 21) 9 fst, BW G (fun k => x (k + 22)) fb, PW G (fun k => x (k + 30)) fp, LW G (fun k => x (k + 35)) fg, HGW G (fun k => x (k + 58)) hh, TW G (fun k => x (k + 136)) t]) := hD
  refine lv_sipush (v := 1000) hx hb dL_refusesAny_284 (by decide) ?_
  refine lv_isub hx hb dL_refusesAny_287 ?_
  obtain ⟨k3, hok⟩ := hok
  refine g_callZ (cr_setN l G z x cx o st b pf g hh 2 ((st (2 : Int32).toNatClampNeg + 1000) - 1000) k3) hx hb hml hown hts hK hP hD hS hA hZ gL_refusesAny_X6_set rfl (n := 2) (by decide +kernel) rfl ⟨Nat.le_of_ble_eq_true rfl, Nat.le_of_ble_eq_true rfl⟩ [0, 1, 2, 3, 4, 5, 11] rfl (by decide) 0 rfl (ci := 6) rfl hl.1 rfl (Nat.le_of_ble_eq_true rfl) ⟨Nat.zero_le _, Nat.zero_le _⟩ dL_refusesAny_288 (fun H locs hP hD hS => ?_)
  have hP : va_P G.1 vwCl (List.flatten [CW G x cx, OW G (fun k => x (k + 1)) o, AW G (x 2) 9 st, BW G (fun k => x (k + 3)) b, PW G (fun k => x (k + 11)) pf, LW G (fun k => x (k + 16)) g, OW G (fun k => x (k + 20)) fo, AW G (x 21) 9 fst, BW G (fun k => x (k + 22)) fb, PW G (fun k => x (k + 30)) fp, LW G (fun k => x (k + 35)) fg, HGW G (fun k => x (k + 58)) hh, TW G (fun k => x (k + 136)) t]) H := hP
  have hD : va_D A (List.flatten [CW G x cx, OW G (fun k => x (k + 1)) o, AW G (x 2) 9 st, BW G (fun k => x (k + 3)) b, PW G (fun k => x (k + 11)) pf, LW G (fun k => x (k + 16)) g, OW G (fun k => x (k + 20)) fo, AW G (x 21) 9 fst, BW G (fun k => x (k + 22)) fb, PW G (fun k => x (k + 30)) fp, LW G (fun k => x (k + 35)) fg, HGW G (fun k => x (k + 58)) hh, TW G (fun k => x (k + 136)) t]) := hD
  refine lv_bipush (v := (-5)) hx hb dL_refusesAny_291 (by decide) ?_
  refine lv_icmp_eq (tgt := 298) hx hb dL_refusesAny_293 (by decide) (fun _ => ?_) (fun c => absurd c (by decide))
  refine lv_iinc (v := 3) (lv' := [(3, .int 3), (5, .int 100), (4, .int 50), (2, .int (-1)), (0, .ref (x 0)), (1, .int 0)]) hx hb dL_refusesAny_298 hl (k := 2) rfl (by decide) (by decide) rfl (fun ls hl => ?_)
  refine lv_goto (tgt := 135) hx hb dL_refusesAny_301 (by decide) ?_
  refine lv_iload_n hx hb dL_refusesAny_135 rfl (lv_at hl 0 rfl) ?_
  refine lv_bipush (v := 9) hx hb dL_refusesAny_136 (by decide) ?_
  refine lv_icmp_ge (tgt := 304) hx hb dL_refusesAny_138 (by decide) (fun c => absurd c (by decide)) (fun _ => ?_)
  refine lv_iload_n hx hb dL_refusesAny_141 rfl (lv_at hl 0 rfl) ?_
  refine lv_if_ne (tgt := 150) hx hb dL_refusesAny_142 (by decide) (fun _ => ?_) (fun c => absurd c (by decide))
  refine lv_iload_n hx hb dL_refusesAny_150 rfl (lv_at hl 0 rfl) ?_
  refine lv_iconst (v := 2) hx hb dL_refusesAny_151 (by decide) ?_
  refine lv_icmp_ne (tgt := 160) hx hb dL_refusesAny_152 (by decide) (fun _ => ?_) (fun c => absurd c (by decide))
  refine lv_iload_n hx hb dL_refusesAny_160 rfl (lv_at hl 0 rfl) ?_
  refine lv_iconst (v := 3) hx hb dL_refusesAny_161 (by decide) ?_
  refine lv_icmp_eq (tgt := 176) hx hb dL_refusesAny_162 (by decide) (fun _ => ?_) (fun c => absurd c (by decide))
  refine lv_bipush (v := (-30)) hx hb dL_refusesAny_176 (by decide) ?_
  refine lv_goto (tgt := 182) hx hb dL_refusesAny_178 (by decide) ?_
  refine lv_istore (lv' := [(4, .int (-30)), (3, .int 3), (5, .int 100), (2, .int (-1)), (0, .ref (x 0)), (1, .int 0)]) hx hb dL_refusesAny_182 hl (by decide) rfl (fun ls hl => ?_)
  refine lv_iload_n hx hb dL_refusesAny_184 rfl (lv_at hl 1 rfl) ?_
  refine lv_if_ne (tgt := 194) hx hb dL_refusesAny_185 (by decide) (fun _ => ?_) (fun c => absurd c (by decide))
  refine lv_iload_n hx hb dL_refusesAny_194 rfl (lv_at hl 1 rfl) ?_
  refine lv_iconst (v := 1) hx hb dL_refusesAny_195 (by decide) ?_
  refine lv_icmp_ne (tgt := 205) hx hb dL_refusesAny_196 (by decide) (fun _ => ?_) (fun c => absurd c (by decide))
  refine lv_iload_n hx hb dL_refusesAny_205 rfl (lv_at hl 1 rfl) ?_
  refine lv_iconst (v := 2) hx hb dL_refusesAny_206 (by decide) ?_
  refine lv_icmp_ne (tgt := 215) hx hb dL_refusesAny_207 (by decide) (fun _ => ?_) (fun c => absurd c (by decide))
  refine lv_iload_n hx hb dL_refusesAny_215 rfl (lv_at hl 1 rfl) ?_
  refine lv_iconst (v := 4) hx hb dL_refusesAny_216 (by decide) ?_
  refine lv_icmp_ne (tgt := 225) hx hb dL_refusesAny_217 (by decide) (fun _ => ?_) (fun c => absurd c (by decide))
  refine lv_iload_n hx hb dL_refusesAny_225 rfl (lv_at hl 1 rfl) ?_
  refine lv_bipush (v := 7) hx hb dL_refusesAny_226 (by decide) ?_
  refine lv_icmp_ne (tgt := 237) hx hb dL_refusesAny_228 (by decide) (fun _ => ?_) (fun c => absurd c (by decide))
  refine lv_iload_n hx hb dL_refusesAny_237 rfl (lv_at hl 1 rfl) ?_
  refine lv_bipush (v := 8) hx hb dL_refusesAny_238 (by decide) ?_
  refine lv_icmp_ne (tgt := 248) hx hb dL_refusesAny_240 (by decide) (fun _ => ?_) (fun c => absurd c (by decide))
  refine lv_bipush (v := 80) hx hb dL_refusesAny_248 (by decide) ?_
  refine lv_istore (lv' := [(5, .int 80), (4, .int (-30)), (3, .int 3), (2, .int (-1)), (0, .ref (x 0)), (1, .int 0)]) hx hb dL_refusesAny_250 hl (by decide) rfl (fun ls hl => ?_)
  refine lv_aload_n hx hb dL_refusesAny_252 rfl (lv_at hl 4 rfl) ?_
  refine lv_iload_n hx hb dL_refusesAny_253 rfl (lv_at hl 2 rfl) ?_
  refine lv_iload_n hx hb dL_refusesAny_254 rfl (lv_at hl 5 rfl) ?_
  refine lv_if_ne (tgt := 265) hx hb dL_refusesAny_255 (by decide) (fun c => absurd c (by decide)) (fun _ => ?_)
  refine lv_iload hx hb dL_refusesAny_258 (lv_at hl 1 rfl) ?_
  refine lv_iconst (v := 1) hx hb dL_refusesAny_260 (by decide) ?_
  refine lv_isub hx hb dL_refusesAny_261 ?_
  refine g_topE (y := (-31)) (by decide) ?_
  refine lv_goto (tgt := 269) hx hb dL_refusesAny_262 (by decide) ?_
  obtain ⟨k4, hok⟩ := hok
  refine g_callZ (cr_setB l G z x cx o st b pf g hh 3 (-31) k4) hx hb hml hown hts hK hP hD hS hA hZ gL_refusesAny_X6_set rfl (n := 2) (by decide +kernel) rfl ⟨Nat.le_of_ble_eq_true rfl, Nat.le_of_ble_eq_true rfl⟩ [0, 1, 2, 3, 4, 5, 11] rfl (by decide) 0 rfl (ci := 6) rfl hl.1 rfl (Nat.le_of_ble_eq_true rfl) ⟨Nat.zero_le _, Nat.zero_le _⟩ dL_refusesAny_269 (fun H locs hP hD hS => ?_)
  have hP : va_P G.1 vwCl (List.flatten [CW G x cx, OW G (fun k => x (k + 1)) o, AW G (x 2) 9 st, BW G (fun k => x (k + 3)) b, PW G (fun k => x (k + 11)) pf, LW G (fun k => x (k + 16)) g, OW G (fun k => x (k + 20)) fo, AW G (x 21) 9 fst, BW G (fun k => x (k + 22)) fb, PW G (fun k => x (k + 30)) fp, LW G (fun k => x (k + 35)) fg, HGW G (fun k => x (k + 58)) hh, TW G (fun k => x (k + 136)) t]) H := hP
  have hD : va_D A (List.flatten [CW G x cx, OW G (fun k => x (k + 1)) o, AW G (x 2) 9 st, BW G (fun k => x (k + 3)) b, PW G (fun k => x (k + 11)) pf, LW G (fun k => x (k + 16)) g, OW G (fun k => x (k + 20)) fo, AW G (x 21) 9 fst, BW G (fun k => x (k + 22)) fb, PW G (fun k => x (k + 30)) fp, LW G (fun k => x (k + 35)) fg, HGW G (fun k => x (k + 58)) hh, TW G (fun k => x (k + 136)) t]) := hD
  refine lv_bipush (v := (-2)) hx hb dL_refusesAny_272 (by decide) ?_
  refine lv_icmp_ne (tgt := 296) hx hb dL_refusesAny_274 (by decide) (fun c => absurd c (by decide)) (fun _ => ?_)
  refine lv_aload_n hx hb dL_refusesAny_277 rfl (lv_at hl 4 rfl) ?_
  refine lv_iload_n hx hb dL_refusesAny_278 rfl (lv_at hl 2 rfl) ?_
  refine lv_aload_n hx hb dL_refusesAny_279 rfl (lv_at hl 4 rfl) ?_
  refine lv_iload_n hx hb dL_refusesAny_280 rfl (lv_at hl 2 rfl) ?_
  obtain ⟨k5, hok⟩ := hok
  refine g_callV (cr_settingV l G x cx o st b pf g 3 k5) hx hb hml hown hts hK hP hD hS hA gL_refusesAny_X6_setting rfl (n := 1) (by decide +kernel) rfl ⟨Nat.le_of_ble_eq_true rfl, Nat.le_of_ble_eq_true rfl⟩ [0, 1, 2, 3, 4, 5] rfl (by decide) 0 rfl (ci := 6) rfl hl.1 rfl (Nat.le_of_ble_eq_true rfl) ⟨Nat.zero_le _, Nat.zero_le _⟩ dL_refusesAny_281 (fun H locs hP hD hS => ?_)
  have hP : va_P G.1 vwCl (List.flatten [CW G x cx, OW G (fun k => x (k + 1)) o, AW G (x 2) 9 st, BW G (fun k => x (k + 3)) b, PW G (fun k => x (k + 11)) pf, LW G (fun k => x (k + 16)) g, OW G (fun k => x (k + 20)) fo, AW G (x 21) 9 fst, BW G (fun k => x (k + 22)) fb, PW G (fun k => x (k + 30)) fp, LW G (fun k => x (k + 35)) fg, HGW G (fun k => x (k + 58)) hh, TW G (fun k => x (k + 136)) t]) H := hP
  have hD : va_D A (List.flatten [CW G x cx, OW G (fun k => x (k + 1)) o, AW G (x 2) 9 st, BW G (fun k => x (k + 3)) b, PW G (fun k => x (k + 11)) pf, LW G (fun k => x (k + 16)) g, OW G (fun k => x (k + 20)) fo, AW G (x 21) 9 fst, BW G (fun k => x (k + 22)) fb, PW G (fun k => x (k + 30)) fp, LW G (fun k => x (k + 35)) fg, HGW G (fun k => x (k + 58)) hh, TW G (fun k => x (k + 136)) t]) := hD
  refine lv_sipush (v := 1000) hx hb dL_refusesAny_284 (by decide) ?_
  refine lv_isub hx hb dL_refusesAny_287 ?_
  obtain ⟨k6, hok⟩ := hok
  refine g_callZ (cr_setN l G z x cx o st b pf g hh 3 ((st (3 : Int32).toNatClampNeg + 1000) - 1000) k6) hx hb hml hown hts hK hP hD hS hA hZ gL_refusesAny_X6_set rfl (n := 2) (by decide +kernel) rfl ⟨Nat.le_of_ble_eq_true rfl, Nat.le_of_ble_eq_true rfl⟩ [0, 1, 2, 3, 4, 5, 11] rfl (by decide) 0 rfl (ci := 6) rfl hl.1 rfl (Nat.le_of_ble_eq_true rfl) ⟨Nat.zero_le _, Nat.zero_le _⟩ dL_refusesAny_288 (fun H locs hP hD hS => ?_)
  have hP : va_P G.1 vwCl (List.flatten [CW G x cx, OW G (fun k => x (k + 1)) o, AW G (x 2) 9 st, BW G (fun k => x (k + 3)) b, PW G (fun k => x (k + 11)) pf, LW G (fun k => x (k + 16)) g, OW G (fun k => x (k + 20)) fo, AW G (x 21) 9 fst, BW G (fun k => x (k + 22)) fb, PW G (fun k => x (k + 30)) fp, LW G (fun k => x (k + 35)) fg, HGW G (fun k => x (k + 58)) hh, TW G (fun k => x (k + 136)) t]) H := hP
  have hD : va_D A (List.flatten [CW G x cx, OW G (fun k => x (k + 1)) o, AW G (x 2) 9 st, BW G (fun k => x (k + 3)) b, PW G (fun k => x (k + 11)) pf, LW G (fun k => x (k + 16)) g, OW G (fun k => x (k + 20)) fo, AW G (x 21) 9 fst, BW G (fun k => x (k + 22)) fb, PW G (fun k => x (k + 30)) fp, LW G (fun k => x (k + 35)) fg, HGW G (fun k => x (k + 58)) hh, TW G (fun k => x (k + 136)) t]) := hD
  refine lv_bipush (v := (-5)) hx hb dL_refusesAny_291 (by decide) ?_
  refine lv_icmp_eq (tgt := 298) hx hb dL_refusesAny_293 (by decide) (fun _ => ?_) (fun c => absurd c (by decide))
  refine lv_iinc (v := 4) (lv' := [(3, .int 4), (5, .int 80), (4, .int (-30)), (2, .int (-1)), (0, .ref (x 0)), (1, .int 0)]) hx hb dL_refusesAny_298 hl (k := 2) rfl (by decide) (by decide) rfl (fun ls hl => ?_)
  refine lv_goto (tgt := 135) hx hb dL_refusesAny_301 (by decide) ?_
  refine lv_iload_n hx hb dL_refusesAny_135 rfl (lv_at hl 0 rfl) ?_
  refine lv_bipush (v := 9) hx hb dL_refusesAny_136 (by decide) ?_
  refine lv_icmp_ge (tgt := 304) hx hb dL_refusesAny_138 (by decide) (fun c => absurd c (by decide)) (fun _ => ?_)
  refine lv_iload_n hx hb dL_refusesAny_141 rfl (lv_at hl 0 rfl) ?_
  refine lv_if_ne (tgt := 150) hx hb dL_refusesAny_142 (by decide) (fun _ => ?_) (fun c => absurd c (by decide))
  refine lv_iload_n hx hb dL_refusesAny_150 rfl (lv_at hl 0 rfl) ?_
  refine lv_iconst (v := 2) hx hb dL_refusesAny_151 (by decide) ?_
  refine lv_icmp_ne (tgt := 160) hx hb dL_refusesAny_152 (by decide) (fun _ => ?_) (fun c => absurd c (by decide))
  refine lv_iload_n hx hb dL_refusesAny_160 rfl (lv_at hl 0 rfl) ?_
  refine lv_iconst (v := 3) hx hb dL_refusesAny_161 (by decide) ?_
  refine lv_icmp_eq (tgt := 176) hx hb dL_refusesAny_162 (by decide) (fun c => absurd c (by decide)) (fun _ => ?_)
  refine lv_iload_n hx hb dL_refusesAny_165 rfl (lv_at hl 0 rfl) ?_
  refine lv_iconst (v := 5) hx hb dL_refusesAny_166 (by decide) ?_
  refine lv_icmp_eq (tgt := 176) hx hb dL_refusesAny_167 (by decide) (fun c => absurd c (by decide)) (fun _ => ?_)
  refine lv_iload_n hx hb dL_refusesAny_170 rfl (lv_at hl 0 rfl) ?_
  refine lv_bipush (v := 6) hx hb dL_refusesAny_171 (by decide) ?_
  refine lv_icmp_ne (tgt := 181) hx hb dL_refusesAny_173 (by decide) (fun _ => ?_) (fun c => absurd c (by decide))
  refine lv_iconst (v := 0) hx hb dL_refusesAny_181 (by decide) ?_
  refine lv_istore (lv' := [(4, .int 0), (3, .int 4), (5, .int 80), (2, .int (-1)), (0, .ref (x 0)), (1, .int 0)]) hx hb dL_refusesAny_182 hl (by decide) rfl (fun ls hl => ?_)
  refine lv_iload_n hx hb dL_refusesAny_184 rfl (lv_at hl 1 rfl) ?_
  refine lv_if_ne (tgt := 194) hx hb dL_refusesAny_185 (by decide) (fun _ => ?_) (fun c => absurd c (by decide))
  refine lv_iload_n hx hb dL_refusesAny_194 rfl (lv_at hl 1 rfl) ?_
  refine lv_iconst (v := 1) hx hb dL_refusesAny_195 (by decide) ?_
  refine lv_icmp_ne (tgt := 205) hx hb dL_refusesAny_196 (by decide) (fun _ => ?_) (fun c => absurd c (by decide))
  refine lv_iload_n hx hb dL_refusesAny_205 rfl (lv_at hl 1 rfl) ?_
  refine lv_iconst (v := 2) hx hb dL_refusesAny_206 (by decide) ?_
  refine lv_icmp_ne (tgt := 215) hx hb dL_refusesAny_207 (by decide) (fun _ => ?_) (fun c => absurd c (by decide))
  refine lv_iload_n hx hb dL_refusesAny_215 rfl (lv_at hl 1 rfl) ?_
  refine lv_iconst (v := 4) hx hb dL_refusesAny_216 (by decide) ?_
  refine lv_icmp_ne (tgt := 225) hx hb dL_refusesAny_217 (by decide) (fun c => absurd c (by decide)) (fun _ => ?_)
  refine lv_bipush (v := 10) hx hb dL_refusesAny_220 (by decide) ?_
  refine lv_goto (tgt := 250) hx hb dL_refusesAny_222 (by decide) ?_
  refine lv_istore (lv' := [(5, .int 10), (4, .int 0), (3, .int 4), (2, .int (-1)), (0, .ref (x 0)), (1, .int 0)]) hx hb dL_refusesAny_250 hl (by decide) rfl (fun ls hl => ?_)
  exact c_L_refusesAny0_3 l G z x cx o st b pf g fo fst fb fp fg hh t hx hb hml hr hts hown hlocks hK hA hZ hok hP hD hS (lv_sub hl [0, 1, 2, 3, 4, 5] rfl)
set_option maxHeartbeats 4000000 in
set_option maxRecDepth 100000 in
theorem c_L_refusesAny0_1 (l : Launch) (G : gG) (z : Nat × Nat × Nat) (x : Nat → Nat) (cx : (Nat → Int32)) (o : (Nat → Int32)) (st : (Nat → Int32)) (b : (Nat → Nat → Int32)) (pf : (Nat → Nat → Int32)) (g : (Nat → Nat → Int32)) (fo : (Nat → Int32)) (fst : (Nat → Int32)) (fb : (Nat → Nat → Int32)) (fp : (Nat → Nat → Int32)) (fg : (Nat → Nat → Int32)) (hh : HVal) (t : (Nat → Nat → Int32)) {p : Program} {e : Env} {s : State} {m : MethodId} {below : List Frame} {meth : Method} {c : Code} {A : Nat → Prop} {H : Heap} {locs : List Loc} {ls : Array Slot} (hx : p.tables.exec = Jvm.exec) (hb : c.code = cL_refusesAny) (hml : c.maxLocals = 6) (hr : meth.sig.returnType = (some .boolean)) (hts : ∀ w ∈ wsL_refusesAny, w.before (List.toArray [.ref (x 0), .int 0]) s = true) (hown : s.vm.findClass RL = some m.cls) (hlocks : meth.locks = false) (hK : gK G s) (hA : ∀ q : Nat, s.heap.size ≤ q → A q) (hZ : gZ z A s) (hok : (rok_setB o st b pf g hh 0 99) ∧ (rok_settingV 0) ∧ (rok_setN o st b pf g hh 0 ((st (0 : Int32).toNatClampNeg + 1000) - 1000)) ∧ (rok_setB o st b pf g hh 1 (-1)) ∧ (rok_settingV 1) ∧ (rok_setN o st b pf g hh 1 ((st (1 : Int32).toNatClampNeg + 1000) - 1000)) ∧ (rok_setB o st b pf g hh 2 49) ∧ (rok_settingV 2) ∧ (rok_setN o st b pf g hh 2 ((st (2 : Int32).toNatClampNeg + 1000) - 1000)) ∧ (rok_setB o st b pf g hh 3 (-31)) ∧ (rok_settingV 3) ∧ (rok_setN o st b pf g hh 3 ((st (3 : Int32).toNatClampNeg + 1000) - 1000)) ∧ (rok_setB o st b pf g hh 4 (-1)) ∧ (rok_settingV 4) ∧ (rok_setN o st b pf g hh 4 ((st (4 : Int32).toNatClampNeg + 1000) - 1000)) ∧ (rok_setB o st b pf g hh 5 (-31)) ∧ (rok_settingV 5) ∧ (rok_setN o st b pf g hh 5 ((st (5 : Int32).toNatClampNeg + 1000) - 1000)) ∧ (rok_setB o st b pf g hh 6 (-31)) ∧ (rok_settingV 6) ∧ (rok_setN o st b pf g hh 6 ((st (6 : Int32).toNatClampNeg + 1000) - 1000)) ∧ (rok_setB o st b pf g hh 7 (-1)) ∧ (rok_settingV 7) ∧ (rok_setN o st b pf g hh 7 ((st (7 : Int32).toNatClampNeg + 1000) - 1000)) ∧ (rok_setB o st b pf g hh 8 (-1)) ∧ (rok_settingV 8) ∧ (rok_setN o st b pf g hh 8 ((st (8 : Int32).toNatClampNeg + 1000) - 1000)) ∧ (rok_cellU st b (-1) 99) ∧ (rok_cellB st b 0 (-1)) ∧ (rok_settingU (-1)) ∧ (rok_stageU pf (-1) 99) ∧ (rok_voltage st b (-1)) ∧ (rok_chargeInU o st b pf g (-1) (-1)) ∧ (rok_chargeInB o st b pf g 0 (-1)) ∧ (rok_eventB g (-1) 0) ∧ (rok_eventN g 10 0) ∧ (rok_countB b (-1)) ∧ (rok_count3 b o) ∧ (rok_warmest o st b pf g fo fst fb fp fg) ∧ (rok_count3 b o) ∧ (rok_count3 b o) ∧ (rok_stop o hh) ∧ True) (hP : va_P G.1 vwCl (List.flatten [CW G x cx, OW G (fun k => x (k + 1)) o, AW G (x 2) 9 st, BW G (fun k => x (k + 3)) b, PW G (fun k => x (k + 11)) pf, LW G (fun k => x (k + 16)) g, OW G (fun k => x (k + 20)) fo, AW G (x 21) 9 fst, BW G (fun k => x (k + 22)) fb, PW G (fun k => x (k + 30)) fp, LW G (fun k => x (k + 35)) fg, HGW G (fun k => x (k + 58)) hh, TW G (fun k => x (k + 136)) t]) H) (hD : va_D A (List.flatten [CW G x cx, OW G (fun k => x (k + 1)) o, AW G (x 2) 9 st, BW G (fun k => x (k + 3)) b, PW G (fun k => x (k + 11)) pf, LW G (fun k => x (k + 16)) g, OW G (fun k => x (k + 20)) fo, AW G (x 21) 9 fst, BW G (fun k => x (k + 22)) fb, PW G (fun k => x (k + 30)) fp, LW G (fun k => x (k + 35)) fg, HGW G (fun k => x (k + 58)) hh, TW G (fun k => x (k + 136)) t])) (hS : va_S A s.heap H locs) (hl : lv_has ls 6 [(5, .int 5000), (4, .int 100), (3, .int 0), (2, .int (-1)), (0, .ref (x 0)), (1, .int 0)]) : W p l e { frames := 8, cells := 0, slots := 0, locals := 164 } s m (List.toArray [.ref (x 0), .int 0]) below meth c H locs 0 0 (gQ G below (List.toArray [.ref (x 0), .int 0]) s (some (.int 1)) [CW G x cx, OW G (fun k => x (k + 1)) o, AW G (x 2) 9 st, BW G (fun k => x (k + 3)) b, PW G (fun k => x (k + 11)) pf, LW G (fun k => x (k + 16)) g, OW G (fun k => x (k + 20)) fo, AW G (x 21) 9 fst, BW G (fun k => x (k + 22)) fb, PW G (fun k => x (k + 30)) fp, LW G (fun k => x (k + 35)) fg, HGW G (fun k => x (k + 58)) hh, TW G (fun k => x (k + 136)) t] A) (F0 m 252 ls []) := by
  refine lv_aload_n hx hb dL_refusesAny_252 rfl (lv_at hl 4 rfl) ?_
  refine lv_iload_n hx hb dL_refusesAny_253 rfl (lv_at hl 2 rfl) ?_
  refine lv_iload_n hx hb dL_refusesAny_254 rfl (lv_at hl 5 rfl) ?_
  refine lv_if_ne (tgt := 265) hx hb dL_refusesAny_255 (by decide) (fun c => absurd c (by decide)) (fun _ => ?_)
  refine lv_iload hx hb dL_refusesAny_258 (lv_at hl 1 rfl) ?_
  refine lv_iconst (v := 1) hx hb dL_refusesAny_260 (by decide) ?_
  refine lv_isub hx hb dL_refusesAny_261 ?_
  refine g_topE (y := 99) (by decide) ?_
  refine lv_goto (tgt := 269) hx hb dL_refusesAny_262 (by decide) ?_
  obtain ⟨k1, hok⟩ := hok
  refine g_callZ (cr_setB l G z x cx o st b pf g hh 0 99 k1) hx hb hml hown hts hK hP hD hS hA hZ gL_refusesAny_X6_set rfl (n := 2) (by decide +kernel) rfl ⟨Nat.le_of_ble_eq_true rfl, Nat.le_of_ble_eq_true rfl⟩ [0, 1, 2, 3, 4, 5, 11] rfl (by decide) 0 rfl (ci := 6) rfl hl.1 rfl (Nat.le_of_ble_eq_true rfl) ⟨Nat.zero_le _, Nat.zero_le _⟩ dL_refusesAny_269 (fun H locs hP hD hS => ?_)
  have hP : va_P G.1 vwCl (List.flatten [CW G x cx, OW G (fun k => x (k + 1)) o, AW G (x 2) 9 st, BW G (fun k => x (k + 3)) b, PW G (fun k => x (k + 11)) pf, LW G (fun k => x (k + 16)) g, OW G (fun k => x (k + 20)) fo, AW G (x 21) 9 fst, BW G (fun k => x (k + 22)) fb, PW G (fun k => x (k + 30)) fp, LW G (fun k => x (k + 35)) fg, HGW G (fun k => x (k + 58)) hh, TW G (fun k => x (k + 136)) t]) H := hP
  have hD : va_D A (List.flatten [CW G x cx, OW G (fun k => x (k + 1)) o, AW G (x 2) 9 st, BW G (fun k => x (k + 3)) b, PW G (fun k => x (k + 11)) pf, LW G (fun k => x (k + 16)) g, OW G (fun k => x (k + 20)) fo, AW G (x 21) 9 fst, BW G (fun k => x (k + 22)) fb, PW G (fun k => x (k + 30)) fp, LW G (fun k => x (k + 35)) fg, HGW G (fun k => x (k + 58)) hh, TW G (fun k => x (k + 136)) t]) := hD
  refine lv_bipush (v := (-2)) hx hb dL_refusesAny_272 (by decide) ?_
  refine lv_icmp_ne (tgt := 296) hx hb dL_refusesAny_274 (by decide) (fun c => absurd c (by decide)) (fun _ => ?_)
  refine lv_aload_n hx hb dL_refusesAny_277 rfl (lv_at hl 4 rfl) ?_
  refine lv_iload_n hx hb dL_refusesAny_278 rfl (lv_at hl 2 rfl) ?_
  refine lv_aload_n hx hb dL_refusesAny_279 rfl (lv_at hl 4 rfl) ?_
  refine lv_iload_n hx hb dL_refusesAny_280 rfl (lv_at hl 2 rfl) ?_
  obtain ⟨k2, hok⟩ := hok
  refine g_callV (cr_settingV l G x cx o st b pf g 0 k2) hx hb hml hown hts hK hP hD hS hA gL_refusesAny_X6_setting rfl (n := 1) (by decide +kernel) rfl ⟨Nat.le_of_ble_eq_true rfl, Nat.le_of_ble_eq_true rfl⟩ [0, 1, 2, 3, 4, 5] rfl (by decide) 0 rfl (ci := 6) rfl hl.1 rfl (Nat.le_of_ble_eq_true rfl) ⟨Nat.zero_le _, Nat.zero_le _⟩ dL_refusesAny_281 (fun H locs hP hD hS => ?_)
  have hP : va_P G.1 vwCl (List.flatten [CW G x cx, OW G (fun k => x (k + 1)) o, AW G (x 2) 9 st, BW G (fun k => x (k + 3)) b, PW G (fun k => x (k + 11)) pf, LW G (fun k => x (k + 16)) g, OW G (fun k => x (k + 20)) fo, AW G (x 21) 9 fst, BW G (fun k => x (k + 22)) fb, PW G (fun k => x (k + 30)) fp, LW G (fun k => x (k + 35)) fg, HGW G (fun k => x (k + 58)) hh, TW G (fun k => x (k + 136)) t]) H := hP
  have hD : va_D A (List.flatten [CW G x cx, OW G (fun k => x (k + 1)) o, AW G (x 2) 9 st, BW G (fun k => x (k + 3)) b, PW G (fun k => x (k + 11)) pf, LW G (fun k => x (k + 16)) g, OW G (fun k => x (k + 20)) fo, AW G (x 21) 9 fst, BW G (fun k => x (k + 22)) fb, PW G (fun k => x (k + 30)) fp, LW G (fun k => x (k + 35)) fg, HGW G (fun k => x (k + 58)) hh, TW G (fun k => x (k + 136)) t]) := hD
  refine lv_sipush (v := 1000) hx hb dL_refusesAny_284 (by decide) ?_
  refine lv_isub hx hb dL_refusesAny_287 ?_
  obtain ⟨k3, hok⟩ := hok
  refine g_callZ (cr_setN l G z x cx o st b pf g hh 0 ((st (0 : Int32).toNatClampNeg + 1000) - 1000) k3) hx hb hml hown hts hK hP hD hS hA hZ gL_refusesAny_X6_set rfl (n := 2) (by decide +kernel) rfl ⟨Nat.le_of_ble_eq_true rfl, Nat.le_of_ble_eq_true rfl⟩ [0, 1, 2, 3, 4, 5, 11] rfl (by decide) 0 rfl (ci := 6) rfl hl.1 rfl (Nat.le_of_ble_eq_true rfl) ⟨Nat.zero_le _, Nat.zero_le _⟩ dL_refusesAny_288 (fun H locs hP hD hS => ?_)
  have hP : va_P G.1 vwCl (List.flatten [CW G x cx, OW G (fun k => x (k + 1)) o, AW G (x 2) 9 st, BW G (fun k => x (k + 3)) b, PW G (fun k => x (k + 11)) pf, LW G (fun k => x (k + 16)) g, OW G (fun k => x (k + 20)) fo, AW G (x 21) 9 fst, BW G (fun k => x (k + 22)) fb, PW G (fun k => x (k + 30)) fp, LW G (fun k => x (k + 35)) fg, HGW G (fun k => x (k + 58)) hh, TW G (fun k => x (k + 136)) t]) H := hP
  have hD : va_D A (List.flatten [CW G x cx, OW G (fun k => x (k + 1)) o, AW G (x 2) 9 st, BW G (fun k => x (k + 3)) b, PW G (fun k => x (k + 11)) pf, LW G (fun k => x (k + 16)) g, OW G (fun k => x (k + 20)) fo, AW G (x 21) 9 fst, BW G (fun k => x (k + 22)) fb, PW G (fun k => x (k + 30)) fp, LW G (fun k => x (k + 35)) fg, HGW G (fun k => x (k + 58)) hh, TW G (fun k => x (k + 136)) t]) := hD
  refine lv_bipush (v := (-5)) hx hb dL_refusesAny_291 (by decide) ?_
  refine lv_icmp_eq (tgt := 298) hx hb dL_refusesAny_293 (by decide) (fun _ => ?_) (fun c => absurd c (by decide))
  refine lv_iinc (v := 1) (lv' := [(3, .int 1), (5, .int 5000), (4, .int 100), (2, .int (-1)), (0, .ref (x 0)), (1, .int 0)]) hx hb dL_refusesAny_298 hl (k := 2) rfl (by decide) (by decide) rfl (fun ls hl => ?_)
  refine lv_goto (tgt := 135) hx hb dL_refusesAny_301 (by decide) ?_
  refine lv_iload_n hx hb dL_refusesAny_135 rfl (lv_at hl 0 rfl) ?_
  refine lv_bipush (v := 9) hx hb dL_refusesAny_136 (by decide) ?_
  refine lv_icmp_ge (tgt := 304) hx hb dL_refusesAny_138 (by decide) (fun c => absurd c (by decide)) (fun _ => ?_)
  refine lv_iload_n hx hb dL_refusesAny_141 rfl (lv_at hl 0 rfl) ?_
  refine lv_if_ne (tgt := 150) hx hb dL_refusesAny_142 (by decide) (fun _ => ?_) (fun c => absurd c (by decide))
  refine lv_iload_n hx hb dL_refusesAny_150 rfl (lv_at hl 0 rfl) ?_
  refine lv_iconst (v := 2) hx hb dL_refusesAny_151 (by decide) ?_
  refine lv_icmp_ne (tgt := 160) hx hb dL_refusesAny_152 (by decide) (fun _ => ?_) (fun c => absurd c (by decide))
  refine lv_iload_n hx hb dL_refusesAny_160 rfl (lv_at hl 0 rfl) ?_
  refine lv_iconst (v := 3) hx hb dL_refusesAny_161 (by decide) ?_
  refine lv_icmp_eq (tgt := 176) hx hb dL_refusesAny_162 (by decide) (fun c => absurd c (by decide)) (fun _ => ?_)
  refine lv_iload_n hx hb dL_refusesAny_165 rfl (lv_at hl 0 rfl) ?_
  refine lv_iconst (v := 5) hx hb dL_refusesAny_166 (by decide) ?_
  refine lv_icmp_eq (tgt := 176) hx hb dL_refusesAny_167 (by decide) (fun c => absurd c (by decide)) (fun _ => ?_)
  refine lv_iload_n hx hb dL_refusesAny_170 rfl (lv_at hl 0 rfl) ?_
  refine lv_bipush (v := 6) hx hb dL_refusesAny_171 (by decide) ?_
  refine lv_icmp_ne (tgt := 181) hx hb dL_refusesAny_173 (by decide) (fun _ => ?_) (fun c => absurd c (by decide))
  refine lv_iconst (v := 0) hx hb dL_refusesAny_181 (by decide) ?_
  refine lv_istore (lv' := [(4, .int 0), (3, .int 1), (5, .int 5000), (2, .int (-1)), (0, .ref (x 0)), (1, .int 0)]) hx hb dL_refusesAny_182 hl (by decide) rfl (fun ls hl => ?_)
  refine lv_iload_n hx hb dL_refusesAny_184 rfl (lv_at hl 1 rfl) ?_
  refine lv_if_ne (tgt := 194) hx hb dL_refusesAny_185 (by decide) (fun _ => ?_) (fun c => absurd c (by decide))
  refine lv_iload_n hx hb dL_refusesAny_194 rfl (lv_at hl 1 rfl) ?_
  refine lv_iconst (v := 1) hx hb dL_refusesAny_195 (by decide) ?_
  refine lv_icmp_ne (tgt := 205) hx hb dL_refusesAny_196 (by decide) (fun c => absurd c (by decide)) (fun _ => ?_)
  refine lv_sipush (v := 200) hx hb dL_refusesAny_199 (by decide) ?_
  refine lv_goto (tgt := 250) hx hb dL_refusesAny_202 (by decide) ?_
  refine lv_istore (lv' := [(5, .int 200), (4, .int 0), (3, .int 1), (2, .int (-1)), (0, .ref (x 0)), (1, .int 0)]) hx hb dL_refusesAny_250 hl (by decide) rfl (fun ls hl => ?_)
  refine lv_aload_n hx hb dL_refusesAny_252 rfl (lv_at hl 4 rfl) ?_
  refine lv_iload_n hx hb dL_refusesAny_253 rfl (lv_at hl 2 rfl) ?_
  refine lv_iload_n hx hb dL_refusesAny_254 rfl (lv_at hl 5 rfl) ?_
  refine lv_if_ne (tgt := 265) hx hb dL_refusesAny_255 (by decide) (fun c => absurd c (by decide)) (fun _ => ?_)
  refine lv_iload hx hb dL_refusesAny_258 (lv_at hl 1 rfl) ?_
  refine lv_iconst (v := 1) hx hb dL_refusesAny_260 (by decide) ?_
  refine lv_isub hx hb dL_refusesAny_261 ?_
  refine g_topE (y := (-1)) (by decide) ?_
  refine lv_goto (tgt := 269) hx hb dL_refusesAny_262 (by decide) ?_
  obtain ⟨k4, hok⟩ := hok
  refine g_callZ (cr_setB l G z x cx o st b pf g hh 1 (-1) k4) hx hb hml hown hts hK hP hD hS hA hZ gL_refusesAny_X6_set rfl (n := 2) (by decide +kernel) rfl ⟨Nat.le_of_ble_eq_true rfl, Nat.le_of_ble_eq_true rfl⟩ [0, 1, 2, 3, 4, 5, 11] rfl (by decide) 0 rfl (ci := 6) rfl hl.1 rfl (Nat.le_of_ble_eq_true rfl) ⟨Nat.zero_le _, Nat.zero_le _⟩ dL_refusesAny_269 (fun H locs hP hD hS => ?_)
  have hP : va_P G.1 vwCl (List.flatten [CW G x cx, OW G (fun k => x (k + 1)) o, AW G (x 2) 9 st, BW G (fun k => x (k + 3)) b, PW G (fun k => x (k + 11)) pf, LW G (fun k => x (k + 16)) g, OW G (fun k => x (k + 20)) fo, AW G (x 21) 9 fst, BW G (fun k => x (k + 22)) fb, PW G (fun k => x (k + 30)) fp, LW G (fun k => x (k + 35)) fg, HGW G (fun k => x (k + 58)) hh, TW G (fun k => x (k + 136)) t]) H := hP
  have hD : va_D A (List.flatten [CW G x cx, OW G (fun k => x (k + 1)) o, AW G (x 2) 9 st, BW G (fun k => x (k + 3)) b, PW G (fun k => x (k + 11)) pf, LW G (fun k => x (k + 16)) g, OW G (fun k => x (k + 20)) fo, AW G (x 21) 9 fst, BW G (fun k => x (k + 22)) fb, PW G (fun k => x (k + 30)) fp, LW G (fun k => x (k + 35)) fg, HGW G (fun k => x (k + 58)) hh, TW G (fun k => x (k + 136)) t]) := hD
  refine lv_bipush (v := (-2)) hx hb dL_refusesAny_272 (by decide) ?_
  refine lv_icmp_ne (tgt := 296) hx hb dL_refusesAny_274 (by decide) (fun c => absurd c (by decide)) (fun _ => ?_)
  refine lv_aload_n hx hb dL_refusesAny_277 rfl (lv_at hl 4 rfl) ?_
  refine lv_iload_n hx hb dL_refusesAny_278 rfl (lv_at hl 2 rfl) ?_
  refine lv_aload_n hx hb dL_refusesAny_279 rfl (lv_at hl 4 rfl) ?_
  refine lv_iload_n hx hb dL_refusesAny_280 rfl (lv_at hl 2 rfl) ?_
  obtain ⟨k5, hok⟩ := hok
  refine g_callV (cr_settingV l G x cx o st b pf g 1 k5) hx hb hml hown hts hK hP hD hS hA gL_refusesAny_X6_setting rfl (n := 1) (by decide +kernel) rfl ⟨Nat.le_of_ble_eq_true rfl, Nat.le_of_ble_eq_true rfl⟩ [0, 1, 2, 3, 4, 5] rfl (by decide) 0 rfl (ci := 6) rfl hl.1 rfl (Nat.le_of_ble_eq_true rfl) ⟨Nat.zero_le _, Nat.zero_le _⟩ dL_refusesAny_281 (fun H locs hP hD hS => ?_)
  have hP : va_P G.1 vwCl (List.flatten [CW G x cx, OW G (fun k => x (k + 1)) o, AW G (x 2) 9 st, BW G (fun k => x (k + 3)) b, PW G (fun k => x (k + 11)) pf, LW G (fun k => x (k + 16)) g, OW G (fun k => x (k + 20)) fo, AW G (x 21) 9 fst, BW G (fun k => x (k + 22)) fb, PW G (fun k => x (k + 30)) fp, LW G (fun k => x (k + 35)) fg, HGW G (fun k => x (k + 58)) hh, TW G (fun k => x (k + 136)) t]) H := hP
  have hD : va_D A (List.flatten [CW G x cx, OW G (fun k => x (k + 1)) o, AW G (x 2) 9 st, BW G (fun k => x (k + 3)) b, PW G (fun k => x (k + 11)) pf, LW G (fun k => x (k + 16)) g, OW G (fun k => x (k + 20)) fo, AW G (x 21) 9 fst, BW G (fun k => x (k + 22)) fb, PW G (fun k => x (k + 30)) fp, LW G (fun k => x (k + 35)) fg, HGW G (fun k => x (k + 58)) hh, TW G (fun k => x (k + 136)) t]) := hD
  refine lv_sipush (v := 1000) hx hb dL_refusesAny_284 (by decide) ?_
  refine lv_isub hx hb dL_refusesAny_287 ?_
  obtain ⟨k6, hok⟩ := hok
  refine g_callZ (cr_setN l G z x cx o st b pf g hh 1 ((st (1 : Int32).toNatClampNeg + 1000) - 1000) k6) hx hb hml hown hts hK hP hD hS hA hZ gL_refusesAny_X6_set rfl (n := 2) (by decide +kernel) rfl ⟨Nat.le_of_ble_eq_true rfl, Nat.le_of_ble_eq_true rfl⟩ [0, 1, 2, 3, 4, 5, 11] rfl (by decide) 0 rfl (ci := 6) rfl hl.1 rfl (Nat.le_of_ble_eq_true rfl) ⟨Nat.zero_le _, Nat.zero_le _⟩ dL_refusesAny_288 (fun H locs hP hD hS => ?_)
  have hP : va_P G.1 vwCl (List.flatten [CW G x cx, OW G (fun k => x (k + 1)) o, AW G (x 2) 9 st, BW G (fun k => x (k + 3)) b, PW G (fun k => x (k + 11)) pf, LW G (fun k => x (k + 16)) g, OW G (fun k => x (k + 20)) fo, AW G (x 21) 9 fst, BW G (fun k => x (k + 22)) fb, PW G (fun k => x (k + 30)) fp, LW G (fun k => x (k + 35)) fg, HGW G (fun k => x (k + 58)) hh, TW G (fun k => x (k + 136)) t]) H := hP
  have hD : va_D A (List.flatten [CW G x cx, OW G (fun k => x (k + 1)) o, AW G (x 2) 9 st, BW G (fun k => x (k + 3)) b, PW G (fun k => x (k + 11)) pf, LW G (fun k => x (k + 16)) g, OW G (fun k => x (k + 20)) fo, AW G (x 21) 9 fst, BW G (fun k => x (k + 22)) fb, PW G (fun k => x (k + 30)) fp, LW G (fun k => x (k + 35)) fg, HGW G (fun k => x (k + 58)) hh, TW G (fun k => x (k + 136)) t]) := hD
  refine lv_bipush (v := (-5)) hx hb dL_refusesAny_291 (by decide) ?_
  refine lv_icmp_eq (tgt := 298) hx hb dL_refusesAny_293 (by decide) (fun _ => ?_) (fun c => absurd c (by decide))
  refine lv_iinc (v := 2) (lv' := [(3, .int 2), (5, .int 200), (4, .int 0), (2, .int (-1)), (0, .ref (x 0)), (1, .int 0)]) hx hb dL_refusesAny_298 hl (k := 2) rfl (by decide) (by decide) rfl (fun ls hl => ?_)
  refine lv_goto (tgt := 135) hx hb dL_refusesAny_301 (by decide) ?_
  refine lv_iload_n hx hb dL_refusesAny_135 rfl (lv_at hl 0 rfl) ?_
  refine lv_bipush (v := 9) hx hb dL_refusesAny_136 (by decide) ?_
  refine lv_icmp_ge (tgt := 304) hx hb dL_refusesAny_138 (by decide) (fun c => absurd c (by decide)) (fun _ => ?_)
  refine lv_iload_n hx hb dL_refusesAny_141 rfl (lv_at hl 0 rfl) ?_
  refine lv_if_ne (tgt := 150) hx hb dL_refusesAny_142 (by decide) (fun _ => ?_) (fun c => absurd c (by decide))
  refine lv_iload_n hx hb dL_refusesAny_150 rfl (lv_at hl 0 rfl) ?_
  refine lv_iconst (v := 2) hx hb dL_refusesAny_151 (by decide) ?_
  refine lv_icmp_ne (tgt := 160) hx hb dL_refusesAny_152 (by decide) (fun c => absurd c (by decide)) (fun _ => ?_)
  refine lv_bipush (v := 50) hx hb dL_refusesAny_155 (by decide) ?_
  refine lv_goto (tgt := 182) hx hb dL_refusesAny_157 (by decide) ?_
  refine lv_istore (lv' := [(4, .int 50), (3, .int 2), (5, .int 200), (2, .int (-1)), (0, .ref (x 0)), (1, .int 0)]) hx hb dL_refusesAny_182 hl (by decide) rfl (fun ls hl => ?_)
  refine lv_iload_n hx hb dL_refusesAny_184 rfl (lv_at hl 1 rfl) ?_
  refine lv_if_ne (tgt := 194) hx hb dL_refusesAny_185 (by decide) (fun _ => ?_) (fun c => absurd c (by decide))
  refine lv_iload_n hx hb dL_refusesAny_194 rfl (lv_at hl 1 rfl) ?_
  refine lv_iconst (v := 1) hx hb dL_refusesAny_195 (by decide) ?_
  refine lv_icmp_ne (tgt := 205) hx hb dL_refusesAny_196 (by decide) (fun _ => ?_) (fun c => absurd c (by decide))
  refine lv_iload_n hx hb dL_refusesAny_205 rfl (lv_at hl 1 rfl) ?_
  refine lv_iconst (v := 2) hx hb dL_refusesAny_206 (by decide) ?_
  refine lv_icmp_ne (tgt := 215) hx hb dL_refusesAny_207 (by decide) (fun c => absurd c (by decide)) (fun _ => ?_)
  refine lv_bipush (v := 100) hx hb dL_refusesAny_210 (by decide) ?_
  refine lv_goto (tgt := 250) hx hb dL_refusesAny_212 (by decide) ?_
  refine lv_istore (lv' := [(5, .int 100), (4, .int 50), (3, .int 2), (2, .int (-1)), (0, .ref (x 0)), (1, .int 0)]) hx hb dL_refusesAny_250 hl (by decide) rfl (fun ls hl => ?_)
  exact c_L_refusesAny0_2 l G z x cx o st b pf g fo fst fb fp fg hh t hx hb hml hr hts hown hlocks hK hA hZ hok hP hD hS (lv_sub hl [0, 1, 2, 3, 4, 5] rfl)
set_option maxHeartbeats 4000000 in
set_option maxRecDepth 100000 in
theorem c_L_refusesAny0 (l : Launch) (G : gG) (z : Nat × Nat × Nat) (x : Nat → Nat) (cx : (Nat → Int32)) (o : (Nat → Int32)) (st : (Nat → Int32)) (b : (Nat → Nat → Int32)) (pf : (Nat → Nat → Int32)) (g : (Nat → Nat → Int32)) (fo : (Nat → Int32)) (fst : (Nat → Int32)) (fb : (Nat → Nat → Int32)) (fp : (Nat → Nat → Int32)) (fg : (Nat → Nat → Int32)) (hh : HVal) (t : (Nat → Nat → Int32)) (hok : ok_L_refusesAny0 o st b pf g fo fst fb fp fg hh) : CTZ z l G yL_refusesAny wsL_refusesAny 8 164 [.ref (x 0), .int 0] [CW G x cx, OW G (fun k => x (k + 1)) o, AW G (x 2) 9 st, BW G (fun k => x (k + 3)) b, PW G (fun k => x (k + 11)) pf, LW G (fun k => x (k + 16)) g, OW G (fun k => x (k + 20)) fo, AW G (x 21) 9 fst, BW G (fun k => x (k + 22)) fb, PW G (fun k => x (k + 30)) fp, LW G (fun k => x (k + 35)) fg, HGW G (fun k => x (k + 58)) hh, TW G (fun k => x (k + 136)) t] (some (.int 1)) [CW G x cx, OW G (fun k => x (k + 1)) o, AW G (x 2) 9 st, BW G (fun k => x (k + 3)) b, PW G (fun k => x (k + 11)) pf, LW G (fun k => x (k + 16)) g, OW G (fun k => x (k + 20)) fo, AW G (x 21) 9 fst, BW G (fun k => x (k + 22)) fb, PW G (fun k => x (k + 30)) fp, LW G (fun k => x (k + 35)) fg, HGW G (fun k => x (k + 58)) hh, TW G (fun k => x (k + 136)) t] := by
  unfold ok_L_refusesAny0 at hok
  refine CTZ.of (cc := cL_refusesAny) (maxL := 6) (ret := (some .boolean)) (plainFor_of_name (by decide +kernel)) rfl rfl (Nat.le_of_ble_eq_true rfl) ?_
  intro p e s m below meth c A ls hx hb hml hr hts hown hlocks hK hP hD hA hS hl hZ
  have hown : s.vm.findClass RL = some m.cls := hown
  have hl : lv_has ls 6 [(0, .ref (x 0)), (1, .int 0)] := hl
  refine lv_iload_n hx hb dL_refusesAny_0 rfl (lv_at hl 1 rfl) ?_
  refine lv_if_ne (tgt := 8) hx hb dL_refusesAny_1 (by decide) (fun c => absurd c (by decide)) (fun _ => ?_)
  refine lv_iconst (v := (-1)) hx hb dL_refusesAny_4 (by decide) ?_
  refine lv_goto (tgt := 10) hx hb dL_refusesAny_5 (by decide) ?_
  refine lv_istore_n (lv' := [(2, .int (-1)), (0, .ref (x 0)), (1, .int 0)]) hx hb dL_refusesAny_10 rfl hl (by decide) rfl (fun ls hl => ?_)
  refine lv_aload_n hx hb dL_refusesAny_11 rfl (lv_at hl 1 rfl) ?_
  refine lv_iload_n hx hb dL_refusesAny_12 rfl (lv_at hl 2 rfl) ?_
  refine lv_if_ne (tgt := 20) hx hb dL_refusesAny_13 (by decide) (fun c => absurd c (by decide)) (fun _ => ?_)
  refine lv_iconst (v := 0) hx hb dL_refusesAny_16 (by decide) ?_
  refine lv_goto (tgt := 22) hx hb dL_refusesAny_17 (by decide) ?_
  obtain ⟨k1, hok⟩ := hok
  refine g_callV (cr_battery l G x cx o st b pf g hh 0 k1) hx hb hml hown hts hK hP hD hS hA gL_refusesAny_X6_battery rfl (n := 1) (by decide +kernel) rfl ⟨Nat.le_of_ble_eq_true rfl, Nat.le_of_ble_eq_true rfl⟩ [0, 1, 2, 3, 4, 5, 11] rfl (by decide) 0 rfl (ci := 6) rfl hl.1 rfl (Nat.le_of_ble_eq_true rfl) ⟨Nat.zero_le _, Nat.zero_le _⟩ dL_refusesAny_22 (fun H locs hP hD hS => ?_)
  have hP : va_P G.1 vwCl (List.flatten [CW G x cx, OW G (fun k => x (k + 1)) o, AW G (x 2) 9 st, BW G (fun k => x (k + 3)) b, PW G (fun k => x (k + 11)) pf, LW G (fun k => x (k + 16)) g, OW G (fun k => x (k + 20)) fo, AW G (x 21) 9 fst, BW G (fun k => x (k + 22)) fb, PW G (fun k => x (k + 30)) fp, LW G (fun k => x (k + 35)) fg, HGW G (fun k => x (k + 58)) hh, TW G (fun k => x (k + 136)) t]) H := hP
  have hD : va_D A (List.flatten [CW G x cx, OW G (fun k => x (k + 1)) o, AW G (x 2) 9 st, BW G (fun k => x (k + 3)) b, PW G (fun k => x (k + 11)) pf, LW G (fun k => x (k + 16)) g, OW G (fun k => x (k + 20)) fo, AW G (x 21) 9 fst, BW G (fun k => x (k + 22)) fb, PW G (fun k => x (k + 30)) fp, LW G (fun k => x (k + 35)) fg, HGW G (fun k => x (k + 58)) hh, TW G (fun k => x (k + 136)) t]) := hD
  refine lv_bipush (v := (-2)) hx hb dL_refusesAny_25 (by decide) ?_
  refine lv_icmp_ne (tgt := 131) hx hb dL_refusesAny_27 (by decide) (fun c => absurd c (by decide)) (fun _ => ?_)
  refine lv_aload_n hx hb dL_refusesAny_30 rfl (lv_at hl 1 rfl) ?_
  refine lv_iload_n hx hb dL_refusesAny_31 rfl (lv_at hl 2 rfl) ?_
  refine lv_if_ne (tgt := 39) hx hb dL_refusesAny_32 (by decide) (fun c => absurd c (by decide)) (fun _ => ?_)
  refine lv_iconst (v := (-1)) hx hb dL_refusesAny_35 (by decide) ?_
  refine lv_goto (tgt := 44) hx hb dL_refusesAny_36 (by decide) ?_
  refine lv_iconst (v := (-1)) hx hb dL_refusesAny_44 (by decide) ?_
  obtain ⟨k2, hok⟩ := hok
  refine g_callV (cr_setChargeU l G x cx o st b pf g hh (-1) (-1) k2) hx hb hml hown hts hK hP hD hS hA gL_refusesAny_X6_setCharge rfl (n := 2) (by decide +kernel) rfl ⟨Nat.le_of_ble_eq_true rfl, Nat.le_of_ble_eq_true rfl⟩ [0, 1, 2, 3, 4, 5, 11] rfl (by decide) 0 rfl (ci := 6) rfl hl.1 rfl (Nat.le_of_ble_eq_true rfl) ⟨Nat.zero_le _, Nat.zero_le _⟩ dL_refusesAny_45 (fun H locs hP hD hS => ?_)
  have hP : va_P G.1 vwCl (List.flatten [CW G x cx, OW G (fun k => x (k + 1)) o, AW G (x 2) 9 st, BW G (fun k => x (k + 3)) b, PW G (fun k => x (k + 11)) pf, LW G (fun k => x (k + 16)) g, OW G (fun k => x (k + 20)) fo, AW G (x 21) 9 fst, BW G (fun k => x (k + 22)) fb, PW G (fun k => x (k + 30)) fp, LW G (fun k => x (k + 35)) fg, HGW G (fun k => x (k + 58)) hh, TW G (fun k => x (k + 136)) t]) H := hP
  have hD : va_D A (List.flatten [CW G x cx, OW G (fun k => x (k + 1)) o, AW G (x 2) 9 st, BW G (fun k => x (k + 3)) b, PW G (fun k => x (k + 11)) pf, LW G (fun k => x (k + 16)) g, OW G (fun k => x (k + 20)) fo, AW G (x 21) 9 fst, BW G (fun k => x (k + 22)) fb, PW G (fun k => x (k + 30)) fp, LW G (fun k => x (k + 35)) fg, HGW G (fun k => x (k + 58)) hh, TW G (fun k => x (k + 136)) t]) := hD
  refine lv_iconst (v := (-1)) hx hb dL_refusesAny_48 (by decide) ?_
  refine lv_icmp_ne (tgt := 131) hx hb dL_refusesAny_49 (by decide) (fun c => absurd c (by decide)) (fun _ => ?_)
  refine lv_aload_n hx hb dL_refusesAny_52 rfl (lv_at hl 1 rfl) ?_
  refine lv_iconst (v := 0) hx hb dL_refusesAny_53 (by decide) ?_
  refine lv_iload_n hx hb dL_refusesAny_54 rfl (lv_at hl 2 rfl) ?_
  refine lv_if_ne (tgt := 62) hx hb dL_refusesAny_55 (by decide) (fun c => absurd c (by decide)) (fun _ => ?_)
  refine lv_iconst (v := (-1)) hx hb dL_refusesAny_58 (by decide) ?_
  refine lv_goto (tgt := 71) hx hb dL_refusesAny_59 (by decide) ?_
  obtain ⟨k3, hok⟩ := hok
  refine g_callV (cr_setChargeB l G x cx o st b pf g hh 0 (-1) k3) hx hb hml hown hts hK hP hD hS hA gL_refusesAny_X6_setCharge rfl (n := 2) (by decide +kernel) rfl ⟨Nat.le_of_ble_eq_true rfl, Nat.le_of_ble_eq_true rfl⟩ [0, 1, 2, 3, 4, 5, 11] rfl (by decide) 0 rfl (ci := 6) rfl hl.1 rfl (Nat.le_of_ble_eq_true rfl) ⟨Nat.zero_le _, Nat.zero_le _⟩ dL_refusesAny_71 (fun H locs hP hD hS => ?_)
  have hP : va_P G.1 vwCl (List.flatten [CW G x cx, OW G (fun k => x (k + 1)) o, AW G (x 2) 9 st, BW G (fun k => x (k + 3)) b, PW G (fun k => x (k + 11)) pf, LW G (fun k => x (k + 16)) g, OW G (fun k => x (k + 20)) fo, AW G (x 21) 9 fst, BW G (fun k => x (k + 22)) fb, PW G (fun k => x (k + 30)) fp, LW G (fun k => x (k + 35)) fg, HGW G (fun k => x (k + 58)) hh, TW G (fun k => x (k + 136)) t]) H := hP
  have hD : va_D A (List.flatten [CW G x cx, OW G (fun k => x (k + 1)) o, AW G (x 2) 9 st, BW G (fun k => x (k + 3)) b, PW G (fun k => x (k + 11)) pf, LW G (fun k => x (k + 16)) g, OW G (fun k => x (k + 20)) fo, AW G (x 21) 9 fst, BW G (fun k => x (k + 22)) fb, PW G (fun k => x (k + 30)) fp, LW G (fun k => x (k + 35)) fg, HGW G (fun k => x (k + 58)) hh, TW G (fun k => x (k + 136)) t]) := hD
  refine lv_bipush (v := (-2)) hx hb dL_refusesAny_74 (by decide) ?_
  refine lv_icmp_ne (tgt := 131) hx hb dL_refusesAny_76 (by decide) (fun c => absurd c (by decide)) (fun _ => ?_)
  refine lv_aload_n hx hb dL_refusesAny_79 rfl (lv_at hl 1 rfl) ?_
  refine lv_iload_n hx hb dL_refusesAny_80 rfl (lv_at hl 2 rfl) ?_
  refine lv_if_ne (tgt := 88) hx hb dL_refusesAny_81 (by decide) (fun c => absurd c (by decide)) (fun _ => ?_)
  refine lv_iconst (v := 0) hx hb dL_refusesAny_84 (by decide) ?_
  refine lv_goto (tgt := 91) hx hb dL_refusesAny_85 (by decide) ?_
  obtain ⟨k4, hok⟩ := hok
  refine g_callV (cr_use l G x cx o st b pf g hh 0 k4) hx hb hml hown hts hK hP hD hS hA gL_refusesAny_X6_use rfl (n := 1) (by decide +kernel) rfl ⟨Nat.le_of_ble_eq_true rfl, Nat.le_of_ble_eq_true rfl⟩ [0, 1, 2, 3, 4, 5, 11] rfl (by decide) 0 rfl (ci := 6) rfl hl.1 rfl (Nat.le_of_ble_eq_true rfl) ⟨Nat.zero_le _, Nat.zero_le _⟩ dL_refusesAny_91 (fun H locs hP hD hS => ?_)
  have hP : va_P G.1 vwCl (List.flatten [CW G x cx, OW G (fun k => x (k + 1)) o, AW G (x 2) 9 st, BW G (fun k => x (k + 3)) b, PW G (fun k => x (k + 11)) pf, LW G (fun k => x (k + 16)) g, OW G (fun k => x (k + 20)) fo, AW G (x 21) 9 fst, BW G (fun k => x (k + 22)) fb, PW G (fun k => x (k + 30)) fp, LW G (fun k => x (k + 35)) fg, HGW G (fun k => x (k + 58)) hh, TW G (fun k => x (k + 136)) t]) H := hP
  have hD : va_D A (List.flatten [CW G x cx, OW G (fun k => x (k + 1)) o, AW G (x 2) 9 st, BW G (fun k => x (k + 3)) b, PW G (fun k => x (k + 11)) pf, LW G (fun k => x (k + 16)) g, OW G (fun k => x (k + 20)) fo, AW G (x 21) 9 fst, BW G (fun k => x (k + 22)) fb, PW G (fun k => x (k + 30)) fp, LW G (fun k => x (k + 35)) fg, HGW G (fun k => x (k + 58)) hh, TW G (fun k => x (k + 136)) t]) := hD
  refine lv_bipush (v := (-2)) hx hb dL_refusesAny_94 (by decide) ?_
  refine lv_icmp_ne (tgt := 131) hx hb dL_refusesAny_96 (by decide) (fun c => absurd c (by decide)) (fun _ => ?_)
  refine lv_aload_n hx hb dL_refusesAny_99 rfl (lv_at hl 1 rfl) ?_
  refine lv_iload_n hx hb dL_refusesAny_100 rfl (lv_at hl 0 rfl) ?_
  refine lv_sipush (v := 9999) hx hb dL_refusesAny_101 (by decide) ?_
  obtain ⟨k5, hok⟩ := hok
  refine g_callZ (cr_setU l G z x cx o st b pf g hh (-1) 9999 k5) hx hb hml hown hts hK hP hD hS hA hZ gL_refusesAny_X6_set rfl (n := 2) (by decide +kernel) rfl ⟨Nat.le_of_ble_eq_true rfl, Nat.le_of_ble_eq_true rfl⟩ [0, 1, 2, 3, 4, 5, 11] rfl (by decide) 0 rfl (ci := 6) rfl hl.1 rfl (Nat.le_of_ble_eq_true rfl) ⟨Nat.zero_le _, Nat.zero_le _⟩ dL_refusesAny_104 (fun H locs hP hD hS => ?_)
  have hP : va_P G.1 vwCl (List.flatten [CW G x cx, OW G (fun k => x (k + 1)) o, AW G (x 2) 9 st, BW G (fun k => x (k + 3)) b, PW G (fun k => x (k + 11)) pf, LW G (fun k => x (k + 16)) g, OW G (fun k => x (k + 20)) fo, AW G (x 21) 9 fst, BW G (fun k => x (k + 22)) fb, PW G (fun k => x (k + 30)) fp, LW G (fun k => x (k + 35)) fg, HGW G (fun k => x (k + 58)) hh, TW G (fun k => x (k + 136)) t]) H := hP
  have hD : va_D A (List.flatten [CW G x cx, OW G (fun k => x (k + 1)) o, AW G (x 2) 9 st, BW G (fun k => x (k + 3)) b, PW G (fun k => x (k + 11)) pf, LW G (fun k => x (k + 16)) g, OW G (fun k => x (k + 20)) fo, AW G (x 21) 9 fst, BW G (fun k => x (k + 22)) fb, PW G (fun k => x (k + 30)) fp, LW G (fun k => x (k + 35)) fg, HGW G (fun k => x (k + 58)) hh, TW G (fun k => x (k + 136)) t]) := hD
  refine lv_iconst (v := (-1)) hx hb dL_refusesAny_107 (by decide) ?_
  refine lv_icmp_ne (tgt := 131) hx hb dL_refusesAny_108 (by decide) (fun c => absurd c (by decide)) (fun _ => ?_)
  refine lv_aload_n hx hb dL_refusesAny_111 rfl (lv_at hl 1 rfl) ?_
  refine lv_iload_n hx hb dL_refusesAny_112 rfl (lv_at hl 2 rfl) ?_
  refine lv_if_ne (tgt := 120) hx hb dL_refusesAny_113 (by decide) (fun c => absurd c (by decide)) (fun _ => ?_)
  refine lv_iconst (v := 0) hx hb dL_refusesAny_116 (by decide) ?_
  refine lv_goto (tgt := 123) hx hb dL_refusesAny_117 (by decide) ?_
  obtain ⟨k6, hok⟩ := hok
  refine g_callV (cr_pass l G x cx o st b pf g hh 0 k6) hx hb hml hown hts hK hP hD hS hA gL_refusesAny_X6_pass rfl (n := 1) (by decide +kernel) rfl ⟨Nat.le_of_ble_eq_true rfl, Nat.le_of_ble_eq_true rfl⟩ [0, 1, 2, 3, 4, 5, 11] rfl (by decide) 0 rfl (ci := 6) rfl hl.1 rfl (Nat.le_of_ble_eq_true rfl) ⟨Nat.zero_le _, Nat.zero_le _⟩ dL_refusesAny_123 (fun H locs hP hD hS => ?_)
  have hP : va_P G.1 vwCl (List.flatten [CW G x cx, OW G (fun k => x (k + 1)) o, AW G (x 2) 9 st, BW G (fun k => x (k + 3)) b, PW G (fun k => x (k + 11)) pf, LW G (fun k => x (k + 16)) g, OW G (fun k => x (k + 20)) fo, AW G (x 21) 9 fst, BW G (fun k => x (k + 22)) fb, PW G (fun k => x (k + 30)) fp, LW G (fun k => x (k + 35)) fg, HGW G (fun k => x (k + 58)) hh, TW G (fun k => x (k + 136)) t]) H := hP
  have hD : va_D A (List.flatten [CW G x cx, OW G (fun k => x (k + 1)) o, AW G (x 2) 9 st, BW G (fun k => x (k + 3)) b, PW G (fun k => x (k + 11)) pf, LW G (fun k => x (k + 16)) g, OW G (fun k => x (k + 20)) fo, AW G (x 21) 9 fst, BW G (fun k => x (k + 22)) fb, PW G (fun k => x (k + 30)) fp, LW G (fun k => x (k + 35)) fg, HGW G (fun k => x (k + 58)) hh, TW G (fun k => x (k + 136)) t]) := hD
  refine lv_bipush (v := (-2)) hx hb dL_refusesAny_126 (by decide) ?_
  refine lv_icmp_eq (tgt := 133) hx hb dL_refusesAny_128 (by decide) (fun _ => ?_) (fun c => absurd c (by decide))
  refine lv_iconst (v := 0) hx hb dL_refusesAny_133 (by decide) ?_
  refine lv_istore_n (lv' := [(3, .int 0), (2, .int (-1)), (0, .ref (x 0)), (1, .int 0)]) hx hb dL_refusesAny_134 rfl hl (by decide) rfl (fun ls hl => ?_)
  refine lv_iload_n hx hb dL_refusesAny_135 rfl (lv_at hl 0 rfl) ?_
  refine lv_bipush (v := 9) hx hb dL_refusesAny_136 (by decide) ?_
  refine lv_icmp_ge (tgt := 304) hx hb dL_refusesAny_138 (by decide) (fun c => absurd c (by decide)) (fun _ => ?_)
  refine lv_iload_n hx hb dL_refusesAny_141 rfl (lv_at hl 0 rfl) ?_
  refine lv_if_ne (tgt := 150) hx hb dL_refusesAny_142 (by decide) (fun c => absurd c (by decide)) (fun _ => ?_)
  refine lv_bipush (v := 100) hx hb dL_refusesAny_145 (by decide) ?_
  refine lv_goto (tgt := 182) hx hb dL_refusesAny_147 (by decide) ?_
  refine lv_istore (lv' := [(4, .int 100), (3, .int 0), (2, .int (-1)), (0, .ref (x 0)), (1, .int 0)]) hx hb dL_refusesAny_182 hl (by decide) rfl (fun ls hl => ?_)
  refine lv_iload_n hx hb dL_refusesAny_184 rfl (lv_at hl 1 rfl) ?_
  refine lv_if_ne (tgt := 194) hx hb dL_refusesAny_185 (by decide) (fun c => absurd c (by decide)) (fun _ => ?_)
  refine lv_sipush (v := 5000) hx hb dL_refusesAny_188 (by decide) ?_
  refine lv_goto (tgt := 250) hx hb dL_refusesAny_191 (by decide) ?_
  refine lv_istore (lv' := [(5, .int 5000), (4, .int 100), (3, .int 0), (2, .int (-1)), (0, .ref (x 0)), (1, .int 0)]) hx hb dL_refusesAny_250 hl (by decide) rfl (fun ls hl => ?_)
  exact c_L_refusesAny0_1 l G z x cx o st b pf g fo fst fb fp fg hh t hx hb hml hr hts hown hlocks hK hA hZ hok hP hD hS (lv_sub hl [0, 1, 2, 3, 4, 5] rfl)
def ok_L_refusesAny1 (o : (Nat → Int32)) (st : (Nat → Int32)) (b : (Nat → Nat → Int32)) (pf : (Nat → Nat → Int32)) (g : (Nat → Nat → Int32)) (fo : (Nat → Int32)) (fst : (Nat → Int32)) (fb : (Nat → Nat → Int32)) (fp : (Nat → Nat → Int32)) (fg : (Nat → Nat → Int32)) (hh : HVal) : Prop := (rok_battery o st b pf g hh 7) ∧ (rok_count1 b) ∧ (rok_setChargeU o st b pf g hh (b 0 0) (-1)) ∧ (rok_settingV 0) ∧ (rok_setChargeB o st b pf g hh 0 ((st (0 : Int32).toNatClampNeg + 1000) - 999)) ∧ (rok_use o st b pf g hh 5001) ∧ (rok_setU o st b pf g hh 9 9999) ∧ (rok_pass o st b pf g hh 201) ∧ (rok_setB o st b pf g hh 0 5001) ∧ (rok_settingV 0) ∧ (rok_setN o st b pf g hh 0 ((st (0 : Int32).toNatClampNeg + 1000) - 1000)) ∧ (rok_setB o st b pf g hh 1 201) ∧ (rok_settingV 1) ∧ (rok_setN o st b pf g hh 1 ((st (1 : Int32).toNatClampNeg + 1000) - 1000)) ∧ (rok_setB o st b pf g hh 2 101) ∧ (rok_settingV 2) ∧ (rok_setN o st b pf g hh 2 ((st (2 : Int32).toNatClampNeg + 1000) - 1000)) ∧ (rok_setB o st b pf g hh 3 81) ∧ (rok_settingV 3) ∧ (rok_setN o st b pf g hh 3 ((st (3 : Int32).toNatClampNeg + 1000) - 1000)) ∧ (rok_setB o st b pf g hh 4 11) ∧ (rok_settingV 4) ∧ (rok_setN o st b pf g hh 4 ((st (4 : Int32).toNatClampNeg + 1000) - 1000)) ∧ (rok_setB o st b pf g hh 5 81) ∧ (rok_settingV 5) ∧ (rok_setN o st b pf g hh 5 ((st (5 : Int32).toNatClampNeg + 1000) - 1000)) ∧ (rok_setB o st b pf g hh 6 81) ∧ (rok_settingV 6) ∧ (rok_setN o st b pf g hh 6 ((st (6 : Int32).toNatClampNeg + 1000) - 1000)) ∧ (rok_setB o st b pf g hh 7 501) ∧ (rok_settingV 7) ∧ (rok_setN o st b pf g hh 7 ((st (7 : Int32).toNatClampNeg + 1000) - 1000)) ∧ (rok_setB o st b pf g hh 8 51) ∧ (rok_settingV 8) ∧ (rok_setN o st b pf g hh 8 ((st (8 : Int32).toNatClampNeg + 1000) - 1000)) ∧ (rok_count1 b) ∧ (rok_cellU st b (b 0 0) 99) ∧ (rok_cellB st b 0 9) ∧ (rok_settingU 9) ∧ (rok_count2 b) ∧ (rok_stageU pf (pf 0 0) 99) ∧ (rok_voltage st b 2001) ∧ (rok_count1 b) ∧ (rok_chargeInU o st b pf g (b 0 0) (-1)) ∧ (rok_chargeInB o st b pf g 0 201) ∧ (rok_eventB g 0 3) ∧ (rok_eventN g 10 0) ∧ (rok_countB b 14) ∧ (rok_count3 b o) ∧ (rok_warmest o st b pf g fo fst fb fp fg) ∧ (rok_count3 b o) ∧ (rok_count3 b o) ∧ (rok_stop o hh) ∧ True
set_option maxHeartbeats 4000000 in
set_option maxRecDepth 100000 in
theorem c_L_refusesAny1_8 (l : Launch) (G : gG) (z : Nat × Nat × Nat) (x : Nat → Nat) (cx : (Nat → Int32)) (o : (Nat → Int32)) (st : (Nat → Int32)) (b : (Nat → Nat → Int32)) (pf : (Nat → Nat → Int32)) (g : (Nat → Nat → Int32)) (fo : (Nat → Int32)) (fst : (Nat → Int32)) (fb : (Nat → Nat → Int32)) (fp : (Nat → Nat → Int32)) (fg : (Nat → Nat → Int32)) (hh : HVal) (t : (Nat → Nat → Int32)) {p : Program} {e : Env} {s : State} {m : MethodId} {below : List Frame} {meth : Method} {c : Code} {A : Nat → Prop} {H : Heap} {locs : List Loc} {ls : Array Slot} (hx : p.tables.exec = Jvm.exec) (hb : c.code = cL_refusesAny) (hml : c.maxLocals = 6) (hr : meth.sig.returnType = (some .boolean)) (hts : ∀ w ∈ wsL_refusesAny, w.before (List.toArray [.ref (x 0), .int 1]) s = true) (hown : s.vm.findClass RL = some m.cls) (hlocks : meth.locks = false) (hK : gK G s) (hA : ∀ q : Nat, s.heap.size ≤ q → A q) (hZ : gZ z A s) (hok : (rok_count3 b o) ∧ (rok_count3 b o) ∧ (rok_stop o hh) ∧ True) (hP : va_P G.1 vwCl (List.flatten [CW G x cx, OW G (fun k => x (k + 1)) o, AW G (x 2) 9 st, BW G (fun k => x (k + 3)) b, PW G (fun k => x (k + 11)) pf, LW G (fun k => x (k + 16)) g, OW G (fun k => x (k + 20)) fo, AW G (x 21) 9 fst, BW G (fun k => x (k + 22)) fb, PW G (fun k => x (k + 30)) fp, LW G (fun k => x (k + 35)) fg, HGW G (fun k => x (k + 58)) hh, TW G (fun k => x (k + 136)) t]) H) (hD : va_D A (List.flatten [CW G x cx, OW G (fun k => x (k + 1)) o, AW G (x 2) 9 st, BW G (fun k => x (k + 3)) b, PW G (fun k => x (k + 11)) pf, LW G (fun k => x (k + 16)) g, OW G (fun k => x (k + 20)) fo, AW G (x 21) 9 fst, BW G (fun k => x (k + 22)) fb, PW G (fun k => x (k + 30)) fp, LW G (fun k => x (k + 35)) fg, HGW G (fun k => x (k + 58)) hh, TW G (fun k => x (k + 136)) t])) (hS : va_S A s.heap H locs) (hl : lv_has ls 6 [(3, .int 9), (5, .int 50), (4, .int 0), (2, .int 9), (0, .ref (x 0)), (1, .int 1)]) : W p l e { frames := 8, cells := 0, slots := 0, locals := 164 } s m (List.toArray [.ref (x 0), .int 1]) below meth c H locs 0 0 (gQ G below (List.toArray [.ref (x 0), .int 1]) s (some (.int 1)) [CW G x cx, OW G (fun k => x (k + 1)) o, AW G (x 2) 9 st, BW G (fun k => x (k + 3)) b, PW G (fun k => x (k + 11)) pf, LW G (fun k => x (k + 16)) g, OW G (fun k => x (k + 20)) fo, AW G (x 21) 9 fst, BW G (fun k => x (k + 22)) fb, PW G (fun k => x (k + 30)) fp, LW G (fun k => x (k + 35)) fg, HGW G (fun k => x (k + 58)) hh, TW G (fun k => x (k + 136)) t] A) (F0 m 511 ls []) := by
  refine lv_aload_n hx hb dL_refusesAny_511 rfl (lv_at hl 4 rfl) ?_
  refine lv_iconst (v := 3) hx hb dL_refusesAny_512 (by decide) ?_
  obtain ⟨k1, hok⟩ := hok
  refine g_callV (cr_count3 l G x cx o st b pf g hh t k1) hx hb hml hown hts hK hP hD hS hA gL_refusesAny_X6_count rfl (n := 1) (by decide +kernel) rfl ⟨Nat.le_of_ble_eq_true rfl, Nat.le_of_ble_eq_true rfl⟩ [0, 1, 2, 3, 4, 5, 11, 12] rfl (by decide) 0 rfl (ci := 6) rfl hl.1 rfl (Nat.le_of_ble_eq_true rfl) ⟨Nat.zero_le _, Nat.zero_le _⟩ dL_refusesAny_513 (fun H locs hP hD hS => ?_)
  have hP : va_P G.1 vwCl (List.flatten [CW G x cx, OW G (fun k => x (k + 1)) o, AW G (x 2) 9 st, BW G (fun k => x (k + 3)) b, PW G (fun k => x (k + 11)) pf, LW G (fun k => x (k + 16)) g, OW G (fun k => x (k + 20)) fo, AW G (x 21) 9 fst, BW G (fun k => x (k + 22)) fb, PW G (fun k => x (k + 30)) fp, LW G (fun k => x (k + 35)) fg, HGW G (fun k => x (k + 58)) hh, TW G (fun k => x (k + 136)) t]) H := hP
  have hD : va_D A (List.flatten [CW G x cx, OW G (fun k => x (k + 1)) o, AW G (x 2) 9 st, BW G (fun k => x (k + 3)) b, PW G (fun k => x (k + 11)) pf, LW G (fun k => x (k + 16)) g, OW G (fun k => x (k + 20)) fo, AW G (x 21) 9 fst, BW G (fun k => x (k + 22)) fb, PW G (fun k => x (k + 30)) fp, LW G (fun k => x (k + 35)) fg, HGW G (fun k => x (k + 58)) hh, TW G (fun k => x (k + 136)) t]) := hD
  refine lv_iconst (v := 1) hx hb dL_refusesAny_516 (by decide) ?_
  refine lv_icmp_ne (tgt := 542) hx hb dL_refusesAny_517 (by decide) (fun _ => ?_) (fun c => absurd c (by decide))
  refine lv_aload_n hx hb dL_refusesAny_542 rfl (lv_at hl 4 rfl) ?_
  refine lv_iconst (v := 3) hx hb dL_refusesAny_543 (by decide) ?_
  obtain ⟨k2, hok⟩ := hok
  refine g_callV (cr_count3 l G x cx o st b pf g hh t k2) hx hb hml hown hts hK hP hD hS hA gL_refusesAny_X6_count rfl (n := 1) (by decide +kernel) rfl ⟨Nat.le_of_ble_eq_true rfl, Nat.le_of_ble_eq_true rfl⟩ [0, 1, 2, 3, 4, 5, 11, 12] rfl (by decide) 0 rfl (ci := 6) rfl hl.1 rfl (Nat.le_of_ble_eq_true rfl) ⟨Nat.zero_le _, Nat.zero_le _⟩ dL_refusesAny_544 (fun H locs hP hD hS => ?_)
  have hP : va_P G.1 vwCl (List.flatten [CW G x cx, OW G (fun k => x (k + 1)) o, AW G (x 2) 9 st, BW G (fun k => x (k + 3)) b, PW G (fun k => x (k + 11)) pf, LW G (fun k => x (k + 16)) g, OW G (fun k => x (k + 20)) fo, AW G (x 21) 9 fst, BW G (fun k => x (k + 22)) fb, PW G (fun k => x (k + 30)) fp, LW G (fun k => x (k + 35)) fg, HGW G (fun k => x (k + 58)) hh, TW G (fun k => x (k + 136)) t]) H := hP
  have hD : va_D A (List.flatten [CW G x cx, OW G (fun k => x (k + 1)) o, AW G (x 2) 9 st, BW G (fun k => x (k + 3)) b, PW G (fun k => x (k + 11)) pf, LW G (fun k => x (k + 16)) g, OW G (fun k => x (k + 20)) fo, AW G (x 21) 9 fst, BW G (fun k => x (k + 22)) fb, PW G (fun k => x (k + 30)) fp, LW G (fun k => x (k + 35)) fg, HGW G (fun k => x (k + 58)) hh, TW G (fun k => x (k + 136)) t]) := hD
  refine lv_if_ne (tgt := 559) hx hb dL_refusesAny_547 (by decide) (fun c => absurd c (by decide)) (fun _ => ?_)
  refine lv_aload_n hx hb dL_refusesAny_550 rfl (lv_at hl 4 rfl) ?_
  obtain ⟨k3, hok⟩ := hok
  refine g_callV (cr_stop l G x cx o st b pf g hh k3) hx hb hml hown hts hK hP hD hS hA gL_refusesAny_X6_stop rfl (n := 0) (by decide +kernel) rfl ⟨Nat.le_of_ble_eq_true rfl, Nat.le_of_ble_eq_true rfl⟩ [0, 1, 2, 3, 4, 5, 11] rfl (by decide) 0 rfl (ci := 6) rfl hl.1 rfl (Nat.le_of_ble_eq_true rfl) ⟨Nat.zero_le _, Nat.zero_le _⟩ dL_refusesAny_551 (fun H locs hP hD hS => ?_)
  have hP : va_P G.1 vwCl (List.flatten [CW G x cx, OW G (fun k => x (k + 1)) o, AW G (x 2) 9 st, BW G (fun k => x (k + 3)) b, PW G (fun k => x (k + 11)) pf, LW G (fun k => x (k + 16)) g, OW G (fun k => x (k + 20)) fo, AW G (x 21) 9 fst, BW G (fun k => x (k + 22)) fb, PW G (fun k => x (k + 30)) fp, LW G (fun k => x (k + 35)) fg, HGW G (fun k => x (k + 58)) hh, TW G (fun k => x (k + 136)) t]) H := hP
  have hD : va_D A (List.flatten [CW G x cx, OW G (fun k => x (k + 1)) o, AW G (x 2) 9 st, BW G (fun k => x (k + 3)) b, PW G (fun k => x (k + 11)) pf, LW G (fun k => x (k + 16)) g, OW G (fun k => x (k + 20)) fo, AW G (x 21) 9 fst, BW G (fun k => x (k + 22)) fb, PW G (fun k => x (k + 30)) fp, LW G (fun k => x (k + 35)) fg, HGW G (fun k => x (k + 58)) hh, TW G (fun k => x (k + 136)) t]) := hD
  refine lv_bipush (v := (-5)) hx hb dL_refusesAny_554 (by decide) ?_
  refine lv_icmp_ne (tgt := 563) hx hb dL_refusesAny_556 (by decide) (fun c => absurd c (by decide)) (fun _ => ?_)
  refine lv_iconst (v := 1) hx hb dL_refusesAny_559 (by decide) ?_
  refine lv_goto (tgt := 564) hx hb dL_refusesAny_560 (by decide) ?_
  exact g_retz hx hb hr hlocks hS rfl dL_refusesAny_564 rfl hP
set_option maxHeartbeats 4000000 in
set_option maxRecDepth 100000 in
theorem c_L_refusesAny1_7 (l : Launch) (G : gG) (z : Nat × Nat × Nat) (x : Nat → Nat) (cx : (Nat → Int32)) (o : (Nat → Int32)) (st : (Nat → Int32)) (b : (Nat → Nat → Int32)) (pf : (Nat → Nat → Int32)) (g : (Nat → Nat → Int32)) (fo : (Nat → Int32)) (fst : (Nat → Int32)) (fb : (Nat → Nat → Int32)) (fp : (Nat → Nat → Int32)) (fg : (Nat → Nat → Int32)) (hh : HVal) (t : (Nat → Nat → Int32)) {p : Program} {e : Env} {s : State} {m : MethodId} {below : List Frame} {meth : Method} {c : Code} {A : Nat → Prop} {H : Heap} {locs : List Loc} {ls : Array Slot} (hx : p.tables.exec = Jvm.exec) (hb : c.code = cL_refusesAny) (hml : c.maxLocals = 6) (hr : meth.sig.returnType = (some .boolean)) (hts : ∀ w ∈ wsL_refusesAny, w.before (List.toArray [.ref (x 0), .int 1]) s = true) (hown : s.vm.findClass RL = some m.cls) (hlocks : meth.locks = false) (hK : gK G s) (hA : ∀ q : Nat, s.heap.size ≤ q → A q) (hZ : gZ z A s) (hok : (rok_chargeInB o st b pf g 0 201) ∧ (rok_eventB g 0 3) ∧ (rok_eventN g 10 0) ∧ (rok_countB b 14) ∧ (rok_count3 b o) ∧ (rok_warmest o st b pf g fo fst fb fp fg) ∧ (rok_count3 b o) ∧ (rok_count3 b o) ∧ (rok_stop o hh) ∧ True) (hP : va_P G.1 vwCl (List.flatten [CW G x cx, OW G (fun k => x (k + 1)) o, AW G (x 2) 9 st, BW G (fun k => x (k + 3)) b, PW G (fun k => x (k + 11)) pf, LW G (fun k => x (k + 16)) g, OW G (fun k => x (k + 20)) fo, AW G (x 21) 9 fst, BW G (fun k => x (k + 22)) fb, PW G (fun k => x (k + 30)) fp, LW G (fun k => x (k + 35)) fg, HGW G (fun k => x (k + 58)) hh, TW G (fun k => x (k + 136)) t]) H) (hD : va_D A (List.flatten [CW G x cx, OW G (fun k => x (k + 1)) o, AW G (x 2) 9 st, BW G (fun k => x (k + 3)) b, PW G (fun k => x (k + 11)) pf, LW G (fun k => x (k + 16)) g, OW G (fun k => x (k + 20)) fo, AW G (x 21) 9 fst, BW G (fun k => x (k + 22)) fb, PW G (fun k => x (k + 30)) fp, LW G (fun k => x (k + 35)) fg, HGW G (fun k => x (k + 58)) hh, TW G (fun k => x (k + 136)) t])) (hS : va_S A s.heap H locs) (hl : lv_has ls 6 [(3, .int 9), (5, .int 50), (4, .int 0), (2, .int 9), (0, .ref (x 0)), (1, .int 1)]) : W p l e { frames := 8, cells := 0, slots := 0, locals := 164 } s m (List.toArray [.ref (x 0), .int 1]) below meth c H locs 0 0 (gQ G below (List.toArray [.ref (x 0), .int 1]) s (some (.int 1)) [CW G x cx, OW G (fun k => x (k + 1)) o, AW G (x 2) 9 st, BW G (fun k => x (k + 3)) b, PW G (fun k => x (k + 11)) pf, LW G (fun k => x (k + 16)) g, OW G (fun k => x (k + 20)) fo, AW G (x 21) 9 fst, BW G (fun k => x (k + 22)) fb, PW G (fun k => x (k + 30)) fp, LW G (fun k => x (k + 35)) fg, HGW G (fun k => x (k + 58)) hh, TW G (fun k => x (k + 136)) t] A) (F0 m 412 ls []) := by
  refine lv_aload_n hx hb dL_refusesAny_412 rfl (lv_at hl 4 rfl) ?_
  refine lv_iconst (v := 0) hx hb dL_refusesAny_413 (by decide) ?_
  refine lv_iload_n hx hb dL_refusesAny_414 rfl (lv_at hl 5 rfl) ?_
  refine lv_if_ne (tgt := 422) hx hb dL_refusesAny_415 (by decide) (fun _ => ?_) (fun c => absurd c (by decide))
  refine lv_sipush (v := 201) hx hb dL_refusesAny_422 (by decide) ?_
  obtain ⟨k1, hok⟩ := hok
  refine g_callV (cr_chargeInB l G x cx o st b pf g fo fst fb fp fg 0 201 k1) hx hb hml hown hts hK hP hD hS hA gL_refusesAny_X6_chargeIn rfl (n := 2) (by decide +kernel) rfl ⟨Nat.le_of_ble_eq_true rfl, Nat.le_of_ble_eq_true rfl⟩ [0, 1, 2, 3, 4, 5, 6, 7, 8, 9, 10] rfl (by decide) 0 rfl (ci := 6) rfl hl.1 rfl (Nat.le_of_ble_eq_true rfl) ⟨Nat.zero_le _, Nat.zero_le _⟩ dL_refusesAny_425 (fun H locs hP hD hS => ?_)
  have hP : va_P G.1 vwCl (List.flatten [CW G x cx, OW G (fun k => x (k + 1)) o, AW G (x 2) 9 st, BW G (fun k => x (k + 3)) b, PW G (fun k => x (k + 11)) pf, LW G (fun k => x (k + 16)) g, OW G (fun k => x (k + 20)) fo, AW G (x 21) 9 fst, BW G (fun k => x (k + 22)) fb, PW G (fun k => x (k + 30)) fp, LW G (fun k => x (k + 35)) fg, HGW G (fun k => x (k + 58)) hh, TW G (fun k => x (k + 136)) t]) H := hP
  have hD : va_D A (List.flatten [CW G x cx, OW G (fun k => x (k + 1)) o, AW G (x 2) 9 st, BW G (fun k => x (k + 3)) b, PW G (fun k => x (k + 11)) pf, LW G (fun k => x (k + 16)) g, OW G (fun k => x (k + 20)) fo, AW G (x 21) 9 fst, BW G (fun k => x (k + 22)) fb, PW G (fun k => x (k + 30)) fp, LW G (fun k => x (k + 35)) fg, HGW G (fun k => x (k + 58)) hh, TW G (fun k => x (k + 136)) t]) := hD
  refine lv_bipush (v := (-2)) hx hb dL_refusesAny_428 (by decide) ?_
  refine lv_icmp_eq (tgt := 435) hx hb dL_refusesAny_430 (by decide) (fun _ => ?_) (fun c => absurd c (by decide))
  refine lv_aload_n hx hb dL_refusesAny_435 rfl (lv_at hl 4 rfl) ?_
  refine lv_iload_n hx hb dL_refusesAny_436 rfl (lv_at hl 5 rfl) ?_
  refine lv_if_ne (tgt := 444) hx hb dL_refusesAny_437 (by decide) (fun _ => ?_) (fun c => absurd c (by decide))
  refine lv_iconst (v := 0) hx hb dL_refusesAny_444 (by decide) ?_
  refine lv_iload_n hx hb dL_refusesAny_445 rfl (lv_at hl 5 rfl) ?_
  refine lv_if_ne (tgt := 453) hx hb dL_refusesAny_446 (by decide) (fun _ => ?_) (fun c => absurd c (by decide))
  refine lv_iconst (v := 3) hx hb dL_refusesAny_453 (by decide) ?_
  obtain ⟨k2, hok⟩ := hok
  refine g_callV (cr_eventB l G x cx o st b pf g 0 3 k2) hx hb hml hown hts hK hP hD hS hA gL_refusesAny_X6_event rfl (n := 2) (by decide +kernel) rfl ⟨Nat.le_of_ble_eq_true rfl, Nat.le_of_ble_eq_true rfl⟩ [0, 1, 2, 3, 4, 5] rfl (by decide) 0 rfl (ci := 6) rfl hl.1 rfl (Nat.le_of_ble_eq_true rfl) ⟨Nat.zero_le _, Nat.zero_le _⟩ dL_refusesAny_454 (fun H locs hP hD hS => ?_)
  have hP : va_P G.1 vwCl (List.flatten [CW G x cx, OW G (fun k => x (k + 1)) o, AW G (x 2) 9 st, BW G (fun k => x (k + 3)) b, PW G (fun k => x (k + 11)) pf, LW G (fun k => x (k + 16)) g, OW G (fun k => x (k + 20)) fo, AW G (x 21) 9 fst, BW G (fun k => x (k + 22)) fb, PW G (fun k => x (k + 30)) fp, LW G (fun k => x (k + 35)) fg, HGW G (fun k => x (k + 58)) hh, TW G (fun k => x (k + 136)) t]) H := hP
  have hD : va_D A (List.flatten [CW G x cx, OW G (fun k => x (k + 1)) o, AW G (x 2) 9 st, BW G (fun k => x (k + 3)) b, PW G (fun k => x (k + 11)) pf, LW G (fun k => x (k + 16)) g, OW G (fun k => x (k + 20)) fo, AW G (x 21) 9 fst, BW G (fun k => x (k + 22)) fb, PW G (fun k => x (k + 30)) fp, LW G (fun k => x (k + 35)) fg, HGW G (fun k => x (k + 58)) hh, TW G (fun k => x (k + 136)) t]) := hD
  refine lv_bipush (v := (-2)) hx hb dL_refusesAny_457 (by decide) ?_
  refine lv_icmp_ne (tgt := 563) hx hb dL_refusesAny_459 (by decide) (fun c => absurd c (by decide)) (fun _ => ?_)
  refine lv_aload_n hx hb dL_refusesAny_462 rfl (lv_at hl 4 rfl) ?_
  refine lv_bipush (v := 10) hx hb dL_refusesAny_463 (by decide) ?_
  refine lv_iconst (v := 0) hx hb dL_refusesAny_465 (by decide) ?_
  obtain ⟨k3, hok⟩ := hok
  refine g_callV (cr_eventN l G x cx o st b pf g 10 0 k3) hx hb hml hown hts hK hP hD hS hA gL_refusesAny_X6_event rfl (n := 2) (by decide +kernel) rfl ⟨Nat.le_of_ble_eq_true rfl, Nat.le_of_ble_eq_true rfl⟩ [0, 1, 2, 3, 4, 5] rfl (by decide) 0 rfl (ci := 6) rfl hl.1 rfl (Nat.le_of_ble_eq_true rfl) ⟨Nat.zero_le _, Nat.zero_le _⟩ dL_refusesAny_466 (fun H locs hP hD hS => ?_)
  have hP : va_P G.1 vwCl (List.flatten [CW G x cx, OW G (fun k => x (k + 1)) o, AW G (x 2) 9 st, BW G (fun k => x (k + 3)) b, PW G (fun k => x (k + 11)) pf, LW G (fun k => x (k + 16)) g, OW G (fun k => x (k + 20)) fo, AW G (x 21) 9 fst, BW G (fun k => x (k + 22)) fb, PW G (fun k => x (k + 30)) fp, LW G (fun k => x (k + 35)) fg, HGW G (fun k => x (k + 58)) hh, TW G (fun k => x (k + 136)) t]) H := hP
  have hD : va_D A (List.flatten [CW G x cx, OW G (fun k => x (k + 1)) o, AW G (x 2) 9 st, BW G (fun k => x (k + 3)) b, PW G (fun k => x (k + 11)) pf, LW G (fun k => x (k + 16)) g, OW G (fun k => x (k + 20)) fo, AW G (x 21) 9 fst, BW G (fun k => x (k + 22)) fb, PW G (fun k => x (k + 30)) fp, LW G (fun k => x (k + 35)) fg, HGW G (fun k => x (k + 58)) hh, TW G (fun k => x (k + 136)) t]) := hD
  refine lv_bipush (v := (-5)) hx hb dL_refusesAny_469 (by decide) ?_
  refine lv_icmp_ne (tgt := 563) hx hb dL_refusesAny_471 (by decide) (fun c => absurd c (by decide)) (fun _ => ?_)
  refine lv_aload_n hx hb dL_refusesAny_474 rfl (lv_at hl 4 rfl) ?_
  refine lv_iload_n hx hb dL_refusesAny_475 rfl (lv_at hl 5 rfl) ?_
  refine lv_if_ne (tgt := 483) hx hb dL_refusesAny_476 (by decide) (fun _ => ?_) (fun c => absurd c (by decide))
  refine lv_bipush (v := 14) hx hb dL_refusesAny_483 (by decide) ?_
  obtain ⟨k4, hok⟩ := hok
  refine g_callV (cr_countB l G x cx o st b pf g hh t 14 k4) hx hb hml hown hts hK hP hD hS hA gL_refusesAny_X6_count rfl (n := 1) (by decide +kernel) rfl ⟨Nat.le_of_ble_eq_true rfl, Nat.le_of_ble_eq_true rfl⟩ [0, 1, 2, 3, 4, 5, 11, 12] rfl (by decide) 0 rfl (ci := 6) rfl hl.1 rfl (Nat.le_of_ble_eq_true rfl) ⟨Nat.zero_le _, Nat.zero_le _⟩ dL_refusesAny_485 (fun H locs hP hD hS => ?_)
  have hP : va_P G.1 vwCl (List.flatten [CW G x cx, OW G (fun k => x (k + 1)) o, AW G (x 2) 9 st, BW G (fun k => x (k + 3)) b, PW G (fun k => x (k + 11)) pf, LW G (fun k => x (k + 16)) g, OW G (fun k => x (k + 20)) fo, AW G (x 21) 9 fst, BW G (fun k => x (k + 22)) fb, PW G (fun k => x (k + 30)) fp, LW G (fun k => x (k + 35)) fg, HGW G (fun k => x (k + 58)) hh, TW G (fun k => x (k + 136)) t]) H := hP
  have hD : va_D A (List.flatten [CW G x cx, OW G (fun k => x (k + 1)) o, AW G (x 2) 9 st, BW G (fun k => x (k + 3)) b, PW G (fun k => x (k + 11)) pf, LW G (fun k => x (k + 16)) g, OW G (fun k => x (k + 20)) fo, AW G (x 21) 9 fst, BW G (fun k => x (k + 22)) fb, PW G (fun k => x (k + 30)) fp, LW G (fun k => x (k + 35)) fg, HGW G (fun k => x (k + 58)) hh, TW G (fun k => x (k + 136)) t]) := hD
  refine lv_bipush (v := (-2)) hx hb dL_refusesAny_488 (by decide) ?_
  refine lv_icmp_ne (tgt := 563) hx hb dL_refusesAny_490 (by decide) (fun c => absurd c (by decide)) (fun _ => ?_)
  refine lv_aload_n hx hb dL_refusesAny_493 rfl (lv_at hl 4 rfl) ?_
  refine lv_iconst (v := 3) hx hb dL_refusesAny_494 (by decide) ?_
  obtain ⟨k5, hok⟩ := hok
  refine g_callV (cr_count3 l G x cx o st b pf g hh t k5) hx hb hml hown hts hK hP hD hS hA gL_refusesAny_X6_count rfl (n := 1) (by decide +kernel) rfl ⟨Nat.le_of_ble_eq_true rfl, Nat.le_of_ble_eq_true rfl⟩ [0, 1, 2, 3, 4, 5, 11, 12] rfl (by decide) 0 rfl (ci := 6) rfl hl.1 rfl (Nat.le_of_ble_eq_true rfl) ⟨Nat.zero_le _, Nat.zero_le _⟩ dL_refusesAny_495 (fun H locs hP hD hS => ?_)
  have hP : va_P G.1 vwCl (List.flatten [CW G x cx, OW G (fun k => x (k + 1)) o, AW G (x 2) 9 st, BW G (fun k => x (k + 3)) b, PW G (fun k => x (k + 11)) pf, LW G (fun k => x (k + 16)) g, OW G (fun k => x (k + 20)) fo, AW G (x 21) 9 fst, BW G (fun k => x (k + 22)) fb, PW G (fun k => x (k + 30)) fp, LW G (fun k => x (k + 35)) fg, HGW G (fun k => x (k + 58)) hh, TW G (fun k => x (k + 136)) t]) H := hP
  have hD : va_D A (List.flatten [CW G x cx, OW G (fun k => x (k + 1)) o, AW G (x 2) 9 st, BW G (fun k => x (k + 3)) b, PW G (fun k => x (k + 11)) pf, LW G (fun k => x (k + 16)) g, OW G (fun k => x (k + 20)) fo, AW G (x 21) 9 fst, BW G (fun k => x (k + 22)) fb, PW G (fun k => x (k + 30)) fp, LW G (fun k => x (k + 35)) fg, HGW G (fun k => x (k + 58)) hh, TW G (fun k => x (k + 136)) t]) := hD
  refine lv_iconst (v := 1) hx hb dL_refusesAny_498 (by decide) ?_
  refine lv_icmp_eq (tgt := 511) hx hb dL_refusesAny_499 (by decide) (fun c => absurd c (by decide)) (fun _ => ?_)
  refine lv_aload_n hx hb dL_refusesAny_502 rfl (lv_at hl 4 rfl) ?_
  obtain ⟨k6, hok⟩ := hok
  refine g_callV (cr_warmest l G x cx o st b pf g fo fst fb fp fg k6) hx hb hml hown hts hK hP hD hS hA gL_refusesAny_X6_warmest rfl (n := 0) (by decide +kernel) rfl ⟨Nat.le_of_ble_eq_true rfl, Nat.le_of_ble_eq_true rfl⟩ [0, 1, 2, 3, 4, 5, 6, 7, 8, 9, 10] rfl (by decide) 0 rfl (ci := 6) rfl hl.1 rfl (Nat.le_of_ble_eq_true rfl) ⟨Nat.zero_le _, Nat.zero_le _⟩ dL_refusesAny_503 (fun H locs hP hD hS => ?_)
  have hP : va_P G.1 vwCl (List.flatten [CW G x cx, OW G (fun k => x (k + 1)) o, AW G (x 2) 9 st, BW G (fun k => x (k + 3)) b, PW G (fun k => x (k + 11)) pf, LW G (fun k => x (k + 16)) g, OW G (fun k => x (k + 20)) fo, AW G (x 21) 9 fst, BW G (fun k => x (k + 22)) fb, PW G (fun k => x (k + 30)) fp, LW G (fun k => x (k + 35)) fg, HGW G (fun k => x (k + 58)) hh, TW G (fun k => x (k + 136)) t]) H := hP
  have hD : va_D A (List.flatten [CW G x cx, OW G (fun k => x (k + 1)) o, AW G (x 2) 9 st, BW G (fun k => x (k + 3)) b, PW G (fun k => x (k + 11)) pf, LW G (fun k => x (k + 16)) g, OW G (fun k => x (k + 20)) fo, AW G (x 21) 9 fst, BW G (fun k => x (k + 22)) fb, PW G (fun k => x (k + 30)) fp, LW G (fun k => x (k + 35)) fg, HGW G (fun k => x (k + 58)) hh, TW G (fun k => x (k + 136)) t]) := hD
  refine lv_bipush (v := (-4)) hx hb dL_refusesAny_506 (by decide) ?_
  refine lv_icmp_ne (tgt := 563) hx hb dL_refusesAny_508 (by decide) (fun c => absurd c (by decide)) (fun _ => ?_)
  exact c_L_refusesAny1_8 l G z x cx o st b pf g fo fst fb fp fg hh t hx hb hml hr hts hown hlocks hK hA hZ hok hP hD hS (lv_sub hl [0, 1, 2, 3, 4, 5] rfl)
set_option maxHeartbeats 4000000 in
set_option maxRecDepth 100000 in
theorem c_L_refusesAny1_6 (l : Launch) (G : gG) (z : Nat × Nat × Nat) (x : Nat → Nat) (cx : (Nat → Int32)) (o : (Nat → Int32)) (st : (Nat → Int32)) (b : (Nat → Nat → Int32)) (pf : (Nat → Nat → Int32)) (g : (Nat → Nat → Int32)) (fo : (Nat → Int32)) (fst : (Nat → Int32)) (fb : (Nat → Nat → Int32)) (fp : (Nat → Nat → Int32)) (fg : (Nat → Nat → Int32)) (hh : HVal) (t : (Nat → Nat → Int32)) {p : Program} {e : Env} {s : State} {m : MethodId} {below : List Frame} {meth : Method} {c : Code} {A : Nat → Prop} {H : Heap} {locs : List Loc} {ls : Array Slot} (hx : p.tables.exec = Jvm.exec) (hb : c.code = cL_refusesAny) (hml : c.maxLocals = 6) (hr : meth.sig.returnType = (some .boolean)) (hts : ∀ w ∈ wsL_refusesAny, w.before (List.toArray [.ref (x 0), .int 1]) s = true) (hown : s.vm.findClass RL = some m.cls) (hlocks : meth.locks = false) (hK : gK G s) (hA : ∀ q : Nat, s.heap.size ≤ q → A q) (hZ : gZ z A s) (hok : (rok_cellB st b 0 9) ∧ (rok_settingU 9) ∧ (rok_count2 b) ∧ (rok_stageU pf (pf 0 0) 99) ∧ (rok_voltage st b 2001) ∧ (rok_count1 b) ∧ (rok_chargeInU o st b pf g (b 0 0) (-1)) ∧ (rok_chargeInB o st b pf g 0 201) ∧ (rok_eventB g 0 3) ∧ (rok_eventN g 10 0) ∧ (rok_countB b 14) ∧ (rok_count3 b o) ∧ (rok_warmest o st b pf g fo fst fb fp fg) ∧ (rok_count3 b o) ∧ (rok_count3 b o) ∧ (rok_stop o hh) ∧ True) (hP : va_P G.1 vwCl (List.flatten [CW G x cx, OW G (fun k => x (k + 1)) o, AW G (x 2) 9 st, BW G (fun k => x (k + 3)) b, PW G (fun k => x (k + 11)) pf, LW G (fun k => x (k + 16)) g, OW G (fun k => x (k + 20)) fo, AW G (x 21) 9 fst, BW G (fun k => x (k + 22)) fb, PW G (fun k => x (k + 30)) fp, LW G (fun k => x (k + 35)) fg, HGW G (fun k => x (k + 58)) hh, TW G (fun k => x (k + 136)) t]) H) (hD : va_D A (List.flatten [CW G x cx, OW G (fun k => x (k + 1)) o, AW G (x 2) 9 st, BW G (fun k => x (k + 3)) b, PW G (fun k => x (k + 11)) pf, LW G (fun k => x (k + 16)) g, OW G (fun k => x (k + 20)) fo, AW G (x 21) 9 fst, BW G (fun k => x (k + 22)) fb, PW G (fun k => x (k + 30)) fp, LW G (fun k => x (k + 35)) fg, HGW G (fun k => x (k + 58)) hh, TW G (fun k => x (k + 136)) t])) (hS : va_S A s.heap H locs) (hl : lv_has ls 6 [(3, .int 9), (5, .int 50), (4, .int 0), (2, .int 9), (0, .ref (x 0)), (1, .int 1)]) : W p l e { frames := 8, cells := 0, slots := 0, locals := 164 } s m (List.toArray [.ref (x 0), .int 1]) below meth c H locs 0 0 (gQ G below (List.toArray [.ref (x 0), .int 1]) s (some (.int 1)) [CW G x cx, OW G (fun k => x (k + 1)) o, AW G (x 2) 9 st, BW G (fun k => x (k + 3)) b, PW G (fun k => x (k + 11)) pf, LW G (fun k => x (k + 16)) g, OW G (fun k => x (k + 20)) fo, AW G (x 21) 9 fst, BW G (fun k => x (k + 22)) fb, PW G (fun k => x (k + 30)) fp, LW G (fun k => x (k + 35)) fg, HGW G (fun k => x (k + 58)) hh, TW G (fun k => x (k + 136)) t] A) (F0 m 327 ls []) := by
  refine lv_aload_n hx hb dL_refusesAny_327 rfl (lv_at hl 4 rfl) ?_
  refine lv_iconst (v := 0) hx hb dL_refusesAny_328 (by decide) ?_
  refine lv_iload_n hx hb dL_refusesAny_329 rfl (lv_at hl 3 rfl) ?_
  obtain ⟨k1, hok⟩ := hok
  refine g_callV (cr_cellB l G x cx o st b pf g 0 9 k1) hx hb hml hown hts hK hP hD hS hA gL_refusesAny_X6_cell rfl (n := 2) (by decide +kernel) rfl ⟨Nat.le_of_ble_eq_true rfl, Nat.le_of_ble_eq_true rfl⟩ [0, 1, 2, 3, 4, 5] rfl (by decide) 0 rfl (ci := 6) rfl hl.1 rfl (Nat.le_of_ble_eq_true rfl) ⟨Nat.zero_le _, Nat.zero_le _⟩ dL_refusesAny_330 (fun H locs hP hD hS => ?_)
  have hP : va_P G.1 vwCl (List.flatten [CW G x cx, OW G (fun k => x (k + 1)) o, AW G (x 2) 9 st, BW G (fun k => x (k + 3)) b, PW G (fun k => x (k + 11)) pf, LW G (fun k => x (k + 16)) g, OW G (fun k => x (k + 20)) fo, AW G (x 21) 9 fst, BW G (fun k => x (k + 22)) fb, PW G (fun k => x (k + 30)) fp, LW G (fun k => x (k + 35)) fg, HGW G (fun k => x (k + 58)) hh, TW G (fun k => x (k + 136)) t]) H := hP
  have hD : va_D A (List.flatten [CW G x cx, OW G (fun k => x (k + 1)) o, AW G (x 2) 9 st, BW G (fun k => x (k + 3)) b, PW G (fun k => x (k + 11)) pf, LW G (fun k => x (k + 16)) g, OW G (fun k => x (k + 20)) fo, AW G (x 21) 9 fst, BW G (fun k => x (k + 22)) fb, PW G (fun k => x (k + 30)) fp, LW G (fun k => x (k + 35)) fg, HGW G (fun k => x (k + 58)) hh, TW G (fun k => x (k + 136)) t]) := hD
  refine lv_bipush (v := (-2)) hx hb dL_refusesAny_333 (by decide) ?_
  refine lv_icmp_ne (tgt := 433) hx hb dL_refusesAny_335 (by decide) (fun c => absurd c (by decide)) (fun _ => ?_)
  refine lv_aload_n hx hb dL_refusesAny_338 rfl (lv_at hl 4 rfl) ?_
  refine lv_iload_n hx hb dL_refusesAny_339 rfl (lv_at hl 3 rfl) ?_
  obtain ⟨k2, hok⟩ := hok
  refine g_callV (cr_settingU l G x cx o st b pf g 9 k2) hx hb hml hown hts hK hP hD hS hA gL_refusesAny_X6_setting rfl (n := 1) (by decide +kernel) rfl ⟨Nat.le_of_ble_eq_true rfl, Nat.le_of_ble_eq_true rfl⟩ [0, 1, 2, 3, 4, 5] rfl (by decide) 0 rfl (ci := 6) rfl hl.1 rfl (Nat.le_of_ble_eq_true rfl) ⟨Nat.zero_le _, Nat.zero_le _⟩ dL_refusesAny_340 (fun H locs hP hD hS => ?_)
  have hP : va_P G.1 vwCl (List.flatten [CW G x cx, OW G (fun k => x (k + 1)) o, AW G (x 2) 9 st, BW G (fun k => x (k + 3)) b, PW G (fun k => x (k + 11)) pf, LW G (fun k => x (k + 16)) g, OW G (fun k => x (k + 20)) fo, AW G (x 21) 9 fst, BW G (fun k => x (k + 22)) fb, PW G (fun k => x (k + 30)) fp, LW G (fun k => x (k + 35)) fg, HGW G (fun k => x (k + 58)) hh, TW G (fun k => x (k + 136)) t]) H := hP
  have hD : va_D A (List.flatten [CW G x cx, OW G (fun k => x (k + 1)) o, AW G (x 2) 9 st, BW G (fun k => x (k + 3)) b, PW G (fun k => x (k + 11)) pf, LW G (fun k => x (k + 16)) g, OW G (fun k => x (k + 20)) fo, AW G (x 21) 9 fst, BW G (fun k => x (k + 22)) fb, PW G (fun k => x (k + 30)) fp, LW G (fun k => x (k + 35)) fg, HGW G (fun k => x (k + 58)) hh, TW G (fun k => x (k + 136)) t]) := hD
  refine lv_iconst (v := (-1)) hx hb dL_refusesAny_343 (by decide) ?_
  refine lv_icmp_ne (tgt := 433) hx hb dL_refusesAny_344 (by decide) (fun c => absurd c (by decide)) (fun _ => ?_)
  refine lv_aload_n hx hb dL_refusesAny_347 rfl (lv_at hl 4 rfl) ?_
  refine lv_iload_n hx hb dL_refusesAny_348 rfl (lv_at hl 5 rfl) ?_
  refine lv_if_ne (tgt := 356) hx hb dL_refusesAny_349 (by decide) (fun _ => ?_) (fun c => absurd c (by decide))
  refine lv_aload_n hx hb dL_refusesAny_356 rfl (lv_at hl 4 rfl) ?_
  refine lv_iconst (v := 2) hx hb dL_refusesAny_357 (by decide) ?_
  obtain ⟨k3, hok⟩ := hok
  refine g_callV (cr_count2 l G x cx o st b pf g hh t k3) hx hb hml hown hts hK hP hD hS hA gL_refusesAny_X6_count rfl (n := 1) (by decide +kernel) rfl ⟨Nat.le_of_ble_eq_true rfl, Nat.le_of_ble_eq_true rfl⟩ [0, 1, 2, 3, 4, 5, 11, 12] rfl (by decide) 0 rfl (ci := 6) rfl hl.1 rfl (Nat.le_of_ble_eq_true rfl) ⟨Nat.zero_le _, Nat.zero_le _⟩ dL_refusesAny_358 (fun H locs hP hD hS => ?_)
  have hP : va_P G.1 vwCl (List.flatten [CW G x cx, OW G (fun k => x (k + 1)) o, AW G (x 2) 9 st, BW G (fun k => x (k + 3)) b, PW G (fun k => x (k + 11)) pf, LW G (fun k => x (k + 16)) g, OW G (fun k => x (k + 20)) fo, AW G (x 21) 9 fst, BW G (fun k => x (k + 22)) fb, PW G (fun k => x (k + 30)) fp, LW G (fun k => x (k + 35)) fg, HGW G (fun k => x (k + 58)) hh, TW G (fun k => x (k + 136)) t]) H := hP
  have hD : va_D A (List.flatten [CW G x cx, OW G (fun k => x (k + 1)) o, AW G (x 2) 9 st, BW G (fun k => x (k + 3)) b, PW G (fun k => x (k + 11)) pf, LW G (fun k => x (k + 16)) g, OW G (fun k => x (k + 20)) fo, AW G (x 21) 9 fst, BW G (fun k => x (k + 22)) fb, PW G (fun k => x (k + 30)) fp, LW G (fun k => x (k + 35)) fg, HGW G (fun k => x (k + 58)) hh, TW G (fun k => x (k + 136)) t]) := hD
  refine lv_bipush (v := 99) hx hb dL_refusesAny_361 (by decide) ?_
  obtain ⟨k4, hok⟩ := hok
  refine g_callV (cr_stageU l G x cx o st b pf g (pf 0 0) 99 k4) hx hb hml hown hts hK hP hD hS hA gL_refusesAny_X6_stage rfl (n := 2) (by decide +kernel) rfl ⟨Nat.le_of_ble_eq_true rfl, Nat.le_of_ble_eq_true rfl⟩ [0, 1, 2, 3, 4, 5] rfl (by decide) 0 rfl (ci := 6) rfl hl.1 rfl (Nat.le_of_ble_eq_true rfl) ⟨Nat.zero_le _, Nat.zero_le _⟩ dL_refusesAny_363 (fun H locs hP hD hS => ?_)
  have hP : va_P G.1 vwCl (List.flatten [CW G x cx, OW G (fun k => x (k + 1)) o, AW G (x 2) 9 st, BW G (fun k => x (k + 3)) b, PW G (fun k => x (k + 11)) pf, LW G (fun k => x (k + 16)) g, OW G (fun k => x (k + 20)) fo, AW G (x 21) 9 fst, BW G (fun k => x (k + 22)) fb, PW G (fun k => x (k + 30)) fp, LW G (fun k => x (k + 35)) fg, HGW G (fun k => x (k + 58)) hh, TW G (fun k => x (k + 136)) t]) H := hP
  have hD : va_D A (List.flatten [CW G x cx, OW G (fun k => x (k + 1)) o, AW G (x 2) 9 st, BW G (fun k => x (k + 3)) b, PW G (fun k => x (k + 11)) pf, LW G (fun k => x (k + 16)) g, OW G (fun k => x (k + 20)) fo, AW G (x 21) 9 fst, BW G (fun k => x (k + 22)) fb, PW G (fun k => x (k + 30)) fp, LW G (fun k => x (k + 35)) fg, HGW G (fun k => x (k + 58)) hh, TW G (fun k => x (k + 136)) t]) := hD
  refine lv_iconst (v := (-1)) hx hb dL_refusesAny_366 (by decide) ?_
  refine lv_icmp_ne (tgt := 433) hx hb dL_refusesAny_367 (by decide) (fun c => absurd c (by decide)) (fun _ => ?_)
  refine lv_aload_n hx hb dL_refusesAny_370 rfl (lv_at hl 4 rfl) ?_
  refine lv_iload_n hx hb dL_refusesAny_371 rfl (lv_at hl 5 rfl) ?_
  refine lv_if_ne (tgt := 379) hx hb dL_refusesAny_372 (by decide) (fun _ => ?_) (fun c => absurd c (by decide))
  refine lv_sipush (v := 2001) hx hb dL_refusesAny_379 (by decide) ?_
  obtain ⟨k5, hok⟩ := hok
  refine g_callV (cr_voltage l G x cx o st b pf g 2001 k5) hx hb hml hown hts hK hP hD hS hA gL_refusesAny_X6_voltage rfl (n := 1) (by decide +kernel) rfl ⟨Nat.le_of_ble_eq_true rfl, Nat.le_of_ble_eq_true rfl⟩ [0, 1, 2, 3, 4, 5] rfl (by decide) 0 rfl (ci := 6) rfl hl.1 rfl (Nat.le_of_ble_eq_true rfl) ⟨Nat.zero_le _, Nat.zero_le _⟩ dL_refusesAny_382 (fun H locs hP hD hS => ?_)
  have hP : va_P G.1 vwCl (List.flatten [CW G x cx, OW G (fun k => x (k + 1)) o, AW G (x 2) 9 st, BW G (fun k => x (k + 3)) b, PW G (fun k => x (k + 11)) pf, LW G (fun k => x (k + 16)) g, OW G (fun k => x (k + 20)) fo, AW G (x 21) 9 fst, BW G (fun k => x (k + 22)) fb, PW G (fun k => x (k + 30)) fp, LW G (fun k => x (k + 35)) fg, HGW G (fun k => x (k + 58)) hh, TW G (fun k => x (k + 136)) t]) H := hP
  have hD : va_D A (List.flatten [CW G x cx, OW G (fun k => x (k + 1)) o, AW G (x 2) 9 st, BW G (fun k => x (k + 3)) b, PW G (fun k => x (k + 11)) pf, LW G (fun k => x (k + 16)) g, OW G (fun k => x (k + 20)) fo, AW G (x 21) 9 fst, BW G (fun k => x (k + 22)) fb, PW G (fun k => x (k + 30)) fp, LW G (fun k => x (k + 35)) fg, HGW G (fun k => x (k + 58)) hh, TW G (fun k => x (k + 136)) t]) := hD
  refine lv_bipush (v := (-2)) hx hb dL_refusesAny_385 (by decide) ?_
  refine lv_icmp_ne (tgt := 433) hx hb dL_refusesAny_387 (by decide) (fun c => absurd c (by decide)) (fun _ => ?_)
  refine lv_aload_n hx hb dL_refusesAny_390 rfl (lv_at hl 4 rfl) ?_
  refine lv_iload_n hx hb dL_refusesAny_391 rfl (lv_at hl 5 rfl) ?_
  refine lv_if_ne (tgt := 399) hx hb dL_refusesAny_392 (by decide) (fun _ => ?_) (fun c => absurd c (by decide))
  refine lv_aload_n hx hb dL_refusesAny_399 rfl (lv_at hl 4 rfl) ?_
  refine lv_iconst (v := 1) hx hb dL_refusesAny_400 (by decide) ?_
  obtain ⟨k6, hok⟩ := hok
  refine g_callV (cr_count1 l G x cx o st b pf g hh t k6) hx hb hml hown hts hK hP hD hS hA gL_refusesAny_X6_count rfl (n := 1) (by decide +kernel) rfl ⟨Nat.le_of_ble_eq_true rfl, Nat.le_of_ble_eq_true rfl⟩ [0, 1, 2, 3, 4, 5, 11, 12] rfl (by decide) 0 rfl (ci := 6) rfl hl.1 rfl (Nat.le_of_ble_eq_true rfl) ⟨Nat.zero_le _, Nat.zero_le _⟩ dL_refusesAny_401 (fun H locs hP hD hS => ?_)
  have hP : va_P G.1 vwCl (List.flatten [CW G x cx, OW G (fun k => x (k + 1)) o, AW G (x 2) 9 st, BW G (fun k => x (k + 3)) b, PW G (fun k => x (k + 11)) pf, LW G (fun k => x (k + 16)) g, OW G (fun k => x (k + 20)) fo, AW G (x 21) 9 fst, BW G (fun k => x (k + 22)) fb, PW G (fun k => x (k + 30)) fp, LW G (fun k => x (k + 35)) fg, HGW G (fun k => x (k + 58)) hh, TW G (fun k => x (k + 136)) t]) H := hP
  have hD : va_D A (List.flatten [CW G x cx, OW G (fun k => x (k + 1)) o, AW G (x 2) 9 st, BW G (fun k => x (k + 3)) b, PW G (fun k => x (k + 11)) pf, LW G (fun k => x (k + 16)) g, OW G (fun k => x (k + 20)) fo, AW G (x 21) 9 fst, BW G (fun k => x (k + 22)) fb, PW G (fun k => x (k + 30)) fp, LW G (fun k => x (k + 35)) fg, HGW G (fun k => x (k + 58)) hh, TW G (fun k => x (k + 136)) t]) := hD
  refine lv_iconst (v := (-1)) hx hb dL_refusesAny_404 (by decide) ?_
  obtain ⟨k7, hok⟩ := hok
  refine g_callV (cr_chargeInU l G x cx o st b pf g fo fst fb fp fg (b 0 0) (-1) k7) hx hb hml hown hts hK hP hD hS hA gL_refusesAny_X6_chargeIn rfl (n := 2) (by decide +kernel) rfl ⟨Nat.le_of_ble_eq_true rfl, Nat.le_of_ble_eq_true rfl⟩ [0, 1, 2, 3, 4, 5, 6, 7, 8, 9, 10] rfl (by decide) 0 rfl (ci := 6) rfl hl.1 rfl (Nat.le_of_ble_eq_true rfl) ⟨Nat.zero_le _, Nat.zero_le _⟩ dL_refusesAny_405 (fun H locs hP hD hS => ?_)
  have hP : va_P G.1 vwCl (List.flatten [CW G x cx, OW G (fun k => x (k + 1)) o, AW G (x 2) 9 st, BW G (fun k => x (k + 3)) b, PW G (fun k => x (k + 11)) pf, LW G (fun k => x (k + 16)) g, OW G (fun k => x (k + 20)) fo, AW G (x 21) 9 fst, BW G (fun k => x (k + 22)) fb, PW G (fun k => x (k + 30)) fp, LW G (fun k => x (k + 35)) fg, HGW G (fun k => x (k + 58)) hh, TW G (fun k => x (k + 136)) t]) H := hP
  have hD : va_D A (List.flatten [CW G x cx, OW G (fun k => x (k + 1)) o, AW G (x 2) 9 st, BW G (fun k => x (k + 3)) b, PW G (fun k => x (k + 11)) pf, LW G (fun k => x (k + 16)) g, OW G (fun k => x (k + 20)) fo, AW G (x 21) 9 fst, BW G (fun k => x (k + 22)) fb, PW G (fun k => x (k + 30)) fp, LW G (fun k => x (k + 35)) fg, HGW G (fun k => x (k + 58)) hh, TW G (fun k => x (k + 136)) t]) := hD
  refine lv_iconst (v := (-1)) hx hb dL_refusesAny_408 (by decide) ?_
  refine lv_icmp_ne (tgt := 433) hx hb dL_refusesAny_409 (by decide) (fun c => absurd c (by decide)) (fun _ => ?_)
  exact c_L_refusesAny1_7 l G z x cx o st b pf g fo fst fb fp fg hh t hx hb hml hr hts hown hlocks hK hA hZ hok hP hD hS (lv_sub hl [0, 1, 2, 3, 4, 5] rfl)
set_option maxHeartbeats 4000000 in
set_option maxRecDepth 100000 in
theorem c_L_refusesAny1_5 (l : Launch) (G : gG) (z : Nat × Nat × Nat) (x : Nat → Nat) (cx : (Nat → Int32)) (o : (Nat → Int32)) (st : (Nat → Int32)) (b : (Nat → Nat → Int32)) (pf : (Nat → Nat → Int32)) (g : (Nat → Nat → Int32)) (fo : (Nat → Int32)) (fst : (Nat → Int32)) (fb : (Nat → Nat → Int32)) (fp : (Nat → Nat → Int32)) (fg : (Nat → Nat → Int32)) (hh : HVal) (t : (Nat → Nat → Int32)) {p : Program} {e : Env} {s : State} {m : MethodId} {below : List Frame} {meth : Method} {c : Code} {A : Nat → Prop} {H : Heap} {locs : List Loc} {ls : Array Slot} (hx : p.tables.exec = Jvm.exec) (hb : c.code = cL_refusesAny) (hml : c.maxLocals = 6) (hr : meth.sig.returnType = (some .boolean)) (hts : ∀ w ∈ wsL_refusesAny, w.before (List.toArray [.ref (x 0), .int 1]) s = true) (hown : s.vm.findClass RL = some m.cls) (hlocks : meth.locks = false) (hK : gK G s) (hA : ∀ q : Nat, s.heap.size ≤ q → A q) (hZ : gZ z A s) (hok : (rok_settingV 7) ∧ (rok_setN o st b pf g hh 7 ((st (7 : Int32).toNatClampNeg + 1000) - 1000)) ∧ (rok_setB o st b pf g hh 8 51) ∧ (rok_settingV 8) ∧ (rok_setN o st b pf g hh 8 ((st (8 : Int32).toNatClampNeg + 1000) - 1000)) ∧ (rok_count1 b) ∧ (rok_cellU st b (b 0 0) 99) ∧ (rok_cellB st b 0 9) ∧ (rok_settingU 9) ∧ (rok_count2 b) ∧ (rok_stageU pf (pf 0 0) 99) ∧ (rok_voltage st b 2001) ∧ (rok_count1 b) ∧ (rok_chargeInU o st b pf g (b 0 0) (-1)) ∧ (rok_chargeInB o st b pf g 0 201) ∧ (rok_eventB g 0 3) ∧ (rok_eventN g 10 0) ∧ (rok_countB b 14) ∧ (rok_count3 b o) ∧ (rok_warmest o st b pf g fo fst fb fp fg) ∧ (rok_count3 b o) ∧ (rok_count3 b o) ∧ (rok_stop o hh) ∧ True) (hP : va_P G.1 vwCl (List.flatten [CW G x cx, OW G (fun k => x (k + 1)) o, AW G (x 2) 9 st, BW G (fun k => x (k + 3)) b, PW G (fun k => x (k + 11)) pf, LW G (fun k => x (k + 16)) g, OW G (fun k => x (k + 20)) fo, AW G (x 21) 9 fst, BW G (fun k => x (k + 22)) fb, PW G (fun k => x (k + 30)) fp, LW G (fun k => x (k + 35)) fg, HGW G (fun k => x (k + 58)) hh, TW G (fun k => x (k + 136)) t]) H) (hD : va_D A (List.flatten [CW G x cx, OW G (fun k => x (k + 1)) o, AW G (x 2) 9 st, BW G (fun k => x (k + 3)) b, PW G (fun k => x (k + 11)) pf, LW G (fun k => x (k + 16)) g, OW G (fun k => x (k + 20)) fo, AW G (x 21) 9 fst, BW G (fun k => x (k + 22)) fb, PW G (fun k => x (k + 30)) fp, LW G (fun k => x (k + 35)) fg, HGW G (fun k => x (k + 58)) hh, TW G (fun k => x (k + 136)) t])) (hS : va_S A s.heap H locs) (hl : lv_has ls 6 [(5, .int 500), (4, .int 0), (3, .int 7), (2, .int 9), (0, .ref (x 0)), (1, .int 1)]) : W p l e { frames := 8, cells := 0, slots := 0, locals := 164 } s m (List.toArray [.ref (x 0), .int 1]) below meth c H locs 0 0 (gQ G below (List.toArray [.ref (x 0), .int 1]) s (some (.int 1)) [CW G x cx, OW G (fun k => x (k + 1)) o, AW G (x 2) 9 st, BW G (fun k => x (k + 3)) b, PW G (fun k => x (k + 11)) pf, LW G (fun k => x (k + 16)) g, OW G (fun k => x (k + 20)) fo, AW G (x 21) 9 fst, BW G (fun k => x (k + 22)) fb, PW G (fun k => x (k + 30)) fp, LW G (fun k => x (k + 35)) fg, HGW G (fun k => x (k + 58)) hh, TW G (fun k => x (k + 136)) t] A) (F0 m 277 ls []) := by
  refine lv_aload_n hx hb dL_refusesAny_277 rfl (lv_at hl 4 rfl) ?_
  refine lv_iload_n hx hb dL_refusesAny_278 rfl (lv_at hl 2 rfl) ?_
  refine lv_aload_n hx hb dL_refusesAny_279 rfl (lv_at hl 4 rfl) ?_
  refine lv_iload_n hx hb dL_refusesAny_280 rfl (lv_at hl 2 rfl) ?_
  obtain ⟨k1, hok⟩ := hok
  refine g_callV (cr_settingV l G x cx o st b pf g 7 k1) hx hb hml hown hts hK hP hD hS hA gL_refusesAny_X6_setting rfl (n := 1) (by decide +kernel) rfl ⟨Nat.le_of_ble_eq_true rfl, Nat.le_of_ble_eq_true rfl⟩ [0, 1, 2, 3, 4, 5] rfl (by decide) 0 rfl (ci := 6) rfl hl.1 rfl (Nat.le_of_ble_eq_true rfl) ⟨Nat.zero_le _, Nat.zero_le _⟩ dL_refusesAny_281 (fun H locs hP hD hS => ?_)
  have hP : va_P G.1 vwCl (List.flatten [CW G x cx, OW G (fun k => x (k + 1)) o, AW G (x 2) 9 st, BW G (fun k => x (k + 3)) b, PW G (fun k => x (k + 11)) pf, LW G (fun k => x (k + 16)) g, OW G (fun k => x (k + 20)) fo, AW G (x 21) 9 fst, BW G (fun k => x (k + 22)) fb, PW G (fun k => x (k + 30)) fp, LW G (fun k => x (k + 35)) fg, HGW G (fun k => x (k + 58)) hh, TW G (fun k => x (k + 136)) t]) H := hP
  have hD : va_D A (List.flatten [CW G x cx, OW G (fun k => x (k + 1)) o, AW G (x 2) 9 st, BW G (fun k => x (k + 3)) b, PW G (fun k => x (k + 11)) pf, LW G (fun k => x (k + 16)) g, OW G (fun k => x (k + 20)) fo, AW G (x 21) 9 fst, BW G (fun k => x (k + 22)) fb, PW G (fun k => x (k + 30)) fp, LW G (fun k => x (k + 35)) fg, HGW G (fun k => x (k + 58)) hh, TW G (fun k => x (k + 136)) t]) := hD
  refine lv_sipush (v := 1000) hx hb dL_refusesAny_284 (by decide) ?_
  refine lv_isub hx hb dL_refusesAny_287 ?_
  obtain ⟨k2, hok⟩ := hok
  refine g_callZ (cr_setN l G z x cx o st b pf g hh 7 ((st (7 : Int32).toNatClampNeg + 1000) - 1000) k2) hx hb hml hown hts hK hP hD hS hA hZ gL_refusesAny_X6_set rfl (n := 2) (by decide +kernel) rfl ⟨Nat.le_of_ble_eq_true rfl, Nat.le_of_ble_eq_true rfl⟩ [0, 1, 2, 3, 4, 5, 11] rfl (by decide) 0 rfl (ci := 6) rfl hl.1 rfl (Nat.le_of_ble_eq_true rfl) ⟨Nat.zero_le _, Nat.zero_le _⟩ dL_refusesAny_288 (fun H locs hP hD hS => ?_)
  have hP : va_P G.1 vwCl (List.flatten [CW G x cx, OW G (fun k => x (k + 1)) o, AW G (x 2) 9 st, BW G (fun k => x (k + 3)) b, PW G (fun k => x (k + 11)) pf, LW G (fun k => x (k + 16)) g, OW G (fun k => x (k + 20)) fo, AW G (x 21) 9 fst, BW G (fun k => x (k + 22)) fb, PW G (fun k => x (k + 30)) fp, LW G (fun k => x (k + 35)) fg, HGW G (fun k => x (k + 58)) hh, TW G (fun k => x (k + 136)) t]) H := hP
  have hD : va_D A (List.flatten [CW G x cx, OW G (fun k => x (k + 1)) o, AW G (x 2) 9 st, BW G (fun k => x (k + 3)) b, PW G (fun k => x (k + 11)) pf, LW G (fun k => x (k + 16)) g, OW G (fun k => x (k + 20)) fo, AW G (x 21) 9 fst, BW G (fun k => x (k + 22)) fb, PW G (fun k => x (k + 30)) fp, LW G (fun k => x (k + 35)) fg, HGW G (fun k => x (k + 58)) hh, TW G (fun k => x (k + 136)) t]) := hD
  refine lv_bipush (v := (-5)) hx hb dL_refusesAny_291 (by decide) ?_
  refine lv_icmp_eq (tgt := 298) hx hb dL_refusesAny_293 (by decide) (fun _ => ?_) (fun c => absurd c (by decide))
  refine lv_iinc (v := 8) (lv' := [(3, .int 8), (5, .int 500), (4, .int 0), (2, .int 9), (0, .ref (x 0)), (1, .int 1)]) hx hb dL_refusesAny_298 hl (k := 2) rfl (by decide) (by decide) rfl (fun ls hl => ?_)
  refine lv_goto (tgt := 135) hx hb dL_refusesAny_301 (by decide) ?_
  refine lv_iload_n hx hb dL_refusesAny_135 rfl (lv_at hl 0 rfl) ?_
  refine lv_bipush (v := 9) hx hb dL_refusesAny_136 (by decide) ?_
  refine lv_icmp_ge (tgt := 304) hx hb dL_refusesAny_138 (by decide) (fun c => absurd c (by decide)) (fun _ => ?_)
  refine lv_iload_n hx hb dL_refusesAny_141 rfl (lv_at hl 0 rfl) ?_
  refine lv_if_ne (tgt := 150) hx hb dL_refusesAny_142 (by decide) (fun _ => ?_) (fun c => absurd c (by decide))
  refine lv_iload_n hx hb dL_refusesAny_150 rfl (lv_at hl 0 rfl) ?_
  refine lv_iconst (v := 2) hx hb dL_refusesAny_151 (by decide) ?_
  refine lv_icmp_ne (tgt := 160) hx hb dL_refusesAny_152 (by decide) (fun _ => ?_) (fun c => absurd c (by decide))
  refine lv_iload_n hx hb dL_refusesAny_160 rfl (lv_at hl 0 rfl) ?_
  refine lv_iconst (v := 3) hx hb dL_refusesAny_161 (by decide) ?_
  refine lv_icmp_eq (tgt := 176) hx hb dL_refusesAny_162 (by decide) (fun c => absurd c (by decide)) (fun _ => ?_)
  refine lv_iload_n hx hb dL_refusesAny_165 rfl (lv_at hl 0 rfl) ?_
  refine lv_iconst (v := 5) hx hb dL_refusesAny_166 (by decide) ?_
  refine lv_icmp_eq (tgt := 176) hx hb dL_refusesAny_167 (by decide) (fun c => absurd c (by decide)) (fun _ => ?_)
  refine lv_iload_n hx hb dL_refusesAny_170 rfl (lv_at hl 0 rfl) ?_
  refine lv_bipush (v := 6) hx hb dL_refusesAny_171 (by decide) ?_
  refine lv_icmp_ne (tgt := 181) hx hb dL_refusesAny_173 (by decide) (fun _ => ?_) (fun c => absurd c (by decide))
  refine lv_iconst (v := 0) hx hb dL_refusesAny_181 (by decide) ?_
  refine lv_istore (lv' := [(4, .int 0), (3, .int 8), (5, .int 500), (2, .int 9), (0, .ref (x 0)), (1, .int 1)]) hx hb dL_refusesAny_182 hl (by decide) rfl (fun ls hl => ?_)
  refine lv_iload_n hx hb dL_refusesAny_184 rfl (lv_at hl 1 rfl) ?_
  refine lv_if_ne (tgt := 194) hx hb dL_refusesAny_185 (by decide) (fun _ => ?_) (fun c => absurd c (by decide))
  refine lv_iload_n hx hb dL_refusesAny_194 rfl (lv_at hl 1 rfl) ?_
  refine lv_iconst (v := 1) hx hb dL_refusesAny_195 (by decide) ?_
  refine lv_icmp_ne (tgt := 205) hx hb dL_refusesAny_196 (by decide) (fun _ => ?_) (fun c => absurd c (by decide))
  refine lv_iload_n hx hb dL_refusesAny_205 rfl (lv_at hl 1 rfl) ?_
  refine lv_iconst (v := 2) hx hb dL_refusesAny_206 (by decide) ?_
  refine lv_icmp_ne (tgt := 215) hx hb dL_refusesAny_207 (by decide) (fun _ => ?_) (fun c => absurd c (by decide))
  refine lv_iload_n hx hb dL_refusesAny_215 rfl (lv_at hl 1 rfl) ?_
  refine lv_iconst (v := 4) hx hb dL_refusesAny_216 (by decide) ?_
  refine lv_icmp_ne (tgt := 225) hx hb dL_refusesAny_217 (by decide) (fun _ => ?_) (fun c => absurd c (by decide))
  refine lv_iload_n hx hb dL_refusesAny_225 rfl (lv_at hl 1 rfl) ?_
  refine lv_bipush (v := 7) hx hb dL_refusesAny_226 (by decide) ?_
  refine lv_icmp_ne (tgt := 237) hx hb dL_refusesAny_228 (by decide) (fun _ => ?_) (fun c => absurd c (by decide))
  refine lv_iload_n hx hb dL_refusesAny_237 rfl (lv_at hl 1 rfl) ?_
  refine lv_bipush (v := 8) hx hb dL_refusesAny_238 (by decide) ?_
  refine lv_icmp_ne (tgt := 248) hx hb dL_refusesAny_240 (by decide) (fun c => absurd c (by decide)) (fun _ => ?_)
  refine lv_bipush (v := 50) hx hb dL_refusesAny_243 (by decide) ?_
  refine lv_goto (tgt := 250) hx hb dL_refusesAny_245 (by decide) ?_
  refine lv_istore (lv' := [(5, .int 50), (4, .int 0), (3, .int 8), (2, .int 9), (0, .ref (x 0)), (1, .int 1)]) hx hb dL_refusesAny_250 hl (by decide) rfl (fun ls hl => ?_)
  refine lv_aload_n hx hb dL_refusesAny_252 rfl (lv_at hl 4 rfl) ?_
  refine lv_iload_n hx hb dL_refusesAny_253 rfl (lv_at hl 2 rfl) ?_
  refine lv_iload_n hx hb dL_refusesAny_254 rfl (lv_at hl 5 rfl) ?_
  refine lv_if_ne (tgt := 265) hx hb dL_refusesAny_255 (by decide) (fun _ => ?_) (fun c => absurd c (by decide))
  refine lv_iload hx hb dL_refusesAny_265 (lv_at hl 0 rfl) ?_
  refine lv_iconst (v := 1) hx hb dL_refusesAny_267 (by decide) ?_
  refine lv_iadd hx hb dL_refusesAny_268 ?_
  refine g_topE (y := 51) (by decide) ?_
  obtain ⟨k3, hok⟩ := hok
  refine g_callZ (cr_setB l G z x cx o st b pf g hh 8 51 k3) hx hb hml hown hts hK hP hD hS hA hZ gL_refusesAny_X6_set rfl (n := 2) (by decide +kernel) rfl ⟨Nat.le_of_ble_eq_true rfl, Nat.le_of_ble_eq_true rfl⟩ [0, 1, 2, 3, 4, 5, 11] rfl (by decide) 0 rfl (ci := 6) rfl hl.1 rfl (Nat.le_of_ble_eq_true rfl) ⟨Nat.zero_le _, Nat.zero_le _⟩ dL_refusesAny_269 (fun H locs hP hD hS => ?_)
  have hP : va_P G.1 vwCl (List.flatten [CW G x cx, OW G (fun k => x (k + 1)) o, AW G (x 2) 9 st, BW G (fun k => x (k + 3)) b, PW G (fun k => x (k + 11)) pf, LW G (fun k => x (k + 16)) g, OW G (fun k => x (k + 20)) fo, AW G (x 21) 9 fst, BW G (fun k => x (k + 22)) fb, PW G (fun k => x (k + 30)) fp, LW G (fun k => x (k + 35)) fg, HGW G (fun k => x (k + 58)) hh, TW G (fun k => x (k + 136)) t]) H := hP
  have hD : va_D A (List.flatten [CW G x cx, OW G (fun k => x (k + 1)) o, AW G (x 2) 9 st, BW G (fun k => x (k + 3)) b, PW G (fun k => x (k + 11)) pf, LW G (fun k => x (k + 16)) g, OW G (fun k => x (k + 20)) fo, AW G (x 21) 9 fst, BW G (fun k => x (k + 22)) fb, PW G (fun k => x (k + 30)) fp, LW G (fun k => x (k + 35)) fg, HGW G (fun k => x (k + 58)) hh, TW G (fun k => x (k + 136)) t]) := hD
  refine lv_bipush (v := (-2)) hx hb dL_refusesAny_272 (by decide) ?_
  refine lv_icmp_ne (tgt := 296) hx hb dL_refusesAny_274 (by decide) (fun c => absurd c (by decide)) (fun _ => ?_)
  refine lv_aload_n hx hb dL_refusesAny_277 rfl (lv_at hl 4 rfl) ?_
  refine lv_iload_n hx hb dL_refusesAny_278 rfl (lv_at hl 2 rfl) ?_
  refine lv_aload_n hx hb dL_refusesAny_279 rfl (lv_at hl 4 rfl) ?_
  refine lv_iload_n hx hb dL_refusesAny_280 rfl (lv_at hl 2 rfl) ?_
  obtain ⟨k4, hok⟩ := hok
  refine g_callV (cr_settingV l G x cx o st b pf g 8 k4) hx hb hml hown hts hK hP hD hS hA gL_refusesAny_X6_setting rfl (n := 1) (by decide +kernel) rfl ⟨Nat.le_of_ble_eq_true rfl, Nat.le_of_ble_eq_true rfl⟩ [0, 1, 2, 3, 4, 5] rfl (by decide) 0 rfl (ci := 6) rfl hl.1 rfl (Nat.le_of_ble_eq_true rfl) ⟨Nat.zero_le _, Nat.zero_le _⟩ dL_refusesAny_281 (fun H locs hP hD hS => ?_)
  have hP : va_P G.1 vwCl (List.flatten [CW G x cx, OW G (fun k => x (k + 1)) o, AW G (x 2) 9 st, BW G (fun k => x (k + 3)) b, PW G (fun k => x (k + 11)) pf, LW G (fun k => x (k + 16)) g, OW G (fun k => x (k + 20)) fo, AW G (x 21) 9 fst, BW G (fun k => x (k + 22)) fb, PW G (fun k => x (k + 30)) fp, LW G (fun k => x (k + 35)) fg, HGW G (fun k => x (k + 58)) hh, TW G (fun k => x (k + 136)) t]) H := hP
  have hD : va_D A (List.flatten [CW G x cx, OW G (fun k => x (k + 1)) o, AW G (x 2) 9 st, BW G (fun k => x (k + 3)) b, PW G (fun k => x (k + 11)) pf, LW G (fun k => x (k + 16)) g, OW G (fun k => x (k + 20)) fo, AW G (x 21) 9 fst, BW G (fun k => x (k + 22)) fb, PW G (fun k => x (k + 30)) fp, LW G (fun k => x (k + 35)) fg, HGW G (fun k => x (k + 58)) hh, TW G (fun k => x (k + 136)) t]) := hD
  refine lv_sipush (v := 1000) hx hb dL_refusesAny_284 (by decide) ?_
  refine lv_isub hx hb dL_refusesAny_287 ?_
  obtain ⟨k5, hok⟩ := hok
  refine g_callZ (cr_setN l G z x cx o st b pf g hh 8 ((st (8 : Int32).toNatClampNeg + 1000) - 1000) k5) hx hb hml hown hts hK hP hD hS hA hZ gL_refusesAny_X6_set rfl (n := 2) (by decide +kernel) rfl ⟨Nat.le_of_ble_eq_true rfl, Nat.le_of_ble_eq_true rfl⟩ [0, 1, 2, 3, 4, 5, 11] rfl (by decide) 0 rfl (ci := 6) rfl hl.1 rfl (Nat.le_of_ble_eq_true rfl) ⟨Nat.zero_le _, Nat.zero_le _⟩ dL_refusesAny_288 (fun H locs hP hD hS => ?_)
  have hP : va_P G.1 vwCl (List.flatten [CW G x cx, OW G (fun k => x (k + 1)) o, AW G (x 2) 9 st, BW G (fun k => x (k + 3)) b, PW G (fun k => x (k + 11)) pf, LW G (fun k => x (k + 16)) g, OW G (fun k => x (k + 20)) fo, AW G (x 21) 9 fst, BW G (fun k => x (k + 22)) fb, PW G (fun k => x (k + 30)) fp, LW G (fun k => x (k + 35)) fg, HGW G (fun k => x (k + 58)) hh, TW G (fun k => x (k + 136)) t]) H := hP
  have hD : va_D A (List.flatten [CW G x cx, OW G (fun k => x (k + 1)) o, AW G (x 2) 9 st, BW G (fun k => x (k + 3)) b, PW G (fun k => x (k + 11)) pf, LW G (fun k => x (k + 16)) g, OW G (fun k => x (k + 20)) fo, AW G (x 21) 9 fst, BW G (fun k => x (k + 22)) fb, PW G (fun k => x (k + 30)) fp, LW G (fun k => x (k + 35)) fg, HGW G (fun k => x (k + 58)) hh, TW G (fun k => x (k + 136)) t]) := hD
  refine lv_bipush (v := (-5)) hx hb dL_refusesAny_291 (by decide) ?_
  refine lv_icmp_eq (tgt := 298) hx hb dL_refusesAny_293 (by decide) (fun _ => ?_) (fun c => absurd c (by decide))
  refine lv_iinc (v := 9) (lv' := [(3, .int 9), (5, .int 50), (4, .int 0), (2, .int 9), (0, .ref (x 0)), (1, .int 1)]) hx hb dL_refusesAny_298 hl (k := 2) rfl (by decide) (by decide) rfl (fun ls hl => ?_)
  refine lv_goto (tgt := 135) hx hb dL_refusesAny_301 (by decide) ?_
  refine lv_iload_n hx hb dL_refusesAny_135 rfl (lv_at hl 0 rfl) ?_
  refine lv_bipush (v := 9) hx hb dL_refusesAny_136 (by decide) ?_
  refine lv_icmp_ge (tgt := 304) hx hb dL_refusesAny_138 (by decide) (fun _ => ?_) (fun c => absurd c (by decide))
  refine lv_aload_n hx hb dL_refusesAny_304 rfl (lv_at hl 4 rfl) ?_
  refine lv_iload_n hx hb dL_refusesAny_305 rfl (lv_at hl 5 rfl) ?_
  refine lv_if_ne (tgt := 313) hx hb dL_refusesAny_306 (by decide) (fun _ => ?_) (fun c => absurd c (by decide))
  refine lv_aload_n hx hb dL_refusesAny_313 rfl (lv_at hl 4 rfl) ?_
  refine lv_iconst (v := 1) hx hb dL_refusesAny_314 (by decide) ?_
  obtain ⟨k6, hok⟩ := hok
  refine g_callV (cr_count1 l G x cx o st b pf g hh t k6) hx hb hml hown hts hK hP hD hS hA gL_refusesAny_X6_count rfl (n := 1) (by decide +kernel) rfl ⟨Nat.le_of_ble_eq_true rfl, Nat.le_of_ble_eq_true rfl⟩ [0, 1, 2, 3, 4, 5, 11, 12] rfl (by decide) 0 rfl (ci := 6) rfl hl.1 rfl (Nat.le_of_ble_eq_true rfl) ⟨Nat.zero_le _, Nat.zero_le _⟩ dL_refusesAny_315 (fun H locs hP hD hS => ?_)
  have hP : va_P G.1 vwCl (List.flatten [CW G x cx, OW G (fun k => x (k + 1)) o, AW G (x 2) 9 st, BW G (fun k => x (k + 3)) b, PW G (fun k => x (k + 11)) pf, LW G (fun k => x (k + 16)) g, OW G (fun k => x (k + 20)) fo, AW G (x 21) 9 fst, BW G (fun k => x (k + 22)) fb, PW G (fun k => x (k + 30)) fp, LW G (fun k => x (k + 35)) fg, HGW G (fun k => x (k + 58)) hh, TW G (fun k => x (k + 136)) t]) H := hP
  have hD : va_D A (List.flatten [CW G x cx, OW G (fun k => x (k + 1)) o, AW G (x 2) 9 st, BW G (fun k => x (k + 3)) b, PW G (fun k => x (k + 11)) pf, LW G (fun k => x (k + 16)) g, OW G (fun k => x (k + 20)) fo, AW G (x 21) 9 fst, BW G (fun k => x (k + 22)) fb, PW G (fun k => x (k + 30)) fp, LW G (fun k => x (k + 35)) fg, HGW G (fun k => x (k + 58)) hh, TW G (fun k => x (k + 136)) t]) := hD
  refine lv_bipush (v := 99) hx hb dL_refusesAny_318 (by decide) ?_
  obtain ⟨k7, hok⟩ := hok
  refine g_callV (cr_cellU l G x cx o st b pf g (b 0 0) 99 k7) hx hb hml hown hts hK hP hD hS hA gL_refusesAny_X6_cell rfl (n := 2) (by decide +kernel) rfl ⟨Nat.le_of_ble_eq_true rfl, Nat.le_of_ble_eq_true rfl⟩ [0, 1, 2, 3, 4, 5] rfl (by decide) 0 rfl (ci := 6) rfl hl.1 rfl (Nat.le_of_ble_eq_true rfl) ⟨Nat.zero_le _, Nat.zero_le _⟩ dL_refusesAny_320 (fun H locs hP hD hS => ?_)
  have hP : va_P G.1 vwCl (List.flatten [CW G x cx, OW G (fun k => x (k + 1)) o, AW G (x 2) 9 st, BW G (fun k => x (k + 3)) b, PW G (fun k => x (k + 11)) pf, LW G (fun k => x (k + 16)) g, OW G (fun k => x (k + 20)) fo, AW G (x 21) 9 fst, BW G (fun k => x (k + 22)) fb, PW G (fun k => x (k + 30)) fp, LW G (fun k => x (k + 35)) fg, HGW G (fun k => x (k + 58)) hh, TW G (fun k => x (k + 136)) t]) H := hP
  have hD : va_D A (List.flatten [CW G x cx, OW G (fun k => x (k + 1)) o, AW G (x 2) 9 st, BW G (fun k => x (k + 3)) b, PW G (fun k => x (k + 11)) pf, LW G (fun k => x (k + 16)) g, OW G (fun k => x (k + 20)) fo, AW G (x 21) 9 fst, BW G (fun k => x (k + 22)) fb, PW G (fun k => x (k + 30)) fp, LW G (fun k => x (k + 35)) fg, HGW G (fun k => x (k + 58)) hh, TW G (fun k => x (k + 136)) t]) := hD
  refine lv_iconst (v := (-1)) hx hb dL_refusesAny_323 (by decide) ?_
  refine lv_icmp_ne (tgt := 433) hx hb dL_refusesAny_324 (by decide) (fun c => absurd c (by decide)) (fun _ => ?_)
  exact c_L_refusesAny1_6 l G z x cx o st b pf g fo fst fb fp fg hh t hx hb hml hr hts hown hlocks hK hA hZ hok hP hD hS (lv_sub hl [0, 1, 2, 3, 4, 5] rfl)
set_option maxHeartbeats 4000000 in
set_option maxRecDepth 100000 in
theorem c_L_refusesAny1_4 (l : Launch) (G : gG) (z : Nat × Nat × Nat) (x : Nat → Nat) (cx : (Nat → Int32)) (o : (Nat → Int32)) (st : (Nat → Int32)) (b : (Nat → Nat → Int32)) (pf : (Nat → Nat → Int32)) (g : (Nat → Nat → Int32)) (fo : (Nat → Int32)) (fst : (Nat → Int32)) (fb : (Nat → Nat → Int32)) (fp : (Nat → Nat → Int32)) (fg : (Nat → Nat → Int32)) (hh : HVal) (t : (Nat → Nat → Int32)) {p : Program} {e : Env} {s : State} {m : MethodId} {below : List Frame} {meth : Method} {c : Code} {A : Nat → Prop} {H : Heap} {locs : List Loc} {ls : Array Slot} (hx : p.tables.exec = Jvm.exec) (hb : c.code = cL_refusesAny) (hml : c.maxLocals = 6) (hr : meth.sig.returnType = (some .boolean)) (hts : ∀ w ∈ wsL_refusesAny, w.before (List.toArray [.ref (x 0), .int 1]) s = true) (hown : s.vm.findClass RL = some m.cls) (hlocks : meth.locks = false) (hK : gK G s) (hA : ∀ q : Nat, s.heap.size ≤ q → A q) (hZ : gZ z A s) (hok : (rok_settingV 5) ∧ (rok_setN o st b pf g hh 5 ((st (5 : Int32).toNatClampNeg + 1000) - 1000)) ∧ (rok_setB o st b pf g hh 6 81) ∧ (rok_settingV 6) ∧ (rok_setN o st b pf g hh 6 ((st (6 : Int32).toNatClampNeg + 1000) - 1000)) ∧ (rok_setB o st b pf g hh 7 501) ∧ (rok_settingV 7) ∧ (rok_setN o st b pf g hh 7 ((st (7 : Int32).toNatClampNeg + 1000) - 1000)) ∧ (rok_setB o st b pf g hh 8 51) ∧ (rok_settingV 8) ∧ (rok_setN o st b pf g hh 8 ((st (8 : Int32).toNatClampNeg + 1000) - 1000)) ∧ (rok_count1 b) ∧ (rok_cellU st b (b 0 0) 99) ∧ (rok_cellB st b 0 9) ∧ (rok_settingU 9) ∧ (rok_count2 b) ∧ (rok_stageU pf (pf 0 0) 99) ∧ (rok_voltage st b 2001) ∧ (rok_count1 b) ∧ (rok_chargeInU o st b pf g (b 0 0) (-1)) ∧ (rok_chargeInB o st b pf g 0 201) ∧ (rok_eventB g 0 3) ∧ (rok_eventN g 10 0) ∧ (rok_countB b 14) ∧ (rok_count3 b o) ∧ (rok_warmest o st b pf g fo fst fb fp fg) ∧ (rok_count3 b o) ∧ (rok_count3 b o) ∧ (rok_stop o hh) ∧ True) (hP : va_P G.1 vwCl (List.flatten [CW G x cx, OW G (fun k => x (k + 1)) o, AW G (x 2) 9 st, BW G (fun k => x (k + 3)) b, PW G (fun k => x (k + 11)) pf, LW G (fun k => x (k + 16)) g, OW G (fun k => x (k + 20)) fo, AW G (x 21) 9 fst, BW G (fun k => x (k + 22)) fb, PW G (fun k => x (k + 30)) fp, LW G (fun k => x (k + 35)) fg, HGW G (fun k => x (k + 58)) hh, TW G (fun k => x (k + 136)) t]) H) (hD : va_D A (List.flatten [CW G x cx, OW G (fun k => x (k + 1)) o, AW G (x 2) 9 st, BW G (fun k => x (k + 3)) b, PW G (fun k => x (k + 11)) pf, LW G (fun k => x (k + 16)) g, OW G (fun k => x (k + 20)) fo, AW G (x 21) 9 fst, BW G (fun k => x (k + 22)) fb, PW G (fun k => x (k + 30)) fp, LW G (fun k => x (k + 35)) fg, HGW G (fun k => x (k + 58)) hh, TW G (fun k => x (k + 136)) t])) (hS : va_S A s.heap H locs) (hl : lv_has ls 6 [(5, .int 80), (4, .int (-30)), (3, .int 5), (2, .int 9), (0, .ref (x 0)), (1, .int 1)]) : W p l e { frames := 8, cells := 0, slots := 0, locals := 164 } s m (List.toArray [.ref (x 0), .int 1]) below meth c H locs 0 0 (gQ G below (List.toArray [.ref (x 0), .int 1]) s (some (.int 1)) [CW G x cx, OW G (fun k => x (k + 1)) o, AW G (x 2) 9 st, BW G (fun k => x (k + 3)) b, PW G (fun k => x (k + 11)) pf, LW G (fun k => x (k + 16)) g, OW G (fun k => x (k + 20)) fo, AW G (x 21) 9 fst, BW G (fun k => x (k + 22)) fb, PW G (fun k => x (k + 30)) fp, LW G (fun k => x (k + 35)) fg, HGW G (fun k => x (k + 58)) hh, TW G (fun k => x (k + 136)) t] A) (F0 m 277 ls []) := by
  refine lv_aload_n hx hb dL_refusesAny_277 rfl (lv_at hl 4 rfl) ?_
  refine lv_iload_n hx hb dL_refusesAny_278 rfl (lv_at hl 2 rfl) ?_
  refine lv_aload_n hx hb dL_refusesAny_279 rfl (lv_at hl 4 rfl) ?_
  refine lv_iload_n hx hb dL_refusesAny_280 rfl (lv_at hl 2 rfl) ?_
  obtain ⟨k1, hok⟩ := hok
  refine g_callV (cr_settingV l G x cx o st b pf g 5 k1) hx hb hml hown hts hK hP hD hS hA gL_refusesAny_X6_setting rfl (n := 1) (by decide +kernel) rfl ⟨Nat.le_of_ble_eq_true rfl, Nat.le_of_ble_eq_true rfl⟩ [0, 1, 2, 3, 4, 5] rfl (by decide) 0 rfl (ci := 6) rfl hl.1 rfl (Nat.le_of_ble_eq_true rfl) ⟨Nat.zero_le _, Nat.zero_le _⟩ dL_refusesAny_281 (fun H locs hP hD hS => ?_)
  have hP : va_P G.1 vwCl (List.flatten [CW G x cx, OW G (fun k => x (k + 1)) o, AW G (x 2) 9 st, BW G (fun k => x (k + 3)) b, PW G (fun k => x (k + 11)) pf, LW G (fun k => x (k + 16)) g, OW G (fun k => x (k + 20)) fo, AW G (x 21) 9 fst, BW G (fun k => x (k + 22)) fb, PW G (fun k => x (k + 30)) fp, LW G (fun k => x (k + 35)) fg, HGW G (fun k => x (k + 58)) hh, TW G (fun k => x (k + 136)) t]) H := hP
  have hD : va_D A (List.flatten [CW G x cx, OW G (fun k => x (k + 1)) o, AW G (x 2) 9 st, BW G (fun k => x (k + 3)) b, PW G (fun k => x (k + 11)) pf, LW G (fun k => x (k + 16)) g, OW G (fun k => x (k + 20)) fo, AW G (x 21) 9 fst, BW G (fun k => x (k + 22)) fb, PW G (fun k => x (k + 30)) fp, LW G (fun k => x (k + 35)) fg, HGW G (fun k => x (k + 58)) hh, TW G (fun k => x (k + 136)) t]) := hD
  refine lv_sipush (v := 1000) hx hb dL_refusesAny_284 (by decide) ?_
  refine lv_isub hx hb dL_refusesAny_287 ?_
  obtain ⟨k2, hok⟩ := hok
  refine g_callZ (cr_setN l G z x cx o st b pf g hh 5 ((st (5 : Int32).toNatClampNeg + 1000) - 1000) k2) hx hb hml hown hts hK hP hD hS hA hZ gL_refusesAny_X6_set rfl (n := 2) (by decide +kernel) rfl ⟨Nat.le_of_ble_eq_true rfl, Nat.le_of_ble_eq_true rfl⟩ [0, 1, 2, 3, 4, 5, 11] rfl (by decide) 0 rfl (ci := 6) rfl hl.1 rfl (Nat.le_of_ble_eq_true rfl) ⟨Nat.zero_le _, Nat.zero_le _⟩ dL_refusesAny_288 (fun H locs hP hD hS => ?_)
  have hP : va_P G.1 vwCl (List.flatten [CW G x cx, OW G (fun k => x (k + 1)) o, AW G (x 2) 9 st, BW G (fun k => x (k + 3)) b, PW G (fun k => x (k + 11)) pf, LW G (fun k => x (k + 16)) g, OW G (fun k => x (k + 20)) fo, AW G (x 21) 9 fst, BW G (fun k => x (k + 22)) fb, PW G (fun k => x (k + 30)) fp, LW G (fun k => x (k + 35)) fg, HGW G (fun k => x (k + 58)) hh, TW G (fun k => x (k + 136)) t]) H := hP
  have hD : va_D A (List.flatten [CW G x cx, OW G (fun k => x (k + 1)) o, AW G (x 2) 9 st, BW G (fun k => x (k + 3)) b, PW G (fun k => x (k + 11)) pf, LW G (fun k => x (k + 16)) g, OW G (fun k => x (k + 20)) fo, AW G (x 21) 9 fst, BW G (fun k => x (k + 22)) fb, PW G (fun k => x (k + 30)) fp, LW G (fun k => x (k + 35)) fg, HGW G (fun k => x (k + 58)) hh, TW G (fun k => x (k + 136)) t]) := hD
  refine lv_bipush (v := (-5)) hx hb dL_refusesAny_291 (by decide) ?_
  refine lv_icmp_eq (tgt := 298) hx hb dL_refusesAny_293 (by decide) (fun _ => ?_) (fun c => absurd c (by decide))
  refine lv_iinc (v := 6) (lv' := [(3, .int 6), (5, .int 80), (4, .int (-30)), (2, .int 9), (0, .ref (x 0)), (1, .int 1)]) hx hb dL_refusesAny_298 hl (k := 2) rfl (by decide) (by decide) rfl (fun ls hl => ?_)
  refine lv_goto (tgt := 135) hx hb dL_refusesAny_301 (by decide) ?_
  refine lv_iload_n hx hb dL_refusesAny_135 rfl (lv_at hl 0 rfl) ?_
  refine lv_bipush (v := 9) hx hb dL_refusesAny_136 (by decide) ?_
  refine lv_icmp_ge (tgt := 304) hx hb dL_refusesAny_138 (by decide) (fun c => absurd c (by decide)) (fun _ => ?_)
  refine lv_iload_n hx hb dL_refusesAny_141 rfl (lv_at hl 0 rfl) ?_
  refine lv_if_ne (tgt := 150) hx hb dL_refusesAny_142 (by decide) (fun _ => ?_) (fun c => absurd c (by decide))
  refine lv_iload_n hx hb dL_refusesAny_150 rfl (lv_at hl 0 rfl) ?_
  refine lv_iconst (v := 2) hx hb dL_refusesAny_151 (by decide) ?_
  refine lv_icmp_ne (tgt := 160) hx hb dL_refusesAny_152 (by decide) (fun _ => ?_) (fun c => absurd c (by decide))
  refine lv_iload_n hx hb dL_refusesAny_160 rfl (lv_at hl 0 rfl) ?_
  refine lv_iconst (v := 3) hx hb dL_refusesAny_161 (by decide) ?_
  refine lv_icmp_eq (tgt := 176) hx hb dL_refusesAny_162 (by decide) (fun c => absurd c (by decide)) (fun _ => ?_)
  refine lv_iload_n hx hb dL_refusesAny_165 rfl (lv_at hl 0 rfl) ?_
  refine lv_iconst (v := 5) hx hb dL_refusesAny_166 (by decide) ?_
  refine lv_icmp_eq (tgt := 176) hx hb dL_refusesAny_167 (by decide) (fun c => absurd c (by decide)) (fun _ => ?_)
  refine lv_iload_n hx hb dL_refusesAny_170 rfl (lv_at hl 0 rfl) ?_
  refine lv_bipush (v := 6) hx hb dL_refusesAny_171 (by decide) ?_
  refine lv_icmp_ne (tgt := 181) hx hb dL_refusesAny_173 (by decide) (fun c => absurd c (by decide)) (fun _ => ?_)
  refine lv_bipush (v := (-30)) hx hb dL_refusesAny_176 (by decide) ?_
  refine lv_goto (tgt := 182) hx hb dL_refusesAny_178 (by decide) ?_
  refine lv_istore (lv' := [(4, .int (-30)), (3, .int 6), (5, .int 80), (2, .int 9), (0, .ref (x 0)), (1, .int 1)]) hx hb dL_refusesAny_182 hl (by decide) rfl (fun ls hl => ?_)
  refine lv_iload_n hx hb dL_refusesAny_184 rfl (lv_at hl 1 rfl) ?_
  refine lv_if_ne (tgt := 194) hx hb dL_refusesAny_185 (by decide) (fun _ => ?_) (fun c => absurd c (by decide))
  refine lv_iload_n hx hb dL_refusesAny_194 rfl (lv_at hl 1 rfl) ?_
  refine lv_iconst (v := 1) hx hb dL_refusesAny_195 (by decide) ?_
  refine lv_icmp_ne (tgt := 205) hx hb dL_refusesAny_196 (by decide) (fun _ => ?_) (fun c => absurd c (by decide))
  refine lv_iload_n hx hb dL_refusesAny_205 rfl (lv_at hl 1 rfl) ?_
  refine lv_iconst (v := 2) hx hb dL_refusesAny_206 (by decide) ?_
  refine lv_icmp_ne (tgt := 215) hx hb dL_refusesAny_207 (by decide) (fun _ => ?_) (fun c => absurd c (by decide))
  refine lv_iload_n hx hb dL_refusesAny_215 rfl (lv_at hl 1 rfl) ?_
  refine lv_iconst (v := 4) hx hb dL_refusesAny_216 (by decide) ?_
  refine lv_icmp_ne (tgt := 225) hx hb dL_refusesAny_217 (by decide) (fun _ => ?_) (fun c => absurd c (by decide))
  refine lv_iload_n hx hb dL_refusesAny_225 rfl (lv_at hl 1 rfl) ?_
  refine lv_bipush (v := 7) hx hb dL_refusesAny_226 (by decide) ?_
  refine lv_icmp_ne (tgt := 237) hx hb dL_refusesAny_228 (by decide) (fun _ => ?_) (fun c => absurd c (by decide))
  refine lv_iload_n hx hb dL_refusesAny_237 rfl (lv_at hl 1 rfl) ?_
  refine lv_bipush (v := 8) hx hb dL_refusesAny_238 (by decide) ?_
  refine lv_icmp_ne (tgt := 248) hx hb dL_refusesAny_240 (by decide) (fun _ => ?_) (fun c => absurd c (by decide))
  refine lv_bipush (v := 80) hx hb dL_refusesAny_248 (by decide) ?_
  refine lv_istore (lv' := [(5, .int 80), (4, .int (-30)), (3, .int 6), (2, .int 9), (0, .ref (x 0)), (1, .int 1)]) hx hb dL_refusesAny_250 hl (by decide) rfl (fun ls hl => ?_)
  refine lv_aload_n hx hb dL_refusesAny_252 rfl (lv_at hl 4 rfl) ?_
  refine lv_iload_n hx hb dL_refusesAny_253 rfl (lv_at hl 2 rfl) ?_
  refine lv_iload_n hx hb dL_refusesAny_254 rfl (lv_at hl 5 rfl) ?_
  refine lv_if_ne (tgt := 265) hx hb dL_refusesAny_255 (by decide) (fun _ => ?_) (fun c => absurd c (by decide))
  refine lv_iload hx hb dL_refusesAny_265 (lv_at hl 0 rfl) ?_
  refine lv_iconst (v := 1) hx hb dL_refusesAny_267 (by decide) ?_
  refine lv_iadd hx hb dL_refusesAny_268 ?_
  refine g_topE (y := 81) (by decide) ?_
  obtain ⟨k3, hok⟩ := hok
  refine g_callZ (cr_setB l G z x cx o st b pf g hh 6 81 k3) hx hb hml hown hts hK hP hD hS hA hZ gL_refusesAny_X6_set rfl (n := 2) (by decide +kernel) rfl ⟨Nat.le_of_ble_eq_true rfl, Nat.le_of_ble_eq_true rfl⟩ [0, 1, 2, 3, 4, 5, 11] rfl (by decide) 0 rfl (ci := 6) rfl hl.1 rfl (Nat.le_of_ble_eq_true rfl) ⟨Nat.zero_le _, Nat.zero_le _⟩ dL_refusesAny_269 (fun H locs hP hD hS => ?_)
  have hP : va_P G.1 vwCl (List.flatten [CW G x cx, OW G (fun k => x (k + 1)) o, AW G (x 2) 9 st, BW G (fun k => x (k + 3)) b, PW G (fun k => x (k + 11)) pf, LW G (fun k => x (k + 16)) g, OW G (fun k => x (k + 20)) fo, AW G (x 21) 9 fst, BW G (fun k => x (k + 22)) fb, PW G (fun k => x (k + 30)) fp, LW G (fun k => x (k + 35)) fg, HGW G (fun k => x (k + 58)) hh, TW G (fun k => x (k + 136)) t]) H := hP
  have hD : va_D A (List.flatten [CW G x cx, OW G (fun k => x (k + 1)) o, AW G (x 2) 9 st, BW G (fun k => x (k + 3)) b, PW G (fun k => x (k + 11)) pf, LW G (fun k => x (k + 16)) g, OW G (fun k => x (k + 20)) fo, AW G (x 21) 9 fst, BW G (fun k => x (k + 22)) fb, PW G (fun k => x (k + 30)) fp, LW G (fun k => x (k + 35)) fg, HGW G (fun k => x (k + 58)) hh, TW G (fun k => x (k + 136)) t]) := hD
  refine lv_bipush (v := (-2)) hx hb dL_refusesAny_272 (by decide) ?_
  refine lv_icmp_ne (tgt := 296) hx hb dL_refusesAny_274 (by decide) (fun c => absurd c (by decide)) (fun _ => ?_)
  refine lv_aload_n hx hb dL_refusesAny_277 rfl (lv_at hl 4 rfl) ?_
  refine lv_iload_n hx hb dL_refusesAny_278 rfl (lv_at hl 2 rfl) ?_
  refine lv_aload_n hx hb dL_refusesAny_279 rfl (lv_at hl 4 rfl) ?_
  refine lv_iload_n hx hb dL_refusesAny_280 rfl (lv_at hl 2 rfl) ?_
  obtain ⟨k4, hok⟩ := hok
  refine g_callV (cr_settingV l G x cx o st b pf g 6 k4) hx hb hml hown hts hK hP hD hS hA gL_refusesAny_X6_setting rfl (n := 1) (by decide +kernel) rfl ⟨Nat.le_of_ble_eq_true rfl, Nat.le_of_ble_eq_true rfl⟩ [0, 1, 2, 3, 4, 5] rfl (by decide) 0 rfl (ci := 6) rfl hl.1 rfl (Nat.le_of_ble_eq_true rfl) ⟨Nat.zero_le _, Nat.zero_le _⟩ dL_refusesAny_281 (fun H locs hP hD hS => ?_)
  have hP : va_P G.1 vwCl (List.flatten [CW G x cx, OW G (fun k => x (k + 1)) o, AW G (x 2) 9 st, BW G (fun k => x (k + 3)) b, PW G (fun k => x (k + 11)) pf, LW G (fun k => x (k + 16)) g, OW G (fun k => x (k + 20)) fo, AW G (x 21) 9 fst, BW G (fun k => x (k + 22)) fb, PW G (fun k => x (k + 30)) fp, LW G (fun k => x (k + 35)) fg, HGW G (fun k => x (k + 58)) hh, TW G (fun k => x (k + 136)) t]) H := hP
  have hD : va_D A (List.flatten [CW G x cx, OW G (fun k => x (k + 1)) o, AW G (x 2) 9 st, BW G (fun k => x (k + 3)) b, PW G (fun k => x (k + 11)) pf, LW G (fun k => x (k + 16)) g, OW G (fun k => x (k + 20)) fo, AW G (x 21) 9 fst, BW G (fun k => x (k + 22)) fb, PW G (fun k => x (k + 30)) fp, LW G (fun k => x (k + 35)) fg, HGW G (fun k => x (k + 58)) hh, TW G (fun k => x (k + 136)) t]) := hD
  refine lv_sipush (v := 1000) hx hb dL_refusesAny_284 (by decide) ?_
  refine lv_isub hx hb dL_refusesAny_287 ?_
  obtain ⟨k5, hok⟩ := hok
  refine g_callZ (cr_setN l G z x cx o st b pf g hh 6 ((st (6 : Int32).toNatClampNeg + 1000) - 1000) k5) hx hb hml hown hts hK hP hD hS hA hZ gL_refusesAny_X6_set rfl (n := 2) (by decide +kernel) rfl ⟨Nat.le_of_ble_eq_true rfl, Nat.le_of_ble_eq_true rfl⟩ [0, 1, 2, 3, 4, 5, 11] rfl (by decide) 0 rfl (ci := 6) rfl hl.1 rfl (Nat.le_of_ble_eq_true rfl) ⟨Nat.zero_le _, Nat.zero_le _⟩ dL_refusesAny_288 (fun H locs hP hD hS => ?_)
  have hP : va_P G.1 vwCl (List.flatten [CW G x cx, OW G (fun k => x (k + 1)) o, AW G (x 2) 9 st, BW G (fun k => x (k + 3)) b, PW G (fun k => x (k + 11)) pf, LW G (fun k => x (k + 16)) g, OW G (fun k => x (k + 20)) fo, AW G (x 21) 9 fst, BW G (fun k => x (k + 22)) fb, PW G (fun k => x (k + 30)) fp, LW G (fun k => x (k + 35)) fg, HGW G (fun k => x (k + 58)) hh, TW G (fun k => x (k + 136)) t]) H := hP
  have hD : va_D A (List.flatten [CW G x cx, OW G (fun k => x (k + 1)) o, AW G (x 2) 9 st, BW G (fun k => x (k + 3)) b, PW G (fun k => x (k + 11)) pf, LW G (fun k => x (k + 16)) g, OW G (fun k => x (k + 20)) fo, AW G (x 21) 9 fst, BW G (fun k => x (k + 22)) fb, PW G (fun k => x (k + 30)) fp, LW G (fun k => x (k + 35)) fg, HGW G (fun k => x (k + 58)) hh, TW G (fun k => x (k + 136)) t]) := hD
  refine lv_bipush (v := (-5)) hx hb dL_refusesAny_291 (by decide) ?_
  refine lv_icmp_eq (tgt := 298) hx hb dL_refusesAny_293 (by decide) (fun _ => ?_) (fun c => absurd c (by decide))
  refine lv_iinc (v := 7) (lv' := [(3, .int 7), (5, .int 80), (4, .int (-30)), (2, .int 9), (0, .ref (x 0)), (1, .int 1)]) hx hb dL_refusesAny_298 hl (k := 2) rfl (by decide) (by decide) rfl (fun ls hl => ?_)
  refine lv_goto (tgt := 135) hx hb dL_refusesAny_301 (by decide) ?_
  refine lv_iload_n hx hb dL_refusesAny_135 rfl (lv_at hl 0 rfl) ?_
  refine lv_bipush (v := 9) hx hb dL_refusesAny_136 (by decide) ?_
  refine lv_icmp_ge (tgt := 304) hx hb dL_refusesAny_138 (by decide) (fun c => absurd c (by decide)) (fun _ => ?_)
  refine lv_iload_n hx hb dL_refusesAny_141 rfl (lv_at hl 0 rfl) ?_
  refine lv_if_ne (tgt := 150) hx hb dL_refusesAny_142 (by decide) (fun _ => ?_) (fun c => absurd c (by decide))
  refine lv_iload_n hx hb dL_refusesAny_150 rfl (lv_at hl 0 rfl) ?_
  refine lv_iconst (v := 2) hx hb dL_refusesAny_151 (by decide) ?_
  refine lv_icmp_ne (tgt := 160) hx hb dL_refusesAny_152 (by decide) (fun _ => ?_) (fun c => absurd c (by decide))
  refine lv_iload_n hx hb dL_refusesAny_160 rfl (lv_at hl 0 rfl) ?_
  refine lv_iconst (v := 3) hx hb dL_refusesAny_161 (by decide) ?_
  refine lv_icmp_eq (tgt := 176) hx hb dL_refusesAny_162 (by decide) (fun c => absurd c (by decide)) (fun _ => ?_)
  refine lv_iload_n hx hb dL_refusesAny_165 rfl (lv_at hl 0 rfl) ?_
  refine lv_iconst (v := 5) hx hb dL_refusesAny_166 (by decide) ?_
  refine lv_icmp_eq (tgt := 176) hx hb dL_refusesAny_167 (by decide) (fun c => absurd c (by decide)) (fun _ => ?_)
  refine lv_iload_n hx hb dL_refusesAny_170 rfl (lv_at hl 0 rfl) ?_
  refine lv_bipush (v := 6) hx hb dL_refusesAny_171 (by decide) ?_
  refine lv_icmp_ne (tgt := 181) hx hb dL_refusesAny_173 (by decide) (fun _ => ?_) (fun c => absurd c (by decide))
  refine lv_iconst (v := 0) hx hb dL_refusesAny_181 (by decide) ?_
  refine lv_istore (lv' := [(4, .int 0), (3, .int 7), (5, .int 80), (2, .int 9), (0, .ref (x 0)), (1, .int 1)]) hx hb dL_refusesAny_182 hl (by decide) rfl (fun ls hl => ?_)
  refine lv_iload_n hx hb dL_refusesAny_184 rfl (lv_at hl 1 rfl) ?_
  refine lv_if_ne (tgt := 194) hx hb dL_refusesAny_185 (by decide) (fun _ => ?_) (fun c => absurd c (by decide))
  refine lv_iload_n hx hb dL_refusesAny_194 rfl (lv_at hl 1 rfl) ?_
  refine lv_iconst (v := 1) hx hb dL_refusesAny_195 (by decide) ?_
  refine lv_icmp_ne (tgt := 205) hx hb dL_refusesAny_196 (by decide) (fun _ => ?_) (fun c => absurd c (by decide))
  refine lv_iload_n hx hb dL_refusesAny_205 rfl (lv_at hl 1 rfl) ?_
  refine lv_iconst (v := 2) hx hb dL_refusesAny_206 (by decide) ?_
  refine lv_icmp_ne (tgt := 215) hx hb dL_refusesAny_207 (by decide) (fun _ => ?_) (fun c => absurd c (by decide))
  refine lv_iload_n hx hb dL_refusesAny_215 rfl (lv_at hl 1 rfl) ?_
  refine lv_iconst (v := 4) hx hb dL_refusesAny_216 (by decide) ?_
  refine lv_icmp_ne (tgt := 225) hx hb dL_refusesAny_217 (by decide) (fun _ => ?_) (fun c => absurd c (by decide))
  refine lv_iload_n hx hb dL_refusesAny_225 rfl (lv_at hl 1 rfl) ?_
  refine lv_bipush (v := 7) hx hb dL_refusesAny_226 (by decide) ?_
  refine lv_icmp_ne (tgt := 237) hx hb dL_refusesAny_228 (by decide) (fun c => absurd c (by decide)) (fun _ => ?_)
  refine lv_sipush (v := 500) hx hb dL_refusesAny_231 (by decide) ?_
  refine lv_goto (tgt := 250) hx hb dL_refusesAny_234 (by decide) ?_
  refine lv_istore (lv' := [(5, .int 500), (4, .int 0), (3, .int 7), (2, .int 9), (0, .ref (x 0)), (1, .int 1)]) hx hb dL_refusesAny_250 hl (by decide) rfl (fun ls hl => ?_)
  refine lv_aload_n hx hb dL_refusesAny_252 rfl (lv_at hl 4 rfl) ?_
  refine lv_iload_n hx hb dL_refusesAny_253 rfl (lv_at hl 2 rfl) ?_
  refine lv_iload_n hx hb dL_refusesAny_254 rfl (lv_at hl 5 rfl) ?_
  refine lv_if_ne (tgt := 265) hx hb dL_refusesAny_255 (by decide) (fun _ => ?_) (fun c => absurd c (by decide))
  refine lv_iload hx hb dL_refusesAny_265 (lv_at hl 0 rfl) ?_
  refine lv_iconst (v := 1) hx hb dL_refusesAny_267 (by decide) ?_
  refine lv_iadd hx hb dL_refusesAny_268 ?_
  refine g_topE (y := 501) (by decide) ?_
  obtain ⟨k6, hok⟩ := hok
  refine g_callZ (cr_setB l G z x cx o st b pf g hh 7 501 k6) hx hb hml hown hts hK hP hD hS hA hZ gL_refusesAny_X6_set rfl (n := 2) (by decide +kernel) rfl ⟨Nat.le_of_ble_eq_true rfl, Nat.le_of_ble_eq_true rfl⟩ [0, 1, 2, 3, 4, 5, 11] rfl (by decide) 0 rfl (ci := 6) rfl hl.1 rfl (Nat.le_of_ble_eq_true rfl) ⟨Nat.zero_le _, Nat.zero_le _⟩ dL_refusesAny_269 (fun H locs hP hD hS => ?_)
  have hP : va_P G.1 vwCl (List.flatten [CW G x cx, OW G (fun k => x (k + 1)) o, AW G (x 2) 9 st, BW G (fun k => x (k + 3)) b, PW G (fun k => x (k + 11)) pf, LW G (fun k => x (k + 16)) g, OW G (fun k => x (k + 20)) fo, AW G (x 21) 9 fst, BW G (fun k => x (k + 22)) fb, PW G (fun k => x (k + 30)) fp, LW G (fun k => x (k + 35)) fg, HGW G (fun k => x (k + 58)) hh, TW G (fun k => x (k + 136)) t]) H := hP
  have hD : va_D A (List.flatten [CW G x cx, OW G (fun k => x (k + 1)) o, AW G (x 2) 9 st, BW G (fun k => x (k + 3)) b, PW G (fun k => x (k + 11)) pf, LW G (fun k => x (k + 16)) g, OW G (fun k => x (k + 20)) fo, AW G (x 21) 9 fst, BW G (fun k => x (k + 22)) fb, PW G (fun k => x (k + 30)) fp, LW G (fun k => x (k + 35)) fg, HGW G (fun k => x (k + 58)) hh, TW G (fun k => x (k + 136)) t]) := hD
  refine lv_bipush (v := (-2)) hx hb dL_refusesAny_272 (by decide) ?_
  refine lv_icmp_ne (tgt := 296) hx hb dL_refusesAny_274 (by decide) (fun c => absurd c (by decide)) (fun _ => ?_)
  exact c_L_refusesAny1_5 l G z x cx o st b pf g fo fst fb fp fg hh t hx hb hml hr hts hown hlocks hK hA hZ hok hP hD hS (lv_sub hl [0, 1, 2, 3, 4, 5] rfl)
set_option maxHeartbeats 4000000 in
set_option maxRecDepth 100000 in
theorem c_L_refusesAny1_3 (l : Launch) (G : gG) (z : Nat × Nat × Nat) (x : Nat → Nat) (cx : (Nat → Int32)) (o : (Nat → Int32)) (st : (Nat → Int32)) (b : (Nat → Nat → Int32)) (pf : (Nat → Nat → Int32)) (g : (Nat → Nat → Int32)) (fo : (Nat → Int32)) (fst : (Nat → Int32)) (fb : (Nat → Nat → Int32)) (fp : (Nat → Nat → Int32)) (fg : (Nat → Nat → Int32)) (hh : HVal) (t : (Nat → Nat → Int32)) {p : Program} {e : Env} {s : State} {m : MethodId} {below : List Frame} {meth : Method} {c : Code} {A : Nat → Prop} {H : Heap} {locs : List Loc} {ls : Array Slot} (hx : p.tables.exec = Jvm.exec) (hb : c.code = cL_refusesAny) (hml : c.maxLocals = 6) (hr : meth.sig.returnType = (some .boolean)) (hts : ∀ w ∈ wsL_refusesAny, w.before (List.toArray [.ref (x 0), .int 1]) s = true) (hown : s.vm.findClass RL = some m.cls) (hlocks : meth.locks = false) (hK : gK G s) (hA : ∀ q : Nat, s.heap.size ≤ q → A q) (hZ : gZ z A s) (hok : (rok_settingV 3) ∧ (rok_setN o st b pf g hh 3 ((st (3 : Int32).toNatClampNeg + 1000) - 1000)) ∧ (rok_setB o st b pf g hh 4 11) ∧ (rok_settingV 4) ∧ (rok_setN o st b pf g hh 4 ((st (4 : Int32).toNatClampNeg + 1000) - 1000)) ∧ (rok_setB o st b pf g hh 5 81) ∧ (rok_settingV 5) ∧ (rok_setN o st b pf g hh 5 ((st (5 : Int32).toNatClampNeg + 1000) - 1000)) ∧ (rok_setB o st b pf g hh 6 81) ∧ (rok_settingV 6) ∧ (rok_setN o st b pf g hh 6 ((st (6 : Int32).toNatClampNeg + 1000) - 1000)) ∧ (rok_setB o st b pf g hh 7 501) ∧ (rok_settingV 7) ∧ (rok_setN o st b pf g hh 7 ((st (7 : Int32).toNatClampNeg + 1000) - 1000)) ∧ (rok_setB o st b pf g hh 8 51) ∧ (rok_settingV 8) ∧ (rok_setN o st b pf g hh 8 ((st (8 : Int32).toNatClampNeg + 1000) - 1000)) ∧ (rok_count1 b) ∧ (rok_cellU st b (b 0 0) 99) ∧ (rok_cellB st b 0 9) ∧ (rok_settingU 9) ∧ (rok_count2 b) ∧ (rok_stageU pf (pf 0 0) 99) ∧ (rok_voltage st b 2001) ∧ (rok_count1 b) ∧ (rok_chargeInU o st b pf g (b 0 0) (-1)) ∧ (rok_chargeInB o st b pf g 0 201) ∧ (rok_eventB g 0 3) ∧ (rok_eventN g 10 0) ∧ (rok_countB b 14) ∧ (rok_count3 b o) ∧ (rok_warmest o st b pf g fo fst fb fp fg) ∧ (rok_count3 b o) ∧ (rok_count3 b o) ∧ (rok_stop o hh) ∧ True) (hP : va_P G.1 vwCl (List.flatten [CW G x cx, OW G (fun k => x (k + 1)) o, AW G (x 2) 9 st, BW G (fun k => x (k + 3)) b, PW G (fun k => x (k + 11)) pf, LW G (fun k => x (k + 16)) g, OW G (fun k => x (k + 20)) fo, AW G (x 21) 9 fst, BW G (fun k => x (k + 22)) fb, PW G (fun k => x (k + 30)) fp, LW G (fun k => x (k + 35)) fg, HGW G (fun k => x (k + 58)) hh, TW G (fun k => x (k + 136)) t]) H) (hD : va_D A (List.flatten [CW G x cx, OW G (fun k => x (k + 1)) o, AW G (x 2) 9 st, BW G (fun k => x (k + 3)) b, PW G (fun k => x (k + 11)) pf, LW G (fun k => x (k + 16)) g, OW G (fun k => x (k + 20)) fo, AW G (x 21) 9 fst, BW G (fun k => x (k + 22)) fb, PW G (fun k => x (k + 30)) fp, LW G (fun k => x (k + 35)) fg, HGW G (fun k => x (k + 58)) hh, TW G (fun k => x (k + 136)) t])) (hS : va_S A s.heap H locs) (hl : lv_has ls 6 [(5, .int 80), (4, .int (-30)), (3, .int 3), (2, .int 9), (0, .ref (x 0)), (1, .int 1)]) : W p l e { frames := 8, cells := 0, slots := 0, locals := 164 } s m (List.toArray [.ref (x 0), .int 1]) below meth c H locs 0 0 (gQ G below (List.toArray [.ref (x 0), .int 1]) s (some (.int 1)) [CW G x cx, OW G (fun k => x (k + 1)) o, AW G (x 2) 9 st, BW G (fun k => x (k + 3)) b, PW G (fun k => x (k + 11)) pf, LW G (fun k => x (k + 16)) g, OW G (fun k => x (k + 20)) fo, AW G (x 21) 9 fst, BW G (fun k => x (k + 22)) fb, PW G (fun k => x (k + 30)) fp, LW G (fun k => x (k + 35)) fg, HGW G (fun k => x (k + 58)) hh, TW G (fun k => x (k + 136)) t] A) (F0 m 277 ls []) := by
  refine lv_aload_n hx hb dL_refusesAny_277 rfl (lv_at hl 4 rfl) ?_
  refine lv_iload_n hx hb dL_refusesAny_278 rfl (lv_at hl 2 rfl) ?_
  refine lv_aload_n hx hb dL_refusesAny_279 rfl (lv_at hl 4 rfl) ?_
  refine lv_iload_n hx hb dL_refusesAny_280 rfl (lv_at hl 2 rfl) ?_
  obtain ⟨k1, hok⟩ := hok
  refine g_callV (cr_settingV l G x cx o st b pf g 3 k1) hx hb hml hown hts hK hP hD hS hA gL_refusesAny_X6_setting rfl (n := 1) (by decide +kernel) rfl ⟨Nat.le_of_ble_eq_true rfl, Nat.le_of_ble_eq_true rfl⟩ [0, 1, 2, 3, 4, 5] rfl (by decide) 0 rfl (ci := 6) rfl hl.1 rfl (Nat.le_of_ble_eq_true rfl) ⟨Nat.zero_le _, Nat.zero_le _⟩ dL_refusesAny_281 (fun H locs hP hD hS => ?_)
  have hP : va_P G.1 vwCl (List.flatten [CW G x cx, OW G (fun k => x (k + 1)) o, AW G (x 2) 9 st, BW G (fun k => x (k + 3)) b, PW G (fun k => x (k + 11)) pf, LW G (fun k => x (k + 16)) g, OW G (fun k => x (k + 20)) fo, AW G (x 21) 9 fst, BW G (fun k => x (k + 22)) fb, PW G (fun k => x (k + 30)) fp, LW G (fun k => x (k + 35)) fg, HGW G (fun k => x (k + 58)) hh, TW G (fun k => x (k + 136)) t]) H := hP
  have hD : va_D A (List.flatten [CW G x cx, OW G (fun k => x (k + 1)) o, AW G (x 2) 9 st, BW G (fun k => x (k + 3)) b, PW G (fun k => x (k + 11)) pf, LW G (fun k => x (k + 16)) g, OW G (fun k => x (k + 20)) fo, AW G (x 21) 9 fst, BW G (fun k => x (k + 22)) fb, PW G (fun k => x (k + 30)) fp, LW G (fun k => x (k + 35)) fg, HGW G (fun k => x (k + 58)) hh, TW G (fun k => x (k + 136)) t]) := hD
  refine lv_sipush (v := 1000) hx hb dL_refusesAny_284 (by decide) ?_
  refine lv_isub hx hb dL_refusesAny_287 ?_
  obtain ⟨k2, hok⟩ := hok
  refine g_callZ (cr_setN l G z x cx o st b pf g hh 3 ((st (3 : Int32).toNatClampNeg + 1000) - 1000) k2) hx hb hml hown hts hK hP hD hS hA hZ gL_refusesAny_X6_set rfl (n := 2) (by decide +kernel) rfl ⟨Nat.le_of_ble_eq_true rfl, Nat.le_of_ble_eq_true rfl⟩ [0, 1, 2, 3, 4, 5, 11] rfl (by decide) 0 rfl (ci := 6) rfl hl.1 rfl (Nat.le_of_ble_eq_true rfl) ⟨Nat.zero_le _, Nat.zero_le _⟩ dL_refusesAny_288 (fun H locs hP hD hS => ?_)
  have hP : va_P G.1 vwCl (List.flatten [CW G x cx, OW G (fun k => x (k + 1)) o, AW G (x 2) 9 st, BW G (fun k => x (k + 3)) b, PW G (fun k => x (k + 11)) pf, LW G (fun k => x (k + 16)) g, OW G (fun k => x (k + 20)) fo, AW G (x 21) 9 fst, BW G (fun k => x (k + 22)) fb, PW G (fun k => x (k + 30)) fp, LW G (fun k => x (k + 35)) fg, HGW G (fun k => x (k + 58)) hh, TW G (fun k => x (k + 136)) t]) H := hP
  have hD : va_D A (List.flatten [CW G x cx, OW G (fun k => x (k + 1)) o, AW G (x 2) 9 st, BW G (fun k => x (k + 3)) b, PW G (fun k => x (k + 11)) pf, LW G (fun k => x (k + 16)) g, OW G (fun k => x (k + 20)) fo, AW G (x 21) 9 fst, BW G (fun k => x (k + 22)) fb, PW G (fun k => x (k + 30)) fp, LW G (fun k => x (k + 35)) fg, HGW G (fun k => x (k + 58)) hh, TW G (fun k => x (k + 136)) t]) := hD
  refine lv_bipush (v := (-5)) hx hb dL_refusesAny_291 (by decide) ?_
  refine lv_icmp_eq (tgt := 298) hx hb dL_refusesAny_293 (by decide) (fun _ => ?_) (fun c => absurd c (by decide))
  refine lv_iinc (v := 4) (lv' := [(3, .int 4), (5, .int 80), (4, .int (-30)), (2, .int 9), (0, .ref (x 0)), (1, .int 1)]) hx hb dL_refusesAny_298 hl (k := 2) rfl (by decide) (by decide) rfl (fun ls hl => ?_)
  refine lv_goto (tgt := 135) hx hb dL_refusesAny_301 (by decide) ?_
  refine lv_iload_n hx hb dL_refusesAny_135 rfl (lv_at hl 0 rfl) ?_
  refine lv_bipush (v := 9) hx hb dL_refusesAny_136 (by decide) ?_
  refine lv_icmp_ge (tgt := 304) hx hb dL_refusesAny_138 (by decide) (fun c => absurd c (by decide)) (fun _ => ?_)
  refine lv_iload_n hx hb dL_refusesAny_141 rfl (lv_at hl 0 rfl) ?_
  refine lv_if_ne (tgt := 150) hx hb dL_refusesAny_142 (by decide) (fun _ => ?_) (fun c => absurd c (by decide))
  refine lv_iload_n hx hb dL_refusesAny_150 rfl (lv_at hl 0 rfl) ?_
  refine lv_iconst (v := 2) hx hb dL_refusesAny_151 (by decide) ?_
  refine lv_icmp_ne (tgt := 160) hx hb dL_refusesAny_152 (by decide) (fun _ => ?_) (fun c => absurd c (by decide))
  refine lv_iload_n hx hb dL_refusesAny_160 rfl (lv_at hl 0 rfl) ?_
  refine lv_iconst (v := 3) hx hb dL_refusesAny_161 (by decide) ?_
  refine lv_icmp_eq (tgt := 176) hx hb dL_refusesAny_162 (by decide) (fun c => absurd c (by decide)) (fun _ => ?_)
  refine lv_iload_n hx hb dL_refusesAny_165 rfl (lv_at hl 0 rfl) ?_
  refine lv_iconst (v := 5) hx hb dL_refusesAny_166 (by decide) ?_
  refine lv_icmp_eq (tgt := 176) hx hb dL_refusesAny_167 (by decide) (fun c => absurd c (by decide)) (fun _ => ?_)
  refine lv_iload_n hx hb dL_refusesAny_170 rfl (lv_at hl 0 rfl) ?_
  refine lv_bipush (v := 6) hx hb dL_refusesAny_171 (by decide) ?_
  refine lv_icmp_ne (tgt := 181) hx hb dL_refusesAny_173 (by decide) (fun _ => ?_) (fun c => absurd c (by decide))
  refine lv_iconst (v := 0) hx hb dL_refusesAny_181 (by decide) ?_
  refine lv_istore (lv' := [(4, .int 0), (3, .int 4), (5, .int 80), (2, .int 9), (0, .ref (x 0)), (1, .int 1)]) hx hb dL_refusesAny_182 hl (by decide) rfl (fun ls hl => ?_)
  refine lv_iload_n hx hb dL_refusesAny_184 rfl (lv_at hl 1 rfl) ?_
  refine lv_if_ne (tgt := 194) hx hb dL_refusesAny_185 (by decide) (fun _ => ?_) (fun c => absurd c (by decide))
  refine lv_iload_n hx hb dL_refusesAny_194 rfl (lv_at hl 1 rfl) ?_
  refine lv_iconst (v := 1) hx hb dL_refusesAny_195 (by decide) ?_
  refine lv_icmp_ne (tgt := 205) hx hb dL_refusesAny_196 (by decide) (fun _ => ?_) (fun c => absurd c (by decide))
  refine lv_iload_n hx hb dL_refusesAny_205 rfl (lv_at hl 1 rfl) ?_
  refine lv_iconst (v := 2) hx hb dL_refusesAny_206 (by decide) ?_
  refine lv_icmp_ne (tgt := 215) hx hb dL_refusesAny_207 (by decide) (fun _ => ?_) (fun c => absurd c (by decide))
  refine lv_iload_n hx hb dL_refusesAny_215 rfl (lv_at hl 1 rfl) ?_
  refine lv_iconst (v := 4) hx hb dL_refusesAny_216 (by decide) ?_
  refine lv_icmp_ne (tgt := 225) hx hb dL_refusesAny_217 (by decide) (fun c => absurd c (by decide)) (fun _ => ?_)
  refine lv_bipush (v := 10) hx hb dL_refusesAny_220 (by decide) ?_
  refine lv_goto (tgt := 250) hx hb dL_refusesAny_222 (by decide) ?_
  refine lv_istore (lv' := [(5, .int 10), (4, .int 0), (3, .int 4), (2, .int 9), (0, .ref (x 0)), (1, .int 1)]) hx hb dL_refusesAny_250 hl (by decide) rfl (fun ls hl => ?_)
  refine lv_aload_n hx hb dL_refusesAny_252 rfl (lv_at hl 4 rfl) ?_
  refine lv_iload_n hx hb dL_refusesAny_253 rfl (lv_at hl 2 rfl) ?_
  refine lv_iload_n hx hb dL_refusesAny_254 rfl (lv_at hl 5 rfl) ?_
  refine lv_if_ne (tgt := 265) hx hb dL_refusesAny_255 (by decide) (fun _ => ?_) (fun c => absurd c (by decide))
  refine lv_iload hx hb dL_refusesAny_265 (lv_at hl 0 rfl) ?_
  refine lv_iconst (v := 1) hx hb dL_refusesAny_267 (by decide) ?_
  refine lv_iadd hx hb dL_refusesAny_268 ?_
  refine g_topE (y := 11) (by decide) ?_
  obtain ⟨k3, hok⟩ := hok
  refine g_callZ (cr_setB l G z x cx o st b pf g hh 4 11 k3) hx hb hml hown hts hK hP hD hS hA hZ gL_refusesAny_X6_set rfl (n := 2) (by decide +kernel) rfl ⟨Nat.le_of_ble_eq_true rfl, Nat.le_of_ble_eq_true rfl⟩ [0, 1, 2, 3, 4, 5, 11] rfl (by decide) 0 rfl (ci := 6) rfl hl.1 rfl (Nat.le_of_ble_eq_true rfl) ⟨Nat.zero_le _, Nat.zero_le _⟩ dL_refusesAny_269 (fun H locs hP hD hS => ?_)
  have hP : va_P G.1 vwCl (List.flatten [CW G x cx, OW G (fun k => x (k + 1)) o, AW G (x 2) 9 st, BW G (fun k => x (k + 3)) b, PW G (fun k => x (k + 11)) pf, LW G (fun k => x (k + 16)) g, OW G (fun k => x (k + 20)) fo, AW G (x 21) 9 fst, BW G (fun k => x (k + 22)) fb, PW G (fun k => x (k + 30)) fp, LW G (fun k => x (k + 35)) fg, HGW G (fun k => x (k + 58)) hh, TW G (fun k => x (k + 136)) t]) H := hP
  have hD : va_D A (List.flatten [CW G x cx, OW G (fun k => x (k + 1)) o, AW G (x 2) 9 st, BW G (fun k => x (k + 3)) b, PW G (fun k => x (k + 11)) pf, LW G (fun k => x (k + 16)) g, OW G (fun k => x (k + 20)) fo, AW G (x 21) 9 fst, BW G (fun k => x (k + 22)) fb, PW G (fun k => x (k + 30)) fp, LW G (fun k => x (k + 35)) fg, HGW G (fun k => x (k + 58)) hh, TW G (fun k => x (k + 136)) t]) := hD
  refine lv_bipush (v := (-2)) hx hb dL_refusesAny_272 (by decide) ?_
  refine lv_icmp_ne (tgt := 296) hx hb dL_refusesAny_274 (by decide) (fun c => absurd c (by decide)) (fun _ => ?_)
  refine lv_aload_n hx hb dL_refusesAny_277 rfl (lv_at hl 4 rfl) ?_
  refine lv_iload_n hx hb dL_refusesAny_278 rfl (lv_at hl 2 rfl) ?_
  refine lv_aload_n hx hb dL_refusesAny_279 rfl (lv_at hl 4 rfl) ?_
  refine lv_iload_n hx hb dL_refusesAny_280 rfl (lv_at hl 2 rfl) ?_
  obtain ⟨k4, hok⟩ := hok
  refine g_callV (cr_settingV l G x cx o st b pf g 4 k4) hx hb hml hown hts hK hP hD hS hA gL_refusesAny_X6_setting rfl (n := 1) (by decide +kernel) rfl ⟨Nat.le_of_ble_eq_true rfl, Nat.le_of_ble_eq_true rfl⟩ [0, 1, 2, 3, 4, 5] rfl (by decide) 0 rfl (ci := 6) rfl hl.1 rfl (Nat.le_of_ble_eq_true rfl) ⟨Nat.zero_le _, Nat.zero_le _⟩ dL_refusesAny_281 (fun H locs hP hD hS => ?_)
  have hP : va_P G.1 vwCl (List.flatten [CW G x cx, OW G (fun k => x (k + 1)) o, AW G (x 2) 9 st, BW G (fun k => x (k + 3)) b, PW G (fun k => x (k + 11)) pf, LW G (fun k => x (k + 16)) g, OW G (fun k => x (k + 20)) fo, AW G (x 21) 9 fst, BW G (fun k => x (k + 22)) fb, PW G (fun k => x (k + 30)) fp, LW G (fun k => x (k + 35)) fg, HGW G (fun k => x (k + 58)) hh, TW G (fun k => x (k + 136)) t]) H := hP
  have hD : va_D A (List.flatten [CW G x cx, OW G (fun k => x (k + 1)) o, AW G (x 2) 9 st, BW G (fun k => x (k + 3)) b, PW G (fun k => x (k + 11)) pf, LW G (fun k => x (k + 16)) g, OW G (fun k => x (k + 20)) fo, AW G (x 21) 9 fst, BW G (fun k => x (k + 22)) fb, PW G (fun k => x (k + 30)) fp, LW G (fun k => x (k + 35)) fg, HGW G (fun k => x (k + 58)) hh, TW G (fun k => x (k + 136)) t]) := hD
  refine lv_sipush (v := 1000) hx hb dL_refusesAny_284 (by decide) ?_
  refine lv_isub hx hb dL_refusesAny_287 ?_
  obtain ⟨k5, hok⟩ := hok
  refine g_callZ (cr_setN l G z x cx o st b pf g hh 4 ((st (4 : Int32).toNatClampNeg + 1000) - 1000) k5) hx hb hml hown hts hK hP hD hS hA hZ gL_refusesAny_X6_set rfl (n := 2) (by decide +kernel) rfl ⟨Nat.le_of_ble_eq_true rfl, Nat.le_of_ble_eq_true rfl⟩ [0, 1, 2, 3, 4, 5, 11] rfl (by decide) 0 rfl (ci := 6) rfl hl.1 rfl (Nat.le_of_ble_eq_true rfl) ⟨Nat.zero_le _, Nat.zero_le _⟩ dL_refusesAny_288 (fun H locs hP hD hS => ?_)
  have hP : va_P G.1 vwCl (List.flatten [CW G x cx, OW G (fun k => x (k + 1)) o, AW G (x 2) 9 st, BW G (fun k => x (k + 3)) b, PW G (fun k => x (k + 11)) pf, LW G (fun k => x (k + 16)) g, OW G (fun k => x (k + 20)) fo, AW G (x 21) 9 fst, BW G (fun k => x (k + 22)) fb, PW G (fun k => x (k + 30)) fp, LW G (fun k => x (k + 35)) fg, HGW G (fun k => x (k + 58)) hh, TW G (fun k => x (k + 136)) t]) H := hP
  have hD : va_D A (List.flatten [CW G x cx, OW G (fun k => x (k + 1)) o, AW G (x 2) 9 st, BW G (fun k => x (k + 3)) b, PW G (fun k => x (k + 11)) pf, LW G (fun k => x (k + 16)) g, OW G (fun k => x (k + 20)) fo, AW G (x 21) 9 fst, BW G (fun k => x (k + 22)) fb, PW G (fun k => x (k + 30)) fp, LW G (fun k => x (k + 35)) fg, HGW G (fun k => x (k + 58)) hh, TW G (fun k => x (k + 136)) t]) := hD
  refine lv_bipush (v := (-5)) hx hb dL_refusesAny_291 (by decide) ?_
  refine lv_icmp_eq (tgt := 298) hx hb dL_refusesAny_293 (by decide) (fun _ => ?_) (fun c => absurd c (by decide))
  refine lv_iinc (v := 5) (lv' := [(3, .int 5), (5, .int 10), (4, .int 0), (2, .int 9), (0, .ref (x 0)), (1, .int 1)]) hx hb dL_refusesAny_298 hl (k := 2) rfl (by decide) (by decide) rfl (fun ls hl => ?_)
  refine lv_goto (tgt := 135) hx hb dL_refusesAny_301 (by decide) ?_
  refine lv_iload_n hx hb dL_refusesAny_135 rfl (lv_at hl 0 rfl) ?_
  refine lv_bipush (v := 9) hx hb dL_refusesAny_136 (by decide) ?_
  refine lv_icmp_ge (tgt := 304) hx hb dL_refusesAny_138 (by decide) (fun c => absurd c (by decide)) (fun _ => ?_)
  refine lv_iload_n hx hb dL_refusesAny_141 rfl (lv_at hl 0 rfl) ?_
  refine lv_if_ne (tgt := 150) hx hb dL_refusesAny_142 (by decide) (fun _ => ?_) (fun c => absurd c (by decide))
  refine lv_iload_n hx hb dL_refusesAny_150 rfl (lv_at hl 0 rfl) ?_
  refine lv_iconst (v := 2) hx hb dL_refusesAny_151 (by decide) ?_
  refine lv_icmp_ne (tgt := 160) hx hb dL_refusesAny_152 (by decide) (fun _ => ?_) (fun c => absurd c (by decide))
  refine lv_iload_n hx hb dL_refusesAny_160 rfl (lv_at hl 0 rfl) ?_
  refine lv_iconst (v := 3) hx hb dL_refusesAny_161 (by decide) ?_
  refine lv_icmp_eq (tgt := 176) hx hb dL_refusesAny_162 (by decide) (fun c => absurd c (by decide)) (fun _ => ?_)
  refine lv_iload_n hx hb dL_refusesAny_165 rfl (lv_at hl 0 rfl) ?_
  refine lv_iconst (v := 5) hx hb dL_refusesAny_166 (by decide) ?_
  refine lv_icmp_eq (tgt := 176) hx hb dL_refusesAny_167 (by decide) (fun _ => ?_) (fun c => absurd c (by decide))
  refine lv_bipush (v := (-30)) hx hb dL_refusesAny_176 (by decide) ?_
  refine lv_goto (tgt := 182) hx hb dL_refusesAny_178 (by decide) ?_
  refine lv_istore (lv' := [(4, .int (-30)), (3, .int 5), (5, .int 10), (2, .int 9), (0, .ref (x 0)), (1, .int 1)]) hx hb dL_refusesAny_182 hl (by decide) rfl (fun ls hl => ?_)
  refine lv_iload_n hx hb dL_refusesAny_184 rfl (lv_at hl 1 rfl) ?_
  refine lv_if_ne (tgt := 194) hx hb dL_refusesAny_185 (by decide) (fun _ => ?_) (fun c => absurd c (by decide))
  refine lv_iload_n hx hb dL_refusesAny_194 rfl (lv_at hl 1 rfl) ?_
  refine lv_iconst (v := 1) hx hb dL_refusesAny_195 (by decide) ?_
  refine lv_icmp_ne (tgt := 205) hx hb dL_refusesAny_196 (by decide) (fun _ => ?_) (fun c => absurd c (by decide))
  refine lv_iload_n hx hb dL_refusesAny_205 rfl (lv_at hl 1 rfl) ?_
  refine lv_iconst (v := 2) hx hb dL_refusesAny_206 (by decide) ?_
  refine lv_icmp_ne (tgt := 215) hx hb dL_refusesAny_207 (by decide) (fun _ => ?_) (fun c => absurd c (by decide))
  refine lv_iload_n hx hb dL_refusesAny_215 rfl (lv_at hl 1 rfl) ?_
  refine lv_iconst (v := 4) hx hb dL_refusesAny_216 (by decide) ?_
  refine lv_icmp_ne (tgt := 225) hx hb dL_refusesAny_217 (by decide) (fun _ => ?_) (fun c => absurd c (by decide))
  refine lv_iload_n hx hb dL_refusesAny_225 rfl (lv_at hl 1 rfl) ?_
  refine lv_bipush (v := 7) hx hb dL_refusesAny_226 (by decide) ?_
  refine lv_icmp_ne (tgt := 237) hx hb dL_refusesAny_228 (by decide) (fun _ => ?_) (fun c => absurd c (by decide))
  refine lv_iload_n hx hb dL_refusesAny_237 rfl (lv_at hl 1 rfl) ?_
  refine lv_bipush (v := 8) hx hb dL_refusesAny_238 (by decide) ?_
  refine lv_icmp_ne (tgt := 248) hx hb dL_refusesAny_240 (by decide) (fun _ => ?_) (fun c => absurd c (by decide))
  refine lv_bipush (v := 80) hx hb dL_refusesAny_248 (by decide) ?_
  refine lv_istore (lv' := [(5, .int 80), (4, .int (-30)), (3, .int 5), (2, .int 9), (0, .ref (x 0)), (1, .int 1)]) hx hb dL_refusesAny_250 hl (by decide) rfl (fun ls hl => ?_)
  refine lv_aload_n hx hb dL_refusesAny_252 rfl (lv_at hl 4 rfl) ?_
  refine lv_iload_n hx hb dL_refusesAny_253 rfl (lv_at hl 2 rfl) ?_
  refine lv_iload_n hx hb dL_refusesAny_254 rfl (lv_at hl 5 rfl) ?_
  refine lv_if_ne (tgt := 265) hx hb dL_refusesAny_255 (by decide) (fun _ => ?_) (fun c => absurd c (by decide))
  refine lv_iload hx hb dL_refusesAny_265 (lv_at hl 0 rfl) ?_
  refine lv_iconst (v := 1) hx hb dL_refusesAny_267 (by decide) ?_
  refine lv_iadd hx hb dL_refusesAny_268 ?_
  refine g_topE (y := 81) (by decide) ?_
  obtain ⟨k6, hok⟩ := hok
  refine g_callZ (cr_setB l G z x cx o st b pf g hh 5 81 k6) hx hb hml hown hts hK hP hD hS hA hZ gL_refusesAny_X6_set rfl (n := 2) (by decide +kernel) rfl ⟨Nat.le_of_ble_eq_true rfl, Nat.le_of_ble_eq_true rfl⟩ [0, 1, 2, 3, 4, 5, 11] rfl (by decide) 0 rfl (ci := 6) rfl hl.1 rfl (Nat.le_of_ble_eq_true rfl) ⟨Nat.zero_le _, Nat.zero_le _⟩ dL_refusesAny_269 (fun H locs hP hD hS => ?_)
  have hP : va_P G.1 vwCl (List.flatten [CW G x cx, OW G (fun k => x (k + 1)) o, AW G (x 2) 9 st, BW G (fun k => x (k + 3)) b, PW G (fun k => x (k + 11)) pf, LW G (fun k => x (k + 16)) g, OW G (fun k => x (k + 20)) fo, AW G (x 21) 9 fst, BW G (fun k => x (k + 22)) fb, PW G (fun k => x (k + 30)) fp, LW G (fun k => x (k + 35)) fg, HGW G (fun k => x (k + 58)) hh, TW G (fun k => x (k + 136)) t]) H := hP
  have hD : va_D A (List.flatten [CW G x cx, OW G (fun k => x (k + 1)) o, AW G (x 2) 9 st, BW G (fun k => x (k + 3)) b, PW G (fun k => x (k + 11)) pf, LW G (fun k => x (k + 16)) g, OW G (fun k => x (k + 20)) fo, AW G (x 21) 9 fst, BW G (fun k => x (k + 22)) fb, PW G (fun k => x (k + 30)) fp, LW G (fun k => x (k + 35)) fg, HGW G (fun k => x (k + 58)) hh, TW G (fun k => x (k + 136)) t]) := hD
  refine lv_bipush (v := (-2)) hx hb dL_refusesAny_272 (by decide) ?_
  refine lv_icmp_ne (tgt := 296) hx hb dL_refusesAny_274 (by decide) (fun c => absurd c (by decide)) (fun _ => ?_)
  exact c_L_refusesAny1_4 l G z x cx o st b pf g fo fst fb fp fg hh t hx hb hml hr hts hown hlocks hK hA hZ hok hP hD hS (lv_sub hl [0, 1, 2, 3, 4, 5] rfl)
set_option maxHeartbeats 4000000 in
set_option maxRecDepth 100000 in
theorem c_L_refusesAny1_2 (l : Launch) (G : gG) (z : Nat × Nat × Nat) (x : Nat → Nat) (cx : (Nat → Int32)) (o : (Nat → Int32)) (st : (Nat → Int32)) (b : (Nat → Nat → Int32)) (pf : (Nat → Nat → Int32)) (g : (Nat → Nat → Int32)) (fo : (Nat → Int32)) (fst : (Nat → Int32)) (fb : (Nat → Nat → Int32)) (fp : (Nat → Nat → Int32)) (fg : (Nat → Nat → Int32)) (hh : HVal) (t : (Nat → Nat → Int32)) {p : Program} {e : Env} {s : State} {m : MethodId} {below : List Frame} {meth : Method} {c : Code} {A : Nat → Prop} {H : Heap} {locs : List Loc} {ls : Array Slot} (hx : p.tables.exec = Jvm.exec) (hb : c.code = cL_refusesAny) (hml : c.maxLocals = 6) (hr : meth.sig.returnType = (some .boolean)) (hts : ∀ w ∈ wsL_refusesAny, w.before (List.toArray [.ref (x 0), .int 1]) s = true) (hown : s.vm.findClass RL = some m.cls) (hlocks : meth.locks = false) (hK : gK G s) (hA : ∀ q : Nat, s.heap.size ≤ q → A q) (hZ : gZ z A s) (hok : (rok_settingV 1) ∧ (rok_setN o st b pf g hh 1 ((st (1 : Int32).toNatClampNeg + 1000) - 1000)) ∧ (rok_setB o st b pf g hh 2 101) ∧ (rok_settingV 2) ∧ (rok_setN o st b pf g hh 2 ((st (2 : Int32).toNatClampNeg + 1000) - 1000)) ∧ (rok_setB o st b pf g hh 3 81) ∧ (rok_settingV 3) ∧ (rok_setN o st b pf g hh 3 ((st (3 : Int32).toNatClampNeg + 1000) - 1000)) ∧ (rok_setB o st b pf g hh 4 11) ∧ (rok_settingV 4) ∧ (rok_setN o st b pf g hh 4 ((st (4 : Int32).toNatClampNeg + 1000) - 1000)) ∧ (rok_setB o st b pf g hh 5 81) ∧ (rok_settingV 5) ∧ (rok_setN o st b pf g hh 5 ((st (5 : Int32).toNatClampNeg + 1000) - 1000)) ∧ (rok_setB o st b pf g hh 6 81) ∧ (rok_settingV 6) ∧ (rok_setN o st b pf g hh 6 ((st (6 : Int32).toNatClampNeg + 1000) - 1000)) ∧ (rok_setB o st b pf g hh 7 501) ∧ (rok_settingV 7) ∧ (rok_setN o st b pf g hh 7 ((st (7 : Int32).toNatClampNeg + 1000) - 1000)) ∧ (rok_setB o st b pf g hh 8 51) ∧ (rok_settingV 8) ∧ (rok_setN o st b pf g hh 8 ((st (8 : Int32).toNatClampNeg + 1000) - 1000)) ∧ (rok_count1 b) ∧ (rok_cellU st b (b 0 0) 99) ∧ (rok_cellB st b 0 9) ∧ (rok_settingU 9) ∧ (rok_count2 b) ∧ (rok_stageU pf (pf 0 0) 99) ∧ (rok_voltage st b 2001) ∧ (rok_count1 b) ∧ (rok_chargeInU o st b pf g (b 0 0) (-1)) ∧ (rok_chargeInB o st b pf g 0 201) ∧ (rok_eventB g 0 3) ∧ (rok_eventN g 10 0) ∧ (rok_countB b 14) ∧ (rok_count3 b o) ∧ (rok_warmest o st b pf g fo fst fb fp fg) ∧ (rok_count3 b o) ∧ (rok_count3 b o) ∧ (rok_stop o hh) ∧ True) (hP : va_P G.1 vwCl (List.flatten [CW G x cx, OW G (fun k => x (k + 1)) o, AW G (x 2) 9 st, BW G (fun k => x (k + 3)) b, PW G (fun k => x (k + 11)) pf, LW G (fun k => x (k + 16)) g, OW G (fun k => x (k + 20)) fo, AW G (x 21) 9 fst, BW G (fun k => x (k + 22)) fb, PW G (fun k => x (k + 30)) fp, LW G (fun k => x (k + 35)) fg, HGW G (fun k => x (k + 58)) hh, TW G (fun k => x (k + 136)) t]) H) (hD : va_D A (List.flatten [CW G x cx, OW G (fun k => x (k + 1)) o, AW G (x 2) 9 st, BW G (fun k => x (k + 3)) b, PW G (fun k => x (k + 11)) pf, LW G (fun k => x (k + 16)) g, OW G (fun k => x (k + 20)) fo, AW G (x 21) 9 fst, BW G (fun k => x (k + 22)) fb, PW G (fun k => x (k + 30)) fp, LW G (fun k => x (k + 35)) fg, HGW G (fun k => x (k + 58)) hh, TW G (fun k => x (k + 136)) t])) (hS : va_S A s.heap H locs) (hl : lv_has ls 6 [(5, .int 200), (4, .int 0), (3, .int 1), (2, .int 9), (0, .ref (x 0)), (1, .int 1)]) : W p l e { frames := 8, cells := 0, slots := 0, locals := 164 } s m (List.toArray [.ref (x 0), .int 1]) below meth c H locs 0 0 (gQ G below (List.toArray [.ref (x 0), .int 1]) s (some (.int 1)) [CW G x cx, OW G (fun k => x (k + 1)) o, AW G (x 2) 9 st, BW G (fun k => x (k + 3)) b, PW G (fun k => x (k + 11)) pf, LW G (fun k => x (k + 16)) g, OW G (fun k => x (k + 20)) fo, AW G (x 21) 9 fst, BW G (fun k => x (k + 22)) fb, PW G (fun k => x (k + 30)) fp, LW G (fun k => x (k + 35)) fg, HGW G (fun k => x (k + 58)) hh, TW G (fun k => x (k + 136)) t] A) (F0 m 277 ls []) := by
  refine lv_aload_n hx hb dL_refusesAny_277 rfl (lv_at hl 4 rfl) ?_
  refine lv_iload_n hx hb dL_refusesAny_278 rfl (lv_at hl 2 rfl) ?_
  refine lv_aload_n hx hb dL_refusesAny_279 rfl (lv_at hl 4 rfl) ?_
  refine lv_iload_n hx hb dL_refusesAny_280 rfl (lv_at hl 2 rfl) ?_
  obtain ⟨k1, hok⟩ := hok
  refine g_callV (cr_settingV l G x cx o st b pf g 1 k1) hx hb hml hown hts hK hP hD hS hA gL_refusesAny_X6_setting rfl (n := 1) (by decide +kernel) rfl ⟨Nat.le_of_ble_eq_true rfl, Nat.le_of_ble_eq_true rfl⟩ [0, 1, 2, 3, 4, 5] rfl (by decide) 0 rfl (ci := 6) rfl hl.1 rfl (Nat.le_of_ble_eq_true rfl) ⟨Nat.zero_le _, Nat.zero_le _⟩ dL_refusesAny_281 (fun H locs hP hD hS => ?_)
  have hP : va_P G.1 vwCl (List.flatten [CW G x cx, OW G (fun k => x (k + 1)) o, AW G (x 2) 9 st, BW G (fun k => x (k + 3)) b, PW G (fun k => x (k + 11)) pf, LW G (fun k => x (k + 16)) g, OW G (fun k => x (k + 20)) fo, AW G (x 21) 9 fst, BW G (fun k => x (k + 22)) fb, PW G (fun k => x (k + 30)) fp, LW G (fun k => x (k + 35)) fg, HGW G (fun k => x (k + 58)) hh, TW G (fun k => x (k + 136)) t]) H := hP
  have hD : va_D A (List.flatten [CW G x cx, OW G (fun k => x (k + 1)) o, AW G (x 2) 9 st, BW G (fun k => x (k + 3)) b, PW G (fun k => x (k + 11)) pf, LW G (fun k => x (k + 16)) g, OW G (fun k => x (k + 20)) fo, AW G (x 21) 9 fst, BW G (fun k => x (k + 22)) fb, PW G (fun k => x (k + 30)) fp, LW G (fun k => x (k + 35)) fg, HGW G (fun k => x (k + 58)) hh, TW G (fun k => x (k + 136)) t]) := hD
  refine lv_sipush (v := 1000) hx hb dL_refusesAny_284 (by decide) ?_
  refine lv_isub hx hb dL_refusesAny_287 ?_
  obtain ⟨k2, hok⟩ := hok
  refine g_callZ (cr_setN l G z x cx o st b pf g hh 1 ((st (1 : Int32).toNatClampNeg + 1000) - 1000) k2) hx hb hml hown hts hK hP hD hS hA hZ gL_refusesAny_X6_set rfl (n := 2) (by decide +kernel) rfl ⟨Nat.le_of_ble_eq_true rfl, Nat.le_of_ble_eq_true rfl⟩ [0, 1, 2, 3, 4, 5, 11] rfl (by decide) 0 rfl (ci := 6) rfl hl.1 rfl (Nat.le_of_ble_eq_true rfl) ⟨Nat.zero_le _, Nat.zero_le _⟩ dL_refusesAny_288 (fun H locs hP hD hS => ?_)
  have hP : va_P G.1 vwCl (List.flatten [CW G x cx, OW G (fun k => x (k + 1)) o, AW G (x 2) 9 st, BW G (fun k => x (k + 3)) b, PW G (fun k => x (k + 11)) pf, LW G (fun k => x (k + 16)) g, OW G (fun k => x (k + 20)) fo, AW G (x 21) 9 fst, BW G (fun k => x (k + 22)) fb, PW G (fun k => x (k + 30)) fp, LW G (fun k => x (k + 35)) fg, HGW G (fun k => x (k + 58)) hh, TW G (fun k => x (k + 136)) t]) H := hP
  have hD : va_D A (List.flatten [CW G x cx, OW G (fun k => x (k + 1)) o, AW G (x 2) 9 st, BW G (fun k => x (k + 3)) b, PW G (fun k => x (k + 11)) pf, LW G (fun k => x (k + 16)) g, OW G (fun k => x (k + 20)) fo, AW G (x 21) 9 fst, BW G (fun k => x (k + 22)) fb, PW G (fun k => x (k + 30)) fp, LW G (fun k => x (k + 35)) fg, HGW G (fun k => x (k + 58)) hh, TW G (fun k => x (k + 136)) t]) := hD
  refine lv_bipush (v := (-5)) hx hb dL_refusesAny_291 (by decide) ?_
  refine lv_icmp_eq (tgt := 298) hx hb dL_refusesAny_293 (by decide) (fun _ => ?_) (fun c => absurd c (by decide))
  refine lv_iinc (v := 2) (lv' := [(3, .int 2), (5, .int 200), (4, .int 0), (2, .int 9), (0, .ref (x 0)), (1, .int 1)]) hx hb dL_refusesAny_298 hl (k := 2) rfl (by decide) (by decide) rfl (fun ls hl => ?_)
  refine lv_goto (tgt := 135) hx hb dL_refusesAny_301 (by decide) ?_
  refine lv_iload_n hx hb dL_refusesAny_135 rfl (lv_at hl 0 rfl) ?_
  refine lv_bipush (v := 9) hx hb dL_refusesAny_136 (by decide) ?_
  refine lv_icmp_ge (tgt := 304) hx hb dL_refusesAny_138 (by decide) (fun c => absurd c (by decide)) (fun _ => ?_)
  refine lv_iload_n hx hb dL_refusesAny_141 rfl (lv_at hl 0 rfl) ?_
  refine lv_if_ne (tgt := 150) hx hb dL_refusesAny_142 (by decide) (fun _ => ?_) (fun c => absurd c (by decide))
  refine lv_iload_n hx hb dL_refusesAny_150 rfl (lv_at hl 0 rfl) ?_
  refine lv_iconst (v := 2) hx hb dL_refusesAny_151 (by decide) ?_
  refine lv_icmp_ne (tgt := 160) hx hb dL_refusesAny_152 (by decide) (fun c => absurd c (by decide)) (fun _ => ?_)
  refine lv_bipush (v := 50) hx hb dL_refusesAny_155 (by decide) ?_
  refine lv_goto (tgt := 182) hx hb dL_refusesAny_157 (by decide) ?_
  refine lv_istore (lv' := [(4, .int 50), (3, .int 2), (5, .int 200), (2, .int 9), (0, .ref (x 0)), (1, .int 1)]) hx hb dL_refusesAny_182 hl (by decide) rfl (fun ls hl => ?_)
  refine lv_iload_n hx hb dL_refusesAny_184 rfl (lv_at hl 1 rfl) ?_
  refine lv_if_ne (tgt := 194) hx hb dL_refusesAny_185 (by decide) (fun _ => ?_) (fun c => absurd c (by decide))
  refine lv_iload_n hx hb dL_refusesAny_194 rfl (lv_at hl 1 rfl) ?_
  refine lv_iconst (v := 1) hx hb dL_refusesAny_195 (by decide) ?_
  refine lv_icmp_ne (tgt := 205) hx hb dL_refusesAny_196 (by decide) (fun _ => ?_) (fun c => absurd c (by decide))
  refine lv_iload_n hx hb dL_refusesAny_205 rfl (lv_at hl 1 rfl) ?_
  refine lv_iconst (v := 2) hx hb dL_refusesAny_206 (by decide) ?_
  refine lv_icmp_ne (tgt := 215) hx hb dL_refusesAny_207 (by decide) (fun c => absurd c (by decide)) (fun _ => ?_)
  refine lv_bipush (v := 100) hx hb dL_refusesAny_210 (by decide) ?_
  refine lv_goto (tgt := 250) hx hb dL_refusesAny_212 (by decide) ?_
  refine lv_istore (lv' := [(5, .int 100), (4, .int 50), (3, .int 2), (2, .int 9), (0, .ref (x 0)), (1, .int 1)]) hx hb dL_refusesAny_250 hl (by decide) rfl (fun ls hl => ?_)
  refine lv_aload_n hx hb dL_refusesAny_252 rfl (lv_at hl 4 rfl) ?_
  refine lv_iload_n hx hb dL_refusesAny_253 rfl (lv_at hl 2 rfl) ?_
  refine lv_iload_n hx hb dL_refusesAny_254 rfl (lv_at hl 5 rfl) ?_
  refine lv_if_ne (tgt := 265) hx hb dL_refusesAny_255 (by decide) (fun _ => ?_) (fun c => absurd c (by decide))
  refine lv_iload hx hb dL_refusesAny_265 (lv_at hl 0 rfl) ?_
  refine lv_iconst (v := 1) hx hb dL_refusesAny_267 (by decide) ?_
  refine lv_iadd hx hb dL_refusesAny_268 ?_
  refine g_topE (y := 101) (by decide) ?_
  obtain ⟨k3, hok⟩ := hok
  refine g_callZ (cr_setB l G z x cx o st b pf g hh 2 101 k3) hx hb hml hown hts hK hP hD hS hA hZ gL_refusesAny_X6_set rfl (n := 2) (by decide +kernel) rfl ⟨Nat.le_of_ble_eq_true rfl, Nat.le_of_ble_eq_true rfl⟩ [0, 1, 2, 3, 4, 5, 11] rfl (by decide) 0 rfl (ci := 6) rfl hl.1 rfl (Nat.le_of_ble_eq_true rfl) ⟨Nat.zero_le _, Nat.zero_le _⟩ dL_refusesAny_269 (fun H locs hP hD hS => ?_)
  have hP : va_P G.1 vwCl (List.flatten [CW G x cx, OW G (fun k => x (k + 1)) o, AW G (x 2) 9 st, BW G (fun k => x (k + 3)) b, PW G (fun k => x (k + 11)) pf, LW G (fun k => x (k + 16)) g, OW G (fun k => x (k + 20)) fo, AW G (x 21) 9 fst, BW G (fun k => x (k + 22)) fb, PW G (fun k => x (k + 30)) fp, LW G (fun k => x (k + 35)) fg, HGW G (fun k => x (k + 58)) hh, TW G (fun k => x (k + 136)) t]) H := hP
  have hD : va_D A (List.flatten [CW G x cx, OW G (fun k => x (k + 1)) o, AW G (x 2) 9 st, BW G (fun k => x (k + 3)) b, PW G (fun k => x (k + 11)) pf, LW G (fun k => x (k + 16)) g, OW G (fun k => x (k + 20)) fo, AW G (x 21) 9 fst, BW G (fun k => x (k + 22)) fb, PW G (fun k => x (k + 30)) fp, LW G (fun k => x (k + 35)) fg, HGW G (fun k => x (k + 58)) hh, TW G (fun k => x (k + 136)) t]) := hD
  refine lv_bipush (v := (-2)) hx hb dL_refusesAny_272 (by decide) ?_
  refine lv_icmp_ne (tgt := 296) hx hb dL_refusesAny_274 (by decide) (fun c => absurd c (by decide)) (fun _ => ?_)
  refine lv_aload_n hx hb dL_refusesAny_277 rfl (lv_at hl 4 rfl) ?_
  refine lv_iload_n hx hb dL_refusesAny_278 rfl (lv_at hl 2 rfl) ?_
  refine lv_aload_n hx hb dL_refusesAny_279 rfl (lv_at hl 4 rfl) ?_
  refine lv_iload_n hx hb dL_refusesAny_280 rfl (lv_at hl 2 rfl) ?_
  obtain ⟨k4, hok⟩ := hok
  refine g_callV (cr_settingV l G x cx o st b pf g 2 k4) hx hb hml hown hts hK hP hD hS hA gL_refusesAny_X6_setting rfl (n := 1) (by decide +kernel) rfl ⟨Nat.le_of_ble_eq_true rfl, Nat.le_of_ble_eq_true rfl⟩ [0, 1, 2, 3, 4, 5] rfl (by decide) 0 rfl (ci := 6) rfl hl.1 rfl (Nat.le_of_ble_eq_true rfl) ⟨Nat.zero_le _, Nat.zero_le _⟩ dL_refusesAny_281 (fun H locs hP hD hS => ?_)
  have hP : va_P G.1 vwCl (List.flatten [CW G x cx, OW G (fun k => x (k + 1)) o, AW G (x 2) 9 st, BW G (fun k => x (k + 3)) b, PW G (fun k => x (k + 11)) pf, LW G (fun k => x (k + 16)) g, OW G (fun k => x (k + 20)) fo, AW G (x 21) 9 fst, BW G (fun k => x (k + 22)) fb, PW G (fun k => x (k + 30)) fp, LW G (fun k => x (k + 35)) fg, HGW G (fun k => x (k + 58)) hh, TW G (fun k => x (k + 136)) t]) H := hP
  have hD : va_D A (List.flatten [CW G x cx, OW G (fun k => x (k + 1)) o, AW G (x 2) 9 st, BW G (fun k => x (k + 3)) b, PW G (fun k => x (k + 11)) pf, LW G (fun k => x (k + 16)) g, OW G (fun k => x (k + 20)) fo, AW G (x 21) 9 fst, BW G (fun k => x (k + 22)) fb, PW G (fun k => x (k + 30)) fp, LW G (fun k => x (k + 35)) fg, HGW G (fun k => x (k + 58)) hh, TW G (fun k => x (k + 136)) t]) := hD
  refine lv_sipush (v := 1000) hx hb dL_refusesAny_284 (by decide) ?_
  refine lv_isub hx hb dL_refusesAny_287 ?_
  obtain ⟨k5, hok⟩ := hok
  refine g_callZ (cr_setN l G z x cx o st b pf g hh 2 ((st (2 : Int32).toNatClampNeg + 1000) - 1000) k5) hx hb hml hown hts hK hP hD hS hA hZ gL_refusesAny_X6_set rfl (n := 2) (by decide +kernel) rfl ⟨Nat.le_of_ble_eq_true rfl, Nat.le_of_ble_eq_true rfl⟩ [0, 1, 2, 3, 4, 5, 11] rfl (by decide) 0 rfl (ci := 6) rfl hl.1 rfl (Nat.le_of_ble_eq_true rfl) ⟨Nat.zero_le _, Nat.zero_le _⟩ dL_refusesAny_288 (fun H locs hP hD hS => ?_)
  have hP : va_P G.1 vwCl (List.flatten [CW G x cx, OW G (fun k => x (k + 1)) o, AW G (x 2) 9 st, BW G (fun k => x (k + 3)) b, PW G (fun k => x (k + 11)) pf, LW G (fun k => x (k + 16)) g, OW G (fun k => x (k + 20)) fo, AW G (x 21) 9 fst, BW G (fun k => x (k + 22)) fb, PW G (fun k => x (k + 30)) fp, LW G (fun k => x (k + 35)) fg, HGW G (fun k => x (k + 58)) hh, TW G (fun k => x (k + 136)) t]) H := hP
  have hD : va_D A (List.flatten [CW G x cx, OW G (fun k => x (k + 1)) o, AW G (x 2) 9 st, BW G (fun k => x (k + 3)) b, PW G (fun k => x (k + 11)) pf, LW G (fun k => x (k + 16)) g, OW G (fun k => x (k + 20)) fo, AW G (x 21) 9 fst, BW G (fun k => x (k + 22)) fb, PW G (fun k => x (k + 30)) fp, LW G (fun k => x (k + 35)) fg, HGW G (fun k => x (k + 58)) hh, TW G (fun k => x (k + 136)) t]) := hD
  refine lv_bipush (v := (-5)) hx hb dL_refusesAny_291 (by decide) ?_
  refine lv_icmp_eq (tgt := 298) hx hb dL_refusesAny_293 (by decide) (fun _ => ?_) (fun c => absurd c (by decide))
  refine lv_iinc (v := 3) (lv' := [(3, .int 3), (5, .int 100), (4, .int 50), (2, .int 9), (0, .ref (x 0)), (1, .int 1)]) hx hb dL_refusesAny_298 hl (k := 2) rfl (by decide) (by decide) rfl (fun ls hl => ?_)
  refine lv_goto (tgt := 135) hx hb dL_refusesAny_301 (by decide) ?_
  refine lv_iload_n hx hb dL_refusesAny_135 rfl (lv_at hl 0 rfl) ?_
  refine lv_bipush (v := 9) hx hb dL_refusesAny_136 (by decide) ?_
  refine lv_icmp_ge (tgt := 304) hx hb dL_refusesAny_138 (by decide) (fun c => absurd c (by decide)) (fun _ => ?_)
  refine lv_iload_n hx hb dL_refusesAny_141 rfl (lv_at hl 0 rfl) ?_
  refine lv_if_ne (tgt := 150) hx hb dL_refusesAny_142 (by decide) (fun _ => ?_) (fun c => absurd c (by decide))
  refine lv_iload_n hx hb dL_refusesAny_150 rfl (lv_at hl 0 rfl) ?_
  refine lv_iconst (v := 2) hx hb dL_refusesAny_151 (by decide) ?_
  refine lv_icmp_ne (tgt := 160) hx hb dL_refusesAny_152 (by decide) (fun _ => ?_) (fun c => absurd c (by decide))
  refine lv_iload_n hx hb dL_refusesAny_160 rfl (lv_at hl 0 rfl) ?_
  refine lv_iconst (v := 3) hx hb dL_refusesAny_161 (by decide) ?_
  refine lv_icmp_eq (tgt := 176) hx hb dL_refusesAny_162 (by decide) (fun _ => ?_) (fun c => absurd c (by decide))
  refine lv_bipush (v := (-30)) hx hb dL_refusesAny_176 (by decide) ?_
  refine lv_goto (tgt := 182) hx hb dL_refusesAny_178 (by decide) ?_
  refine lv_istore (lv' := [(4, .int (-30)), (3, .int 3), (5, .int 100), (2, .int 9), (0, .ref (x 0)), (1, .int 1)]) hx hb dL_refusesAny_182 hl (by decide) rfl (fun ls hl => ?_)
  refine lv_iload_n hx hb dL_refusesAny_184 rfl (lv_at hl 1 rfl) ?_
  refine lv_if_ne (tgt := 194) hx hb dL_refusesAny_185 (by decide) (fun _ => ?_) (fun c => absurd c (by decide))
  refine lv_iload_n hx hb dL_refusesAny_194 rfl (lv_at hl 1 rfl) ?_
  refine lv_iconst (v := 1) hx hb dL_refusesAny_195 (by decide) ?_
  refine lv_icmp_ne (tgt := 205) hx hb dL_refusesAny_196 (by decide) (fun _ => ?_) (fun c => absurd c (by decide))
  refine lv_iload_n hx hb dL_refusesAny_205 rfl (lv_at hl 1 rfl) ?_
  refine lv_iconst (v := 2) hx hb dL_refusesAny_206 (by decide) ?_
  refine lv_icmp_ne (tgt := 215) hx hb dL_refusesAny_207 (by decide) (fun _ => ?_) (fun c => absurd c (by decide))
  refine lv_iload_n hx hb dL_refusesAny_215 rfl (lv_at hl 1 rfl) ?_
  refine lv_iconst (v := 4) hx hb dL_refusesAny_216 (by decide) ?_
  refine lv_icmp_ne (tgt := 225) hx hb dL_refusesAny_217 (by decide) (fun _ => ?_) (fun c => absurd c (by decide))
  refine lv_iload_n hx hb dL_refusesAny_225 rfl (lv_at hl 1 rfl) ?_
  refine lv_bipush (v := 7) hx hb dL_refusesAny_226 (by decide) ?_
  refine lv_icmp_ne (tgt := 237) hx hb dL_refusesAny_228 (by decide) (fun _ => ?_) (fun c => absurd c (by decide))
  refine lv_iload_n hx hb dL_refusesAny_237 rfl (lv_at hl 1 rfl) ?_
  refine lv_bipush (v := 8) hx hb dL_refusesAny_238 (by decide) ?_
  refine lv_icmp_ne (tgt := 248) hx hb dL_refusesAny_240 (by decide) (fun _ => ?_) (fun c => absurd c (by decide))
  refine lv_bipush (v := 80) hx hb dL_refusesAny_248 (by decide) ?_
  refine lv_istore (lv' := [(5, .int 80), (4, .int (-30)), (3, .int 3), (2, .int 9), (0, .ref (x 0)), (1, .int 1)]) hx hb dL_refusesAny_250 hl (by decide) rfl (fun ls hl => ?_)
  refine lv_aload_n hx hb dL_refusesAny_252 rfl (lv_at hl 4 rfl) ?_
  refine lv_iload_n hx hb dL_refusesAny_253 rfl (lv_at hl 2 rfl) ?_
  refine lv_iload_n hx hb dL_refusesAny_254 rfl (lv_at hl 5 rfl) ?_
  refine lv_if_ne (tgt := 265) hx hb dL_refusesAny_255 (by decide) (fun _ => ?_) (fun c => absurd c (by decide))
  refine lv_iload hx hb dL_refusesAny_265 (lv_at hl 0 rfl) ?_
  refine lv_iconst (v := 1) hx hb dL_refusesAny_267 (by decide) ?_
  refine lv_iadd hx hb dL_refusesAny_268 ?_
  refine g_topE (y := 81) (by decide) ?_
  obtain ⟨k6, hok⟩ := hok
  refine g_callZ (cr_setB l G z x cx o st b pf g hh 3 81 k6) hx hb hml hown hts hK hP hD hS hA hZ gL_refusesAny_X6_set rfl (n := 2) (by decide +kernel) rfl ⟨Nat.le_of_ble_eq_true rfl, Nat.le_of_ble_eq_true rfl⟩ [0, 1, 2, 3, 4, 5, 11] rfl (by decide) 0 rfl (ci := 6) rfl hl.1 rfl (Nat.le_of_ble_eq_true rfl) ⟨Nat.zero_le _, Nat.zero_le _⟩ dL_refusesAny_269 (fun H locs hP hD hS => ?_)
  have hP : va_P G.1 vwCl (List.flatten [CW G x cx, OW G (fun k => x (k + 1)) o, AW G (x 2) 9 st, BW G (fun k => x (k + 3)) b, PW G (fun k => x (k + 11)) pf, LW G (fun k => x (k + 16)) g, OW G (fun k => x (k + 20)) fo, AW G (x 21) 9 fst, BW G (fun k => x (k + 22)) fb, PW G (fun k => x (k + 30)) fp, LW G (fun k => x (k + 35)) fg, HGW G (fun k => x (k + 58)) hh, TW G (fun k => x (k + 136)) t]) H := hP
  have hD : va_D A (List.flatten [CW G x cx, OW G (fun k => x (k + 1)) o, AW G (x 2) 9 st, BW G (fun k => x (k + 3)) b, PW G (fun k => x (k + 11)) pf, LW G (fun k => x (k + 16)) g, OW G (fun k => x (k + 20)) fo, AW G (x 21) 9 fst, BW G (fun k => x (k + 22)) fb, PW G (fun k => x (k + 30)) fp, LW G (fun k => x (k + 35)) fg, HGW G (fun k => x (k + 58)) hh, TW G (fun k => x (k + 136)) t]) := hD
  refine lv_bipush (v := (-2)) hx hb dL_refusesAny_272 (by decide) ?_
  refine lv_icmp_ne (tgt := 296) hx hb dL_refusesAny_274 (by decide) (fun c => absurd c (by decide)) (fun _ => ?_)
  exact c_L_refusesAny1_3 l G z x cx o st b pf g fo fst fb fp fg hh t hx hb hml hr hts hown hlocks hK hA hZ hok hP hD hS (lv_sub hl [0, 1, 2, 3, 4, 5] rfl)
set_option maxHeartbeats 4000000 in
set_option maxRecDepth 100000 in
theorem c_L_refusesAny1_1 (l : Launch) (G : gG) (z : Nat × Nat × Nat) (x : Nat → Nat) (cx : (Nat → Int32)) (o : (Nat → Int32)) (st : (Nat → Int32)) (b : (Nat → Nat → Int32)) (pf : (Nat → Nat → Int32)) (g : (Nat → Nat → Int32)) (fo : (Nat → Int32)) (fst : (Nat → Int32)) (fb : (Nat → Nat → Int32)) (fp : (Nat → Nat → Int32)) (fg : (Nat → Nat → Int32)) (hh : HVal) (t : (Nat → Nat → Int32)) {p : Program} {e : Env} {s : State} {m : MethodId} {below : List Frame} {meth : Method} {c : Code} {A : Nat → Prop} {H : Heap} {locs : List Loc} {ls : Array Slot} (hx : p.tables.exec = Jvm.exec) (hb : c.code = cL_refusesAny) (hml : c.maxLocals = 6) (hr : meth.sig.returnType = (some .boolean)) (hts : ∀ w ∈ wsL_refusesAny, w.before (List.toArray [.ref (x 0), .int 1]) s = true) (hown : s.vm.findClass RL = some m.cls) (hlocks : meth.locks = false) (hK : gK G s) (hA : ∀ q : Nat, s.heap.size ≤ q → A q) (hZ : gZ z A s) (hok : (rok_setU o st b pf g hh 9 9999) ∧ (rok_pass o st b pf g hh 201) ∧ (rok_setB o st b pf g hh 0 5001) ∧ (rok_settingV 0) ∧ (rok_setN o st b pf g hh 0 ((st (0 : Int32).toNatClampNeg + 1000) - 1000)) ∧ (rok_setB o st b pf g hh 1 201) ∧ (rok_settingV 1) ∧ (rok_setN o st b pf g hh 1 ((st (1 : Int32).toNatClampNeg + 1000) - 1000)) ∧ (rok_setB o st b pf g hh 2 101) ∧ (rok_settingV 2) ∧ (rok_setN o st b pf g hh 2 ((st (2 : Int32).toNatClampNeg + 1000) - 1000)) ∧ (rok_setB o st b pf g hh 3 81) ∧ (rok_settingV 3) ∧ (rok_setN o st b pf g hh 3 ((st (3 : Int32).toNatClampNeg + 1000) - 1000)) ∧ (rok_setB o st b pf g hh 4 11) ∧ (rok_settingV 4) ∧ (rok_setN o st b pf g hh 4 ((st (4 : Int32).toNatClampNeg + 1000) - 1000)) ∧ (rok_setB o st b pf g hh 5 81) ∧ (rok_settingV 5) ∧ (rok_setN o st b pf g hh 5 ((st (5 : Int32).toNatClampNeg + 1000) - 1000)) ∧ (rok_setB o st b pf g hh 6 81) ∧ (rok_settingV 6) ∧ (rok_setN o st b pf g hh 6 ((st (6 : Int32).toNatClampNeg + 1000) - 1000)) ∧ (rok_setB o st b pf g hh 7 501) ∧ (rok_settingV 7) ∧ (rok_setN o st b pf g hh 7 ((st (7 : Int32).toNatClampNeg + 1000) - 1000)) ∧ (rok_setB o st b pf g hh 8 51) ∧ (rok_settingV 8) ∧ (rok_setN o st b pf g hh 8 ((st (8 : Int32).toNatClampNeg + 1000) - 1000)) ∧ (rok_count1 b) ∧ (rok_cellU st b (b 0 0) 99) ∧ (rok_cellB st b 0 9) ∧ (rok_settingU 9) ∧ (rok_count2 b) ∧ (rok_stageU pf (pf 0 0) 99) ∧ (rok_voltage st b 2001) ∧ (rok_count1 b) ∧ (rok_chargeInU o st b pf g (b 0 0) (-1)) ∧ (rok_chargeInB o st b pf g 0 201) ∧ (rok_eventB g 0 3) ∧ (rok_eventN g 10 0) ∧ (rok_countB b 14) ∧ (rok_count3 b o) ∧ (rok_warmest o st b pf g fo fst fb fp fg) ∧ (rok_count3 b o) ∧ (rok_count3 b o) ∧ (rok_stop o hh) ∧ True) (hP : va_P G.1 vwCl (List.flatten [CW G x cx, OW G (fun k => x (k + 1)) o, AW G (x 2) 9 st, BW G (fun k => x (k + 3)) b, PW G (fun k => x (k + 11)) pf, LW G (fun k => x (k + 16)) g, OW G (fun k => x (k + 20)) fo, AW G (x 21) 9 fst, BW G (fun k => x (k + 22)) fb, PW G (fun k => x (k + 30)) fp, LW G (fun k => x (k + 35)) fg, HGW G (fun k => x (k + 58)) hh, TW G (fun k => x (k + 136)) t]) H) (hD : va_D A (List.flatten [CW G x cx, OW G (fun k => x (k + 1)) o, AW G (x 2) 9 st, BW G (fun k => x (k + 3)) b, PW G (fun k => x (k + 11)) pf, LW G (fun k => x (k + 16)) g, OW G (fun k => x (k + 20)) fo, AW G (x 21) 9 fst, BW G (fun k => x (k + 22)) fb, PW G (fun k => x (k + 30)) fp, LW G (fun k => x (k + 35)) fg, HGW G (fun k => x (k + 58)) hh, TW G (fun k => x (k + 136)) t])) (hS : va_S A s.heap H locs) (hl : lv_has ls 6 [(2, .int 9), (0, .ref (x 0)), (1, .int 1)]) : W p l e { frames := 8, cells := 0, slots := 0, locals := 164 } s m (List.toArray [.ref (x 0), .int 1]) below meth c H locs 0 0 (gQ G below (List.toArray [.ref (x 0), .int 1]) s (some (.int 1)) [CW G x cx, OW G (fun k => x (k + 1)) o, AW G (x 2) 9 st, BW G (fun k => x (k + 3)) b, PW G (fun k => x (k + 11)) pf, LW G (fun k => x (k + 16)) g, OW G (fun k => x (k + 20)) fo, AW G (x 21) 9 fst, BW G (fun k => x (k + 22)) fb, PW G (fun k => x (k + 30)) fp, LW G (fun k => x (k + 35)) fg, HGW G (fun k => x (k + 58)) hh, TW G (fun k => x (k + 136)) t] A) (F0 m 99 ls []) := by
  refine lv_aload_n hx hb dL_refusesAny_99 rfl (lv_at hl 1 rfl) ?_
  refine lv_iload_n hx hb dL_refusesAny_100 rfl (lv_at hl 0 rfl) ?_
  refine lv_sipush (v := 9999) hx hb dL_refusesAny_101 (by decide) ?_
  obtain ⟨k1, hok⟩ := hok
  refine g_callZ (cr_setU l G z x cx o st b pf g hh 9 9999 k1) hx hb hml hown hts hK hP hD hS hA hZ gL_refusesAny_X6_set rfl (n := 2) (by decide +kernel) rfl ⟨Nat.le_of_ble_eq_true rfl, Nat.le_of_ble_eq_true rfl⟩ [0, 1, 2, 3, 4, 5, 11] rfl (by decide) 0 rfl (ci := 6) rfl hl.1 rfl (Nat.le_of_ble_eq_true rfl) ⟨Nat.zero_le _, Nat.zero_le _⟩ dL_refusesAny_104 (fun H locs hP hD hS => ?_)
  have hP : va_P G.1 vwCl (List.flatten [CW G x cx, OW G (fun k => x (k + 1)) o, AW G (x 2) 9 st, BW G (fun k => x (k + 3)) b, PW G (fun k => x (k + 11)) pf, LW G (fun k => x (k + 16)) g, OW G (fun k => x (k + 20)) fo, AW G (x 21) 9 fst, BW G (fun k => x (k + 22)) fb, PW G (fun k => x (k + 30)) fp, LW G (fun k => x (k + 35)) fg, HGW G (fun k => x (k + 58)) hh, TW G (fun k => x (k + 136)) t]) H := hP
  have hD : va_D A (List.flatten [CW G x cx, OW G (fun k => x (k + 1)) o, AW G (x 2) 9 st, BW G (fun k => x (k + 3)) b, PW G (fun k => x (k + 11)) pf, LW G (fun k => x (k + 16)) g, OW G (fun k => x (k + 20)) fo, AW G (x 21) 9 fst, BW G (fun k => x (k + 22)) fb, PW G (fun k => x (k + 30)) fp, LW G (fun k => x (k + 35)) fg, HGW G (fun k => x (k + 58)) hh, TW G (fun k => x (k + 136)) t]) := hD
  refine lv_iconst (v := (-1)) hx hb dL_refusesAny_107 (by decide) ?_
  refine lv_icmp_ne (tgt := 131) hx hb dL_refusesAny_108 (by decide) (fun c => absurd c (by decide)) (fun _ => ?_)
  refine lv_aload_n hx hb dL_refusesAny_111 rfl (lv_at hl 1 rfl) ?_
  refine lv_iload_n hx hb dL_refusesAny_112 rfl (lv_at hl 2 rfl) ?_
  refine lv_if_ne (tgt := 120) hx hb dL_refusesAny_113 (by decide) (fun _ => ?_) (fun c => absurd c (by decide))
  refine lv_sipush (v := 201) hx hb dL_refusesAny_120 (by decide) ?_
  obtain ⟨k2, hok⟩ := hok
  refine g_callV (cr_pass l G x cx o st b pf g hh 201 k2) hx hb hml hown hts hK hP hD hS hA gL_refusesAny_X6_pass rfl (n := 1) (by decide +kernel) rfl ⟨Nat.le_of_ble_eq_true rfl, Nat.le_of_ble_eq_true rfl⟩ [0, 1, 2, 3, 4, 5, 11] rfl (by decide) 0 rfl (ci := 6) rfl hl.1 rfl (Nat.le_of_ble_eq_true rfl) ⟨Nat.zero_le _, Nat.zero_le _⟩ dL_refusesAny_123 (fun H locs hP hD hS => ?_)
  have hP : va_P G.1 vwCl (List.flatten [CW G x cx, OW G (fun k => x (k + 1)) o, AW G (x 2) 9 st, BW G (fun k => x (k + 3)) b, PW G (fun k => x (k + 11)) pf, LW G (fun k => x (k + 16)) g, OW G (fun k => x (k + 20)) fo, AW G (x 21) 9 fst, BW G (fun k => x (k + 22)) fb, PW G (fun k => x (k + 30)) fp, LW G (fun k => x (k + 35)) fg, HGW G (fun k => x (k + 58)) hh, TW G (fun k => x (k + 136)) t]) H := hP
  have hD : va_D A (List.flatten [CW G x cx, OW G (fun k => x (k + 1)) o, AW G (x 2) 9 st, BW G (fun k => x (k + 3)) b, PW G (fun k => x (k + 11)) pf, LW G (fun k => x (k + 16)) g, OW G (fun k => x (k + 20)) fo, AW G (x 21) 9 fst, BW G (fun k => x (k + 22)) fb, PW G (fun k => x (k + 30)) fp, LW G (fun k => x (k + 35)) fg, HGW G (fun k => x (k + 58)) hh, TW G (fun k => x (k + 136)) t]) := hD
  refine lv_bipush (v := (-2)) hx hb dL_refusesAny_126 (by decide) ?_
  refine lv_icmp_eq (tgt := 133) hx hb dL_refusesAny_128 (by decide) (fun _ => ?_) (fun c => absurd c (by decide))
  refine lv_iconst (v := 0) hx hb dL_refusesAny_133 (by decide) ?_
  refine lv_istore_n (lv' := [(3, .int 0), (2, .int 9), (0, .ref (x 0)), (1, .int 1)]) hx hb dL_refusesAny_134 rfl hl (by decide) rfl (fun ls hl => ?_)
  refine lv_iload_n hx hb dL_refusesAny_135 rfl (lv_at hl 0 rfl) ?_
  refine lv_bipush (v := 9) hx hb dL_refusesAny_136 (by decide) ?_
  refine lv_icmp_ge (tgt := 304) hx hb dL_refusesAny_138 (by decide) (fun c => absurd c (by decide)) (fun _ => ?_)
  refine lv_iload_n hx hb dL_refusesAny_141 rfl (lv_at hl 0 rfl) ?_
  refine lv_if_ne (tgt := 150) hx hb dL_refusesAny_142 (by decide) (fun c => absurd c (by decide)) (fun _ => ?_)
  refine lv_bipush (v := 100) hx hb dL_refusesAny_145 (by decide) ?_
  refine lv_goto (tgt := 182) hx hb dL_refusesAny_147 (by decide) ?_
  refine lv_istore (lv' := [(4, .int 100), (3, .int 0), (2, .int 9), (0, .ref (x 0)), (1, .int 1)]) hx hb dL_refusesAny_182 hl (by decide) rfl (fun ls hl => ?_)
  refine lv_iload_n hx hb dL_refusesAny_184 rfl (lv_at hl 1 rfl) ?_
  refine lv_if_ne (tgt := 194) hx hb dL_refusesAny_185 (by decide) (fun c => absurd c (by decide)) (fun _ => ?_)
  refine lv_sipush (v := 5000) hx hb dL_refusesAny_188 (by decide) ?_
  refine lv_goto (tgt := 250) hx hb dL_refusesAny_191 (by decide) ?_
  refine lv_istore (lv' := [(5, .int 5000), (4, .int 100), (3, .int 0), (2, .int 9), (0, .ref (x 0)), (1, .int 1)]) hx hb dL_refusesAny_250 hl (by decide) rfl (fun ls hl => ?_)
  refine lv_aload_n hx hb dL_refusesAny_252 rfl (lv_at hl 4 rfl) ?_
  refine lv_iload_n hx hb dL_refusesAny_253 rfl (lv_at hl 2 rfl) ?_
  refine lv_iload_n hx hb dL_refusesAny_254 rfl (lv_at hl 5 rfl) ?_
  refine lv_if_ne (tgt := 265) hx hb dL_refusesAny_255 (by decide) (fun _ => ?_) (fun c => absurd c (by decide))
  refine lv_iload hx hb dL_refusesAny_265 (lv_at hl 0 rfl) ?_
  refine lv_iconst (v := 1) hx hb dL_refusesAny_267 (by decide) ?_
  refine lv_iadd hx hb dL_refusesAny_268 ?_
  refine g_topE (y := 5001) (by decide) ?_
  obtain ⟨k3, hok⟩ := hok
  refine g_callZ (cr_setB l G z x cx o st b pf g hh 0 5001 k3) hx hb hml hown hts hK hP hD hS hA hZ gL_refusesAny_X6_set rfl (n := 2) (by decide +kernel) rfl ⟨Nat.le_of_ble_eq_true rfl, Nat.le_of_ble_eq_true rfl⟩ [0, 1, 2, 3, 4, 5, 11] rfl (by decide) 0 rfl (ci := 6) rfl hl.1 rfl (Nat.le_of_ble_eq_true rfl) ⟨Nat.zero_le _, Nat.zero_le _⟩ dL_refusesAny_269 (fun H locs hP hD hS => ?_)
  have hP : va_P G.1 vwCl (List.flatten [CW G x cx, OW G (fun k => x (k + 1)) o, AW G (x 2) 9 st, BW G (fun k => x (k + 3)) b, PW G (fun k => x (k + 11)) pf, LW G (fun k => x (k + 16)) g, OW G (fun k => x (k + 20)) fo, AW G (x 21) 9 fst, BW G (fun k => x (k + 22)) fb, PW G (fun k => x (k + 30)) fp, LW G (fun k => x (k + 35)) fg, HGW G (fun k => x (k + 58)) hh, TW G (fun k => x (k + 136)) t]) H := hP
  have hD : va_D A (List.flatten [CW G x cx, OW G (fun k => x (k + 1)) o, AW G (x 2) 9 st, BW G (fun k => x (k + 3)) b, PW G (fun k => x (k + 11)) pf, LW G (fun k => x (k + 16)) g, OW G (fun k => x (k + 20)) fo, AW G (x 21) 9 fst, BW G (fun k => x (k + 22)) fb, PW G (fun k => x (k + 30)) fp, LW G (fun k => x (k + 35)) fg, HGW G (fun k => x (k + 58)) hh, TW G (fun k => x (k + 136)) t]) := hD
  refine lv_bipush (v := (-2)) hx hb dL_refusesAny_272 (by decide) ?_
  refine lv_icmp_ne (tgt := 296) hx hb dL_refusesAny_274 (by decide) (fun c => absurd c (by decide)) (fun _ => ?_)
  refine lv_aload_n hx hb dL_refusesAny_277 rfl (lv_at hl 4 rfl) ?_
  refine lv_iload_n hx hb dL_refusesAny_278 rfl (lv_at hl 2 rfl) ?_
  refine lv_aload_n hx hb dL_refusesAny_279 rfl (lv_at hl 4 rfl) ?_
  refine lv_iload_n hx hb dL_refusesAny_280 rfl (lv_at hl 2 rfl) ?_
  obtain ⟨k4, hok⟩ := hok
  refine g_callV (cr_settingV l G x cx o st b pf g 0 k4) hx hb hml hown hts hK hP hD hS hA gL_refusesAny_X6_setting rfl (n := 1) (by decide +kernel) rfl ⟨Nat.le_of_ble_eq_true rfl, Nat.le_of_ble_eq_true rfl⟩ [0, 1, 2, 3, 4, 5] rfl (by decide) 0 rfl (ci := 6) rfl hl.1 rfl (Nat.le_of_ble_eq_true rfl) ⟨Nat.zero_le _, Nat.zero_le _⟩ dL_refusesAny_281 (fun H locs hP hD hS => ?_)
  have hP : va_P G.1 vwCl (List.flatten [CW G x cx, OW G (fun k => x (k + 1)) o, AW G (x 2) 9 st, BW G (fun k => x (k + 3)) b, PW G (fun k => x (k + 11)) pf, LW G (fun k => x (k + 16)) g, OW G (fun k => x (k + 20)) fo, AW G (x 21) 9 fst, BW G (fun k => x (k + 22)) fb, PW G (fun k => x (k + 30)) fp, LW G (fun k => x (k + 35)) fg, HGW G (fun k => x (k + 58)) hh, TW G (fun k => x (k + 136)) t]) H := hP
  have hD : va_D A (List.flatten [CW G x cx, OW G (fun k => x (k + 1)) o, AW G (x 2) 9 st, BW G (fun k => x (k + 3)) b, PW G (fun k => x (k + 11)) pf, LW G (fun k => x (k + 16)) g, OW G (fun k => x (k + 20)) fo, AW G (x 21) 9 fst, BW G (fun k => x (k + 22)) fb, PW G (fun k => x (k + 30)) fp, LW G (fun k => x (k + 35)) fg, HGW G (fun k => x (k + 58)) hh, TW G (fun k => x (k + 136)) t]) := hD
  refine lv_sipush (v := 1000) hx hb dL_refusesAny_284 (by decide) ?_
  refine lv_isub hx hb dL_refusesAny_287 ?_
  obtain ⟨k5, hok⟩ := hok
  refine g_callZ (cr_setN l G z x cx o st b pf g hh 0 ((st (0 : Int32).toNatClampNeg + 1000) - 1000) k5) hx hb hml hown hts hK hP hD hS hA hZ gL_refusesAny_X6_set rfl (n := 2) (by decide +kernel) rfl ⟨Nat.le_of_ble_eq_true rfl, Nat.le_of_ble_eq_true rfl⟩ [0, 1, 2, 3, 4, 5, 11] rfl (by decide) 0 rfl (ci := 6) rfl hl.1 rfl (Nat.le_of_ble_eq_true rfl) ⟨Nat.zero_le _, Nat.zero_le _⟩ dL_refusesAny_288 (fun H locs hP hD hS => ?_)
  have hP : va_P G.1 vwCl (List.flatten [CW G x cx, OW G (fun k => x (k + 1)) o, AW G (x 2) 9 st, BW G (fun k => x (k + 3)) b, PW G (fun k => x (k + 11)) pf, LW G (fun k => x (k + 16)) g, OW G (fun k => x (k + 20)) fo, AW G (x 21) 9 fst, BW G (fun k => x (k + 22)) fb, PW G (fun k => x (k + 30)) fp, LW G (fun k => x (k + 35)) fg, HGW G (fun k => x (k + 58)) hh, TW G (fun k => x (k + 136)) t]) H := hP
  have hD : va_D A (List.flatten [CW G x cx, OW G (fun k => x (k + 1)) o, AW G (x 2) 9 st, BW G (fun k => x (k + 3)) b, PW G (fun k => x (k + 11)) pf, LW G (fun k => x (k + 16)) g, OW G (fun k => x (k + 20)) fo, AW G (x 21) 9 fst, BW G (fun k => x (k + 22)) fb, PW G (fun k => x (k + 30)) fp, LW G (fun k => x (k + 35)) fg, HGW G (fun k => x (k + 58)) hh, TW G (fun k => x (k + 136)) t]) := hD
  refine lv_bipush (v := (-5)) hx hb dL_refusesAny_291 (by decide) ?_
  refine lv_icmp_eq (tgt := 298) hx hb dL_refusesAny_293 (by decide) (fun _ => ?_) (fun c => absurd c (by decide))
  refine lv_iinc (v := 1) (lv' := [(3, .int 1), (5, .int 5000), (4, .int 100), (2, .int 9), (0, .ref (x 0)), (1, .int 1)]) hx hb dL_refusesAny_298 hl (k := 2) rfl (by decide) (by decide) rfl (fun ls hl => ?_)
  refine lv_goto (tgt := 135) hx hb dL_refusesAny_301 (by decide) ?_
  refine lv_iload_n hx hb dL_refusesAny_135 rfl (lv_at hl 0 rfl) ?_
  refine lv_bipush (v := 9) hx hb dL_refusesAny_136 (by decide) ?_
  refine lv_icmp_ge (tgt := 304) hx hb dL_refusesAny_138 (by decide) (fun c => absurd c (by decide)) (fun _ => ?_)
  refine lv_iload_n hx hb dL_refusesAny_141 rfl (lv_at hl 0 rfl) ?_
  refine lv_if_ne (tgt := 150) hx hb dL_refusesAny_142 (by decide) (fun _ => ?_) (fun c => absurd c (by decide))
  refine lv_iload_n hx hb dL_refusesAny_150 rfl (lv_at hl 0 rfl) ?_
  refine lv_iconst (v := 2) hx hb dL_refusesAny_151 (by decide) ?_
  refine lv_icmp_ne (tgt := 160) hx hb dL_refusesAny_152 (by decide) (fun _ => ?_) (fun c => absurd c (by decide))
  refine lv_iload_n hx hb dL_refusesAny_160 rfl (lv_at hl 0 rfl) ?_
  refine lv_iconst (v := 3) hx hb dL_refusesAny_161 (by decide) ?_
  refine lv_icmp_eq (tgt := 176) hx hb dL_refusesAny_162 (by decide) (fun c => absurd c (by decide)) (fun _ => ?_)
  refine lv_iload_n hx hb dL_refusesAny_165 rfl (lv_at hl 0 rfl) ?_
  refine lv_iconst (v := 5) hx hb dL_refusesAny_166 (by decide) ?_
  refine lv_icmp_eq (tgt := 176) hx hb dL_refusesAny_167 (by decide) (fun c => absurd c (by decide)) (fun _ => ?_)
  refine lv_iload_n hx hb dL_refusesAny_170 rfl (lv_at hl 0 rfl) ?_
  refine lv_bipush (v := 6) hx hb dL_refusesAny_171 (by decide) ?_
  refine lv_icmp_ne (tgt := 181) hx hb dL_refusesAny_173 (by decide) (fun _ => ?_) (fun c => absurd c (by decide))
  refine lv_iconst (v := 0) hx hb dL_refusesAny_181 (by decide) ?_
  refine lv_istore (lv' := [(4, .int 0), (3, .int 1), (5, .int 5000), (2, .int 9), (0, .ref (x 0)), (1, .int 1)]) hx hb dL_refusesAny_182 hl (by decide) rfl (fun ls hl => ?_)
  refine lv_iload_n hx hb dL_refusesAny_184 rfl (lv_at hl 1 rfl) ?_
  refine lv_if_ne (tgt := 194) hx hb dL_refusesAny_185 (by decide) (fun _ => ?_) (fun c => absurd c (by decide))
  refine lv_iload_n hx hb dL_refusesAny_194 rfl (lv_at hl 1 rfl) ?_
  refine lv_iconst (v := 1) hx hb dL_refusesAny_195 (by decide) ?_
  refine lv_icmp_ne (tgt := 205) hx hb dL_refusesAny_196 (by decide) (fun c => absurd c (by decide)) (fun _ => ?_)
  refine lv_sipush (v := 200) hx hb dL_refusesAny_199 (by decide) ?_
  refine lv_goto (tgt := 250) hx hb dL_refusesAny_202 (by decide) ?_
  refine lv_istore (lv' := [(5, .int 200), (4, .int 0), (3, .int 1), (2, .int 9), (0, .ref (x 0)), (1, .int 1)]) hx hb dL_refusesAny_250 hl (by decide) rfl (fun ls hl => ?_)
  refine lv_aload_n hx hb dL_refusesAny_252 rfl (lv_at hl 4 rfl) ?_
  refine lv_iload_n hx hb dL_refusesAny_253 rfl (lv_at hl 2 rfl) ?_
  refine lv_iload_n hx hb dL_refusesAny_254 rfl (lv_at hl 5 rfl) ?_
  refine lv_if_ne (tgt := 265) hx hb dL_refusesAny_255 (by decide) (fun _ => ?_) (fun c => absurd c (by decide))
  refine lv_iload hx hb dL_refusesAny_265 (lv_at hl 0 rfl) ?_
  refine lv_iconst (v := 1) hx hb dL_refusesAny_267 (by decide) ?_
  refine lv_iadd hx hb dL_refusesAny_268 ?_
  refine g_topE (y := 201) (by decide) ?_
  obtain ⟨k6, hok⟩ := hok
  refine g_callZ (cr_setB l G z x cx o st b pf g hh 1 201 k6) hx hb hml hown hts hK hP hD hS hA hZ gL_refusesAny_X6_set rfl (n := 2) (by decide +kernel) rfl ⟨Nat.le_of_ble_eq_true rfl, Nat.le_of_ble_eq_true rfl⟩ [0, 1, 2, 3, 4, 5, 11] rfl (by decide) 0 rfl (ci := 6) rfl hl.1 rfl (Nat.le_of_ble_eq_true rfl) ⟨Nat.zero_le _, Nat.zero_le _⟩ dL_refusesAny_269 (fun H locs hP hD hS => ?_)
  have hP : va_P G.1 vwCl (List.flatten [CW G x cx, OW G (fun k => x (k + 1)) o, AW G (x 2) 9 st, BW G (fun k => x (k + 3)) b, PW G (fun k => x (k + 11)) pf, LW G (fun k => x (k + 16)) g, OW G (fun k => x (k + 20)) fo, AW G (x 21) 9 fst, BW G (fun k => x (k + 22)) fb, PW G (fun k => x (k + 30)) fp, LW G (fun k => x (k + 35)) fg, HGW G (fun k => x (k + 58)) hh, TW G (fun k => x (k + 136)) t]) H := hP
  have hD : va_D A (List.flatten [CW G x cx, OW G (fun k => x (k + 1)) o, AW G (x 2) 9 st, BW G (fun k => x (k + 3)) b, PW G (fun k => x (k + 11)) pf, LW G (fun k => x (k + 16)) g, OW G (fun k => x (k + 20)) fo, AW G (x 21) 9 fst, BW G (fun k => x (k + 22)) fb, PW G (fun k => x (k + 30)) fp, LW G (fun k => x (k + 35)) fg, HGW G (fun k => x (k + 58)) hh, TW G (fun k => x (k + 136)) t]) := hD
  refine lv_bipush (v := (-2)) hx hb dL_refusesAny_272 (by decide) ?_
  refine lv_icmp_ne (tgt := 296) hx hb dL_refusesAny_274 (by decide) (fun c => absurd c (by decide)) (fun _ => ?_)
  exact c_L_refusesAny1_2 l G z x cx o st b pf g fo fst fb fp fg hh t hx hb hml hr hts hown hlocks hK hA hZ hok hP hD hS (lv_sub hl [0, 1, 2, 3, 4, 5] rfl)
set_option maxHeartbeats 4000000 in
set_option maxRecDepth 100000 in
theorem c_L_refusesAny1 (l : Launch) (G : gG) (z : Nat × Nat × Nat) (x : Nat → Nat) (cx : (Nat → Int32)) (o : (Nat → Int32)) (st : (Nat → Int32)) (b : (Nat → Nat → Int32)) (pf : (Nat → Nat → Int32)) (g : (Nat → Nat → Int32)) (fo : (Nat → Int32)) (fst : (Nat → Int32)) (fb : (Nat → Nat → Int32)) (fp : (Nat → Nat → Int32)) (fg : (Nat → Nat → Int32)) (hh : HVal) (t : (Nat → Nat → Int32)) (hok : ok_L_refusesAny1 o st b pf g fo fst fb fp fg hh) : CTZ z l G yL_refusesAny wsL_refusesAny 8 164 [.ref (x 0), .int 1] [CW G x cx, OW G (fun k => x (k + 1)) o, AW G (x 2) 9 st, BW G (fun k => x (k + 3)) b, PW G (fun k => x (k + 11)) pf, LW G (fun k => x (k + 16)) g, OW G (fun k => x (k + 20)) fo, AW G (x 21) 9 fst, BW G (fun k => x (k + 22)) fb, PW G (fun k => x (k + 30)) fp, LW G (fun k => x (k + 35)) fg, HGW G (fun k => x (k + 58)) hh, TW G (fun k => x (k + 136)) t] (some (.int 1)) [CW G x cx, OW G (fun k => x (k + 1)) o, AW G (x 2) 9 st, BW G (fun k => x (k + 3)) b, PW G (fun k => x (k + 11)) pf, LW G (fun k => x (k + 16)) g, OW G (fun k => x (k + 20)) fo, AW G (x 21) 9 fst, BW G (fun k => x (k + 22)) fb, PW G (fun k => x (k + 30)) fp, LW G (fun k => x (k + 35)) fg, HGW G (fun k => x (k + 58)) hh, TW G (fun k => x (k + 136)) t] := by
  unfold ok_L_refusesAny1 at hok
  refine CTZ.of (cc := cL_refusesAny) (maxL := 6) (ret := (some .boolean)) (plainFor_of_name (by decide +kernel)) rfl rfl (Nat.le_of_ble_eq_true rfl) ?_
  intro p e s m below meth c A ls hx hb hml hr hts hown hlocks hK hP hD hA hS hl hZ
  have hown : s.vm.findClass RL = some m.cls := hown
  have hl : lv_has ls 6 [(0, .ref (x 0)), (1, .int 1)] := hl
  refine lv_iload_n hx hb dL_refusesAny_0 rfl (lv_at hl 1 rfl) ?_
  refine lv_if_ne (tgt := 8) hx hb dL_refusesAny_1 (by decide) (fun _ => ?_) (fun c => absurd c (by decide))
  refine lv_bipush (v := 9) hx hb dL_refusesAny_8 (by decide) ?_
  refine lv_istore_n (lv' := [(2, .int 9), (0, .ref (x 0)), (1, .int 1)]) hx hb dL_refusesAny_10 rfl hl (by decide) rfl (fun ls hl => ?_)
  refine lv_aload_n hx hb dL_refusesAny_11 rfl (lv_at hl 1 rfl) ?_
  refine lv_iload_n hx hb dL_refusesAny_12 rfl (lv_at hl 2 rfl) ?_
  refine lv_if_ne (tgt := 20) hx hb dL_refusesAny_13 (by decide) (fun _ => ?_) (fun c => absurd c (by decide))
  refine lv_bipush (v := 7) hx hb dL_refusesAny_20 (by decide) ?_
  obtain ⟨k1, hok⟩ := hok
  refine g_callV (cr_battery l G x cx o st b pf g hh 7 k1) hx hb hml hown hts hK hP hD hS hA gL_refusesAny_X6_battery rfl (n := 1) (by decide +kernel) rfl ⟨Nat.le_of_ble_eq_true rfl, Nat.le_of_ble_eq_true rfl⟩ [0, 1, 2, 3, 4, 5, 11] rfl (by decide) 0 rfl (ci := 6) rfl hl.1 rfl (Nat.le_of_ble_eq_true rfl) ⟨Nat.zero_le _, Nat.zero_le _⟩ dL_refusesAny_22 (fun H locs hP hD hS => ?_)
  have hP : va_P G.1 vwCl (List.flatten [CW G x cx, OW G (fun k => x (k + 1)) o, AW G (x 2) 9 st, BW G (fun k => x (k + 3)) b, PW G (fun k => x (k + 11)) pf, LW G (fun k => x (k + 16)) g, OW G (fun k => x (k + 20)) fo, AW G (x 21) 9 fst, BW G (fun k => x (k + 22)) fb, PW G (fun k => x (k + 30)) fp, LW G (fun k => x (k + 35)) fg, HGW G (fun k => x (k + 58)) hh, TW G (fun k => x (k + 136)) t]) H := hP
  have hD : va_D A (List.flatten [CW G x cx, OW G (fun k => x (k + 1)) o, AW G (x 2) 9 st, BW G (fun k => x (k + 3)) b, PW G (fun k => x (k + 11)) pf, LW G (fun k => x (k + 16)) g, OW G (fun k => x (k + 20)) fo, AW G (x 21) 9 fst, BW G (fun k => x (k + 22)) fb, PW G (fun k => x (k + 30)) fp, LW G (fun k => x (k + 35)) fg, HGW G (fun k => x (k + 58)) hh, TW G (fun k => x (k + 136)) t]) := hD
  refine lv_bipush (v := (-2)) hx hb dL_refusesAny_25 (by decide) ?_
  refine lv_icmp_ne (tgt := 131) hx hb dL_refusesAny_27 (by decide) (fun c => absurd c (by decide)) (fun _ => ?_)
  refine lv_aload_n hx hb dL_refusesAny_30 rfl (lv_at hl 1 rfl) ?_
  refine lv_iload_n hx hb dL_refusesAny_31 rfl (lv_at hl 2 rfl) ?_
  refine lv_if_ne (tgt := 39) hx hb dL_refusesAny_32 (by decide) (fun _ => ?_) (fun c => absurd c (by decide))
  refine lv_aload_n hx hb dL_refusesAny_39 rfl (lv_at hl 1 rfl) ?_
  refine lv_iconst (v := 1) hx hb dL_refusesAny_40 (by decide) ?_
  obtain ⟨k2, hok⟩ := hok
  refine g_callV (cr_count1 l G x cx o st b pf g hh t k2) hx hb hml hown hts hK hP hD hS hA gL_refusesAny_X6_count rfl (n := 1) (by decide +kernel) rfl ⟨Nat.le_of_ble_eq_true rfl, Nat.le_of_ble_eq_true rfl⟩ [0, 1, 2, 3, 4, 5, 11, 12] rfl (by decide) 0 rfl (ci := 6) rfl hl.1 rfl (Nat.le_of_ble_eq_true rfl) ⟨Nat.zero_le _, Nat.zero_le _⟩ dL_refusesAny_41 (fun H locs hP hD hS => ?_)
  have hP : va_P G.1 vwCl (List.flatten [CW G x cx, OW G (fun k => x (k + 1)) o, AW G (x 2) 9 st, BW G (fun k => x (k + 3)) b, PW G (fun k => x (k + 11)) pf, LW G (fun k => x (k + 16)) g, OW G (fun k => x (k + 20)) fo, AW G (x 21) 9 fst, BW G (fun k => x (k + 22)) fb, PW G (fun k => x (k + 30)) fp, LW G (fun k => x (k + 35)) fg, HGW G (fun k => x (k + 58)) hh, TW G (fun k => x (k + 136)) t]) H := hP
  have hD : va_D A (List.flatten [CW G x cx, OW G (fun k => x (k + 1)) o, AW G (x 2) 9 st, BW G (fun k => x (k + 3)) b, PW G (fun k => x (k + 11)) pf, LW G (fun k => x (k + 16)) g, OW G (fun k => x (k + 20)) fo, AW G (x 21) 9 fst, BW G (fun k => x (k + 22)) fb, PW G (fun k => x (k + 30)) fp, LW G (fun k => x (k + 35)) fg, HGW G (fun k => x (k + 58)) hh, TW G (fun k => x (k + 136)) t]) := hD
  refine lv_iconst (v := (-1)) hx hb dL_refusesAny_44 (by decide) ?_
  obtain ⟨k3, hok⟩ := hok
  refine g_callV (cr_setChargeU l G x cx o st b pf g hh (b 0 0) (-1) k3) hx hb hml hown hts hK hP hD hS hA gL_refusesAny_X6_setCharge rfl (n := 2) (by decide +kernel) rfl ⟨Nat.le_of_ble_eq_true rfl, Nat.le_of_ble_eq_true rfl⟩ [0, 1, 2, 3, 4, 5, 11] rfl (by decide) 0 rfl (ci := 6) rfl hl.1 rfl (Nat.le_of_ble_eq_true rfl) ⟨Nat.zero_le _, Nat.zero_le _⟩ dL_refusesAny_45 (fun H locs hP hD hS => ?_)
  have hP : va_P G.1 vwCl (List.flatten [CW G x cx, OW G (fun k => x (k + 1)) o, AW G (x 2) 9 st, BW G (fun k => x (k + 3)) b, PW G (fun k => x (k + 11)) pf, LW G (fun k => x (k + 16)) g, OW G (fun k => x (k + 20)) fo, AW G (x 21) 9 fst, BW G (fun k => x (k + 22)) fb, PW G (fun k => x (k + 30)) fp, LW G (fun k => x (k + 35)) fg, HGW G (fun k => x (k + 58)) hh, TW G (fun k => x (k + 136)) t]) H := hP
  have hD : va_D A (List.flatten [CW G x cx, OW G (fun k => x (k + 1)) o, AW G (x 2) 9 st, BW G (fun k => x (k + 3)) b, PW G (fun k => x (k + 11)) pf, LW G (fun k => x (k + 16)) g, OW G (fun k => x (k + 20)) fo, AW G (x 21) 9 fst, BW G (fun k => x (k + 22)) fb, PW G (fun k => x (k + 30)) fp, LW G (fun k => x (k + 35)) fg, HGW G (fun k => x (k + 58)) hh, TW G (fun k => x (k + 136)) t]) := hD
  refine lv_iconst (v := (-1)) hx hb dL_refusesAny_48 (by decide) ?_
  refine lv_icmp_ne (tgt := 131) hx hb dL_refusesAny_49 (by decide) (fun c => absurd c (by decide)) (fun _ => ?_)
  refine lv_aload_n hx hb dL_refusesAny_52 rfl (lv_at hl 1 rfl) ?_
  refine lv_iconst (v := 0) hx hb dL_refusesAny_53 (by decide) ?_
  refine lv_iload_n hx hb dL_refusesAny_54 rfl (lv_at hl 2 rfl) ?_
  refine lv_if_ne (tgt := 62) hx hb dL_refusesAny_55 (by decide) (fun _ => ?_) (fun c => absurd c (by decide))
  refine lv_aload_n hx hb dL_refusesAny_62 rfl (lv_at hl 1 rfl) ?_
  refine lv_iconst (v := 0) hx hb dL_refusesAny_63 (by decide) ?_
  obtain ⟨k4, hok⟩ := hok
  refine g_callV (cr_settingV l G x cx o st b pf g 0 k4) hx hb hml hown hts hK hP hD hS hA gL_refusesAny_X6_setting rfl (n := 1) (by decide +kernel) rfl ⟨Nat.le_of_ble_eq_true rfl, Nat.le_of_ble_eq_true rfl⟩ [0, 1, 2, 3, 4, 5] rfl (by decide) 0 rfl (ci := 6) rfl hl.1 rfl (Nat.le_of_ble_eq_true rfl) ⟨Nat.zero_le _, Nat.zero_le _⟩ dL_refusesAny_64 (fun H locs hP hD hS => ?_)
  have hP : va_P G.1 vwCl (List.flatten [CW G x cx, OW G (fun k => x (k + 1)) o, AW G (x 2) 9 st, BW G (fun k => x (k + 3)) b, PW G (fun k => x (k + 11)) pf, LW G (fun k => x (k + 16)) g, OW G (fun k => x (k + 20)) fo, AW G (x 21) 9 fst, BW G (fun k => x (k + 22)) fb, PW G (fun k => x (k + 30)) fp, LW G (fun k => x (k + 35)) fg, HGW G (fun k => x (k + 58)) hh, TW G (fun k => x (k + 136)) t]) H := hP
  have hD : va_D A (List.flatten [CW G x cx, OW G (fun k => x (k + 1)) o, AW G (x 2) 9 st, BW G (fun k => x (k + 3)) b, PW G (fun k => x (k + 11)) pf, LW G (fun k => x (k + 16)) g, OW G (fun k => x (k + 20)) fo, AW G (x 21) 9 fst, BW G (fun k => x (k + 22)) fb, PW G (fun k => x (k + 30)) fp, LW G (fun k => x (k + 35)) fg, HGW G (fun k => x (k + 58)) hh, TW G (fun k => x (k + 136)) t]) := hD
  refine lv_sipush (v := 999) hx hb dL_refusesAny_67 (by decide) ?_
  refine lv_isub hx hb dL_refusesAny_70 ?_
  obtain ⟨k5, hok⟩ := hok
  refine g_callV (cr_setChargeB l G x cx o st b pf g hh 0 ((st (0 : Int32).toNatClampNeg + 1000) - 999) k5) hx hb hml hown hts hK hP hD hS hA gL_refusesAny_X6_setCharge rfl (n := 2) (by decide +kernel) rfl ⟨Nat.le_of_ble_eq_true rfl, Nat.le_of_ble_eq_true rfl⟩ [0, 1, 2, 3, 4, 5, 11] rfl (by decide) 0 rfl (ci := 6) rfl hl.1 rfl (Nat.le_of_ble_eq_true rfl) ⟨Nat.zero_le _, Nat.zero_le _⟩ dL_refusesAny_71 (fun H locs hP hD hS => ?_)
  have hP : va_P G.1 vwCl (List.flatten [CW G x cx, OW G (fun k => x (k + 1)) o, AW G (x 2) 9 st, BW G (fun k => x (k + 3)) b, PW G (fun k => x (k + 11)) pf, LW G (fun k => x (k + 16)) g, OW G (fun k => x (k + 20)) fo, AW G (x 21) 9 fst, BW G (fun k => x (k + 22)) fb, PW G (fun k => x (k + 30)) fp, LW G (fun k => x (k + 35)) fg, HGW G (fun k => x (k + 58)) hh, TW G (fun k => x (k + 136)) t]) H := hP
  have hD : va_D A (List.flatten [CW G x cx, OW G (fun k => x (k + 1)) o, AW G (x 2) 9 st, BW G (fun k => x (k + 3)) b, PW G (fun k => x (k + 11)) pf, LW G (fun k => x (k + 16)) g, OW G (fun k => x (k + 20)) fo, AW G (x 21) 9 fst, BW G (fun k => x (k + 22)) fb, PW G (fun k => x (k + 30)) fp, LW G (fun k => x (k + 35)) fg, HGW G (fun k => x (k + 58)) hh, TW G (fun k => x (k + 136)) t]) := hD
  refine lv_bipush (v := (-2)) hx hb dL_refusesAny_74 (by decide) ?_
  refine lv_icmp_ne (tgt := 131) hx hb dL_refusesAny_76 (by decide) (fun c => absurd c (by decide)) (fun _ => ?_)
  refine lv_aload_n hx hb dL_refusesAny_79 rfl (lv_at hl 1 rfl) ?_
  refine lv_iload_n hx hb dL_refusesAny_80 rfl (lv_at hl 2 rfl) ?_
  refine lv_if_ne (tgt := 88) hx hb dL_refusesAny_81 (by decide) (fun _ => ?_) (fun c => absurd c (by decide))
  refine lv_sipush (v := 5001) hx hb dL_refusesAny_88 (by decide) ?_
  obtain ⟨k6, hok⟩ := hok
  refine g_callV (cr_use l G x cx o st b pf g hh 5001 k6) hx hb hml hown hts hK hP hD hS hA gL_refusesAny_X6_use rfl (n := 1) (by decide +kernel) rfl ⟨Nat.le_of_ble_eq_true rfl, Nat.le_of_ble_eq_true rfl⟩ [0, 1, 2, 3, 4, 5, 11] rfl (by decide) 0 rfl (ci := 6) rfl hl.1 rfl (Nat.le_of_ble_eq_true rfl) ⟨Nat.zero_le _, Nat.zero_le _⟩ dL_refusesAny_91 (fun H locs hP hD hS => ?_)
  have hP : va_P G.1 vwCl (List.flatten [CW G x cx, OW G (fun k => x (k + 1)) o, AW G (x 2) 9 st, BW G (fun k => x (k + 3)) b, PW G (fun k => x (k + 11)) pf, LW G (fun k => x (k + 16)) g, OW G (fun k => x (k + 20)) fo, AW G (x 21) 9 fst, BW G (fun k => x (k + 22)) fb, PW G (fun k => x (k + 30)) fp, LW G (fun k => x (k + 35)) fg, HGW G (fun k => x (k + 58)) hh, TW G (fun k => x (k + 136)) t]) H := hP
  have hD : va_D A (List.flatten [CW G x cx, OW G (fun k => x (k + 1)) o, AW G (x 2) 9 st, BW G (fun k => x (k + 3)) b, PW G (fun k => x (k + 11)) pf, LW G (fun k => x (k + 16)) g, OW G (fun k => x (k + 20)) fo, AW G (x 21) 9 fst, BW G (fun k => x (k + 22)) fb, PW G (fun k => x (k + 30)) fp, LW G (fun k => x (k + 35)) fg, HGW G (fun k => x (k + 58)) hh, TW G (fun k => x (k + 136)) t]) := hD
  refine lv_bipush (v := (-2)) hx hb dL_refusesAny_94 (by decide) ?_
  refine lv_icmp_ne (tgt := 131) hx hb dL_refusesAny_96 (by decide) (fun c => absurd c (by decide)) (fun _ => ?_)
  exact c_L_refusesAny1_1 l G z x cx o st b pf g fo fst fb fp fg hh t hx hb hml hr hts hown hlocks hK hA hZ hok hP hD hS (lv_sub hl [0, 1, 2] rfl)
def f_L_refused (o : (Nat → Int32)) (st : (Nat → Int32)) (b : (Nat → Nat → Int32)) (pf : (Nat → Nat → Int32)) (g : (Nat → Nat → Int32)) (fo : (Nat → Int32)) (fst : (Nat → Int32)) (fb : (Nat → Nat → Int32)) (fp : (Nat → Nat → Int32)) (fg : (Nat → Nat → Int32)) (hh : HVal) (t : (Nat → Nat → Int32)) : Int32 × (Nat → Int32) × (Nat → Int32) × (Nat → Nat → Int32) × (Nat → Nat → Int32) × (Nat → Nat → Int32) := (gL (f_L_seen o st b pf g fo fst fb fp fg hh t) (fun (R1 : Int64 × (Nat → Int32) × (Nat → Int32) × (Nat → Nat → Int32) × (Nat → Nat → Int32) × (Nat → Nat → Int32)) => (gL (R1.1) (fun (v3 : Int64) => (gL ((nI hh.1)) (fun (v5 : Int32) => (gL ((t 0 0)) (fun (v7 : Int32) => (gL (f_L_seen o st b pf g R1.2.1 R1.2.2.1 R1.2.2.2.1 R1.2.2.2.2.1 R1.2.2.2.2.2 hh t) (fun (R10 : Int64 × (Nat → Int32) × (Nat → Int32) × (Nat → Nat → Int32) × (Nat → Nat → Int32) × (Nat → Nat → Int32)) => (if (lg_cmp R10.1 v3) = 0 then (if (nI hh.1) = v5 then (if (t 0 0) = v7 then (1, R10.2.1, R10.2.2.1, R10.2.2.2.1, R10.2.2.2.2.1, R10.2.2.2.2.2) else (0, R10.2.1, R10.2.2.1, R10.2.2.2.1, R10.2.2.2.2.1, R10.2.2.2.2.2)) else (0, R10.2.1, R10.2.2.1, R10.2.2.2.1, R10.2.2.2.2.1, R10.2.2.2.2.2)) else (0, R10.2.1, R10.2.2.1, R10.2.2.2.1, R10.2.2.2.2.1, R10.2.2.2.2.2))))))))))))
def ok_L_refused (o : (Nat → Int32)) (st : (Nat → Int32)) (b : (Nat → Nat → Int32)) (pf : (Nat → Nat → Int32)) (g : (Nat → Nat → Int32)) (fo : (Nat → Int32)) (fst : (Nat → Int32)) (fb : (Nat → Nat → Int32)) (fp : (Nat → Nat → Int32)) (fg : (Nat → Nat → Int32)) (hh : HVal) (t : (Nat → Nat → Int32)) : Prop := (ok_L_seen o st b pf g hh t) ∧ (gL (f_L_seen o st b pf g fo fst fb fp fg hh t) (fun (R1 : Int64 × (Nat → Int32) × (Nat → Int32) × (Nat → Nat → Int32) × (Nat → Nat → Int32) × (Nat → Nat → Int32)) => (gL (R1.1) (fun (v3 : Int64) => (rok_count12 b) ∧ (gL ((nI hh.1)) (fun (v5 : Int32) => (rok_count13 b) ∧ (gL ((t 0 0)) (fun (v7 : Int32) => (ok_L_refusesAny0 o st b pf g R1.2.1 R1.2.2.1 R1.2.2.2.1 R1.2.2.2.2.1 R1.2.2.2.2.2 hh) ∧ (ok_L_refusesAny1 o st b pf g R1.2.1 R1.2.2.1 R1.2.2.2.1 R1.2.2.2.2.1 R1.2.2.2.2.2 hh) ∧ (ok_L_seen o st b pf g hh t) ∧ (gL (f_L_seen o st b pf g R1.2.1 R1.2.2.1 R1.2.2.2.1 R1.2.2.2.2.1 R1.2.2.2.2.2 hh t) (fun (R10 : Int64 × (Nat → Int32) × (Nat → Int32) × (Nat → Nat → Int32) × (Nat → Nat → Int32) × (Nat → Nat → Int32)) => (((lg_cmp R10.1 v3) = 0 → (rok_count12 b) ∧ (((nI hh.1) = v5 → (rok_count13 b) ∧ True) ∧ (¬ (nI hh.1) = v5 → True))) ∧ (¬ (lg_cmp R10.1 v3) = 0 → True))))))))))))
set_option maxHeartbeats 4000000 in
set_option maxRecDepth 100000 in
theorem c_L_refused (l : Launch) (G : gG) (z : Nat × Nat × Nat) (x : Nat → Nat) (cx : (Nat → Int32)) (o : (Nat → Int32)) (st : (Nat → Int32)) (b : (Nat → Nat → Int32)) (pf : (Nat → Nat → Int32)) (g : (Nat → Nat → Int32)) (fo : (Nat → Int32)) (fst : (Nat → Int32)) (fb : (Nat → Nat → Int32)) (fp : (Nat → Nat → Int32)) (fg : (Nat → Nat → Int32)) (hh : HVal) (t : (Nat → Nat → Int32)) (R : Int32 × (Nat → Int32) × (Nat → Int32) × (Nat → Nat → Int32) × (Nat → Nat → Int32) × (Nat → Nat → Int32)) (hR : R = f_L_refused o st b pf g fo fst fb fp fg hh t) (hok : ok_L_refused o st b pf g fo fst fb fp fg hh t) : CTZ z l G yL_refused wsL_refused 9 189 [.ref (x 0)] [CW G x cx, OW G (fun k => x (k + 1)) o, AW G (x 2) 9 st, BW G (fun k => x (k + 3)) b, PW G (fun k => x (k + 11)) pf, LW G (fun k => x (k + 16)) g, OW G (fun k => x (k + 20)) fo, AW G (x 21) 9 fst, BW G (fun k => x (k + 22)) fb, PW G (fun k => x (k + 30)) fp, LW G (fun k => x (k + 35)) fg, HGW G (fun k => x (k + 58)) hh, TW G (fun k => x (k + 136)) t] (some (.int R.1)) [CW G x cx, OW G (fun k => x (k + 1)) o, AW G (x 2) 9 st, BW G (fun k => x (k + 3)) b, PW G (fun k => x (k + 11)) pf, LW G (fun k => x (k + 16)) g, OW G (fun k => x (k + 20)) R.2.1, AW G (x 21) 9 R.2.2.1, BW G (fun k => x (k + 22)) R.2.2.2.1, PW G (fun k => x (k + 30)) R.2.2.2.2.1, LW G (fun k => x (k + 35)) R.2.2.2.2.2, HGW G (fun k => x (k + 58)) hh, TW G (fun k => x (k + 136)) t] := by
  unfold f_L_refused at hR
  unfold ok_L_refused at hok
  refine CTZ.of (cc := cL_refused) (maxL := 5) (ret := (some .boolean)) (plainFor_of_name (by decide +kernel)) rfl rfl (Nat.le_of_ble_eq_true rfl) ?_
  intro p e s m below meth c A ls hx hb hml hr hts hown hlocks hK hP hD hA hS hl hZ
  have hown : s.vm.findClass RL = some m.cls := hown
  have hl : lv_has ls 5 [(0, .ref (x 0))] := hl
  refine lv_aload_n hx hb dL_refused_0 rfl (lv_at hl 0 rfl) ?_
  obtain ⟨k2, hok⟩ := hok
  obtain ⟨R1, eR1, hR, hok⟩ := g_let2 hR hok
  refine g_callS (c_L_seen l G x cx o st b pf g fo fst fb fp fg hh t R1 eR1 k2) hx hb hml hown hts hK hP hD hS hA gL_refused_L_seen rfl (n := 1) (by decide +kernel) rfl ⟨Nat.le_of_ble_eq_true rfl, Nat.le_of_ble_eq_true rfl⟩ [0, 1, 2, 3, 4, 5, 6, 7, 8, 9, 10, 11, 12] rfl (by decide) hl.1 rfl (Nat.le_of_ble_eq_true rfl) ⟨Nat.zero_le _, Nat.zero_le _⟩ dL_refused_1 (fun H locs hP hD hS => ?_)
  have hP : va_P G.1 vwCl (List.flatten [CW G x cx, OW G (fun k => x (k + 1)) o, AW G (x 2) 9 st, BW G (fun k => x (k + 3)) b, PW G (fun k => x (k + 11)) pf, LW G (fun k => x (k + 16)) g, OW G (fun k => x (k + 20)) R1.2.1, AW G (x 21) 9 R1.2.2.1, BW G (fun k => x (k + 22)) R1.2.2.2.1, PW G (fun k => x (k + 30)) R1.2.2.2.2.1, LW G (fun k => x (k + 35)) R1.2.2.2.2.2, HGW G (fun k => x (k + 58)) hh, TW G (fun k => x (k + 136)) t]) H := hP
  have hD : va_D A (List.flatten [CW G x cx, OW G (fun k => x (k + 1)) o, AW G (x 2) 9 st, BW G (fun k => x (k + 3)) b, PW G (fun k => x (k + 11)) pf, LW G (fun k => x (k + 16)) g, OW G (fun k => x (k + 20)) R1.2.1, AW G (x 21) 9 R1.2.2.1, BW G (fun k => x (k + 22)) R1.2.2.2.1, PW G (fun k => x (k + 30)) R1.2.2.2.2.1, LW G (fun k => x (k + 35)) R1.2.2.2.2.2, HGW G (fun k => x (k + 58)) hh, TW G (fun k => x (k + 136)) t]) := hD
  obtain ⟨v3, ev3, hR, hok⟩ := g_let2 hR hok
  refine g_topL ev3.symm ?_
  refine lv_lstore_n (lv' := [(1, .long v3), (0, .ref (x 0))]) hx hb dL_refused_4 rfl hl (by decide) rfl (fun ls hl => ?_)
  refine lv_aload_n hx hb dL_refused_5 rfl (lv_at hl 1 rfl) ?_
  refine lv_bipush (v := 12) hx hb dL_refused_6 (by decide) ?_
  obtain ⟨k4, hok⟩ := hok
  refine g_callV (cr_count12 l G x cx o st b pf g hh t k4) hx hb hml hown hts hK hP hD hS hA gL_refused_X6_count rfl (n := 1) (by decide +kernel) rfl ⟨Nat.le_of_ble_eq_true rfl, Nat.le_of_ble_eq_true rfl⟩ [0, 1, 2, 3, 4, 5, 11, 12] rfl (by decide) 0 rfl (ci := 6) rfl hl.1 rfl (Nat.le_of_ble_eq_true rfl) ⟨Nat.zero_le _, Nat.zero_le _⟩ dL_refused_8 (fun H locs hP hD hS => ?_)
  have hP : va_P G.1 vwCl (List.flatten [CW G x cx, OW G (fun k => x (k + 1)) o, AW G (x 2) 9 st, BW G (fun k => x (k + 3)) b, PW G (fun k => x (k + 11)) pf, LW G (fun k => x (k + 16)) g, OW G (fun k => x (k + 20)) R1.2.1, AW G (x 21) 9 R1.2.2.1, BW G (fun k => x (k + 22)) R1.2.2.2.1, PW G (fun k => x (k + 30)) R1.2.2.2.2.1, LW G (fun k => x (k + 35)) R1.2.2.2.2.2, HGW G (fun k => x (k + 58)) hh, TW G (fun k => x (k + 136)) t]) H := hP
  have hD : va_D A (List.flatten [CW G x cx, OW G (fun k => x (k + 1)) o, AW G (x 2) 9 st, BW G (fun k => x (k + 3)) b, PW G (fun k => x (k + 11)) pf, LW G (fun k => x (k + 16)) g, OW G (fun k => x (k + 20)) R1.2.1, AW G (x 21) 9 R1.2.2.1, BW G (fun k => x (k + 22)) R1.2.2.2.1, PW G (fun k => x (k + 30)) R1.2.2.2.2.1, LW G (fun k => x (k + 35)) R1.2.2.2.2.2, HGW G (fun k => x (k + 58)) hh, TW G (fun k => x (k + 136)) t]) := hD
  obtain ⟨v5, ev5, hR, hok⟩ := g_let2 hR hok
  refine g_topE ev5.symm ?_
  refine lv_istore_n (lv' := [(3, .int v5), (1, .long v3), (0, .ref (x 0))]) hx hb dL_refused_11 rfl hl (by decide) rfl (fun ls hl => ?_)
  refine lv_aload_n hx hb dL_refused_12 rfl (lv_at hl 2 rfl) ?_
  refine lv_bipush (v := 13) hx hb dL_refused_13 (by decide) ?_
  obtain ⟨k6, hok⟩ := hok
  refine g_callV (cr_count13 l G x cx o st b pf g hh t k6) hx hb hml hown hts hK hP hD hS hA gL_refused_X6_count rfl (n := 1) (by decide +kernel) rfl ⟨Nat.le_of_ble_eq_true rfl, Nat.le_of_ble_eq_true rfl⟩ [0, 1, 2, 3, 4, 5, 11, 12] rfl (by decide) 0 rfl (ci := 6) rfl hl.1 rfl (Nat.le_of_ble_eq_true rfl) ⟨Nat.zero_le _, Nat.zero_le _⟩ dL_refused_15 (fun H locs hP hD hS => ?_)
  have hP : va_P G.1 vwCl (List.flatten [CW G x cx, OW G (fun k => x (k + 1)) o, AW G (x 2) 9 st, BW G (fun k => x (k + 3)) b, PW G (fun k => x (k + 11)) pf, LW G (fun k => x (k + 16)) g, OW G (fun k => x (k + 20)) R1.2.1, AW G (x 21) 9 R1.2.2.1, BW G (fun k => x (k + 22)) R1.2.2.2.1, PW G (fun k => x (k + 30)) R1.2.2.2.2.1, LW G (fun k => x (k + 35)) R1.2.2.2.2.2, HGW G (fun k => x (k + 58)) hh, TW G (fun k => x (k + 136)) t]) H := hP
  have hD : va_D A (List.flatten [CW G x cx, OW G (fun k => x (k + 1)) o, AW G (x 2) 9 st, BW G (fun k => x (k + 3)) b, PW G (fun k => x (k + 11)) pf, LW G (fun k => x (k + 16)) g, OW G (fun k => x (k + 20)) R1.2.1, AW G (x 21) 9 R1.2.2.1, BW G (fun k => x (k + 22)) R1.2.2.2.1, PW G (fun k => x (k + 30)) R1.2.2.2.2.1, LW G (fun k => x (k + 35)) R1.2.2.2.2.2, HGW G (fun k => x (k + 58)) hh, TW G (fun k => x (k + 136)) t]) := hD
  obtain ⟨v7, ev7, hR, hok⟩ := g_let2 hR hok
  refine g_topE ev7.symm ?_
  refine lv_istore (lv' := [(4, .int v7), (3, .int v5), (1, .long v3), (0, .ref (x 0))]) hx hb dL_refused_18 hl (by decide) rfl (fun ls hl => ?_)
  refine lv_aload_n hx hb dL_refused_20 rfl (lv_at hl 3 rfl) ?_
  refine lv_iconst (v := 0) hx hb dL_refused_21 (by decide) ?_
  obtain ⟨k8, hok⟩ := hok
  refine g_callSZ (c_L_refusesAny0 l G z x cx o st b pf g R1.2.1 R1.2.2.1 R1.2.2.2.1 R1.2.2.2.2.1 R1.2.2.2.2.2 hh t k8) hx hb hml hown hts hK hP hD hS hA hZ gL_refused_L_refusesAny rfl (n := 2) (by decide +kernel) rfl ⟨Nat.le_of_ble_eq_true rfl, Nat.le_of_ble_eq_true rfl⟩ [0, 1, 2, 3, 4, 5, 6, 7, 8, 9, 10, 11, 12] rfl (by decide) hl.1 rfl (Nat.le_of_ble_eq_true rfl) ⟨Nat.zero_le _, Nat.zero_le _⟩ dL_refused_22 (fun H locs hP hD hS => ?_)
  have hP : va_P G.1 vwCl (List.flatten [CW G x cx, OW G (fun k => x (k + 1)) o, AW G (x 2) 9 st, BW G (fun k => x (k + 3)) b, PW G (fun k => x (k + 11)) pf, LW G (fun k => x (k + 16)) g, OW G (fun k => x (k + 20)) R1.2.1, AW G (x 21) 9 R1.2.2.1, BW G (fun k => x (k + 22)) R1.2.2.2.1, PW G (fun k => x (k + 30)) R1.2.2.2.2.1, LW G (fun k => x (k + 35)) R1.2.2.2.2.2, HGW G (fun k => x (k + 58)) hh, TW G (fun k => x (k + 136)) t]) H := hP
  have hD : va_D A (List.flatten [CW G x cx, OW G (fun k => x (k + 1)) o, AW G (x 2) 9 st, BW G (fun k => x (k + 3)) b, PW G (fun k => x (k + 11)) pf, LW G (fun k => x (k + 16)) g, OW G (fun k => x (k + 20)) R1.2.1, AW G (x 21) 9 R1.2.2.1, BW G (fun k => x (k + 22)) R1.2.2.2.1, PW G (fun k => x (k + 30)) R1.2.2.2.2.1, LW G (fun k => x (k + 35)) R1.2.2.2.2.2, HGW G (fun k => x (k + 58)) hh, TW G (fun k => x (k + 136)) t]) := hD
  refine lv_if_eq (tgt := 70) hx hb dL_refused_25 (by decide) (fun c => absurd c (by decide)) (fun _ => ?_)
  refine lv_aload_n hx hb dL_refused_28 rfl (lv_at hl 3 rfl) ?_
  refine lv_iconst (v := 1) hx hb dL_refused_29 (by decide) ?_
  obtain ⟨k9, hok⟩ := hok
  refine g_callSZ (c_L_refusesAny1 l G z x cx o st b pf g R1.2.1 R1.2.2.1 R1.2.2.2.1 R1.2.2.2.2.1 R1.2.2.2.2.2 hh t k9) hx hb hml hown hts hK hP hD hS hA hZ gL_refused_L_refusesAny rfl (n := 2) (by decide +kernel) rfl ⟨Nat.le_of_ble_eq_true rfl, Nat.le_of_ble_eq_true rfl⟩ [0, 1, 2, 3, 4, 5, 6, 7, 8, 9, 10, 11, 12] rfl (by decide) hl.1 rfl (Nat.le_of_ble_eq_true rfl) ⟨Nat.zero_le _, Nat.zero_le _⟩ dL_refused_30 (fun H locs hP hD hS => ?_)
  have hP : va_P G.1 vwCl (List.flatten [CW G x cx, OW G (fun k => x (k + 1)) o, AW G (x 2) 9 st, BW G (fun k => x (k + 3)) b, PW G (fun k => x (k + 11)) pf, LW G (fun k => x (k + 16)) g, OW G (fun k => x (k + 20)) R1.2.1, AW G (x 21) 9 R1.2.2.1, BW G (fun k => x (k + 22)) R1.2.2.2.1, PW G (fun k => x (k + 30)) R1.2.2.2.2.1, LW G (fun k => x (k + 35)) R1.2.2.2.2.2, HGW G (fun k => x (k + 58)) hh, TW G (fun k => x (k + 136)) t]) H := hP
  have hD : va_D A (List.flatten [CW G x cx, OW G (fun k => x (k + 1)) o, AW G (x 2) 9 st, BW G (fun k => x (k + 3)) b, PW G (fun k => x (k + 11)) pf, LW G (fun k => x (k + 16)) g, OW G (fun k => x (k + 20)) R1.2.1, AW G (x 21) 9 R1.2.2.1, BW G (fun k => x (k + 22)) R1.2.2.2.1, PW G (fun k => x (k + 30)) R1.2.2.2.2.1, LW G (fun k => x (k + 35)) R1.2.2.2.2.2, HGW G (fun k => x (k + 58)) hh, TW G (fun k => x (k + 136)) t]) := hD
  refine lv_if_eq (tgt := 70) hx hb dL_refused_33 (by decide) (fun c => absurd c (by decide)) (fun _ => ?_)
  refine lv_aload_n hx hb dL_refused_36 rfl (lv_at hl 3 rfl) ?_
  obtain ⟨k11, hok⟩ := hok
  obtain ⟨R10, eR10, hR, hok⟩ := g_let2 hR hok
  refine g_callS (c_L_seen l G x cx o st b pf g R1.2.1 R1.2.2.1 R1.2.2.2.1 R1.2.2.2.2.1 R1.2.2.2.2.2 hh t R10 eR10 k11) hx hb hml hown hts hK hP hD hS hA gL_refused_L_seen rfl (n := 1) (by decide +kernel) rfl ⟨Nat.le_of_ble_eq_true rfl, Nat.le_of_ble_eq_true rfl⟩ [0, 1, 2, 3, 4, 5, 6, 7, 8, 9, 10, 11, 12] rfl (by decide) hl.1 rfl (Nat.le_of_ble_eq_true rfl) ⟨Nat.zero_le _, Nat.zero_le _⟩ dL_refused_37 (fun H locs hP hD hS => ?_)
  have hP : va_P G.1 vwCl (List.flatten [CW G x cx, OW G (fun k => x (k + 1)) o, AW G (x 2) 9 st, BW G (fun k => x (k + 3)) b, PW G (fun k => x (k + 11)) pf, LW G (fun k => x (k + 16)) g, OW G (fun k => x (k + 20)) R10.2.1, AW G (x 21) 9 R10.2.2.1, BW G (fun k => x (k + 22)) R10.2.2.2.1, PW G (fun k => x (k + 30)) R10.2.2.2.2.1, LW G (fun k => x (k + 35)) R10.2.2.2.2.2, HGW G (fun k => x (k + 58)) hh, TW G (fun k => x (k + 136)) t]) H := hP
  have hD : va_D A (List.flatten [CW G x cx, OW G (fun k => x (k + 1)) o, AW G (x 2) 9 st, BW G (fun k => x (k + 3)) b, PW G (fun k => x (k + 11)) pf, LW G (fun k => x (k + 16)) g, OW G (fun k => x (k + 20)) R10.2.1, AW G (x 21) 9 R10.2.2.1, BW G (fun k => x (k + 22)) R10.2.2.2.1, PW G (fun k => x (k + 30)) R10.2.2.2.2.1, LW G (fun k => x (k + 35)) R10.2.2.2.2.2, HGW G (fun k => x (k + 58)) hh, TW G (fun k => x (k + 136)) t]) := hD
  refine lv_lload_n hx hb dL_refused_40 rfl (lv_at hl 2 rfl) ?_
  refine W.lcmp hx hb dL_refused_41 ?_
  refine lv_if_ne (tgt := 70) hx hb dL_refused_42 (by decide) (fun c12 => ?_) (fun c12 => ?_)
  · rw [if_neg c12] at hR
    have hok := hok.2 c12
    refine lv_iconst (v := 0) hx hb dL_refused_70 (by decide) ?_
    subst hR
    exact g_retz hx hb hr hlocks hS rfl dL_refused_71 rfl hP
  · rw [if_pos c12] at hR
    have hok := hok.1 c12
    refine lv_aload_n hx hb dL_refused_45 rfl (lv_at hl 3 rfl) ?_
    refine lv_bipush (v := 12) hx hb dL_refused_46 (by decide) ?_
    obtain ⟨k13, hok⟩ := hok
    refine g_callV (cr_count12 l G x cx o st b pf g hh t k13) hx hb hml hown hts hK hP hD hS hA gL_refused_X6_count rfl (n := 1) (by decide +kernel) rfl ⟨Nat.le_of_ble_eq_true rfl, Nat.le_of_ble_eq_true rfl⟩ [0, 1, 2, 3, 4, 5, 11, 12] rfl (by decide) 0 rfl (ci := 6) rfl hl.1 rfl (Nat.le_of_ble_eq_true rfl) ⟨Nat.zero_le _, Nat.zero_le _⟩ dL_refused_48 (fun H locs hP hD hS => ?_)
    have hP : va_P G.1 vwCl (List.flatten [CW G x cx, OW G (fun k => x (k + 1)) o, AW G (x 2) 9 st, BW G (fun k => x (k + 3)) b, PW G (fun k => x (k + 11)) pf, LW G (fun k => x (k + 16)) g, OW G (fun k => x (k + 20)) R10.2.1, AW G (x 21) 9 R10.2.2.1, BW G (fun k => x (k + 22)) R10.2.2.2.1, PW G (fun k => x (k + 30)) R10.2.2.2.2.1, LW G (fun k => x (k + 35)) R10.2.2.2.2.2, HGW G (fun k => x (k + 58)) hh, TW G (fun k => x (k + 136)) t]) H := hP
    have hD : va_D A (List.flatten [CW G x cx, OW G (fun k => x (k + 1)) o, AW G (x 2) 9 st, BW G (fun k => x (k + 3)) b, PW G (fun k => x (k + 11)) pf, LW G (fun k => x (k + 16)) g, OW G (fun k => x (k + 20)) R10.2.1, AW G (x 21) 9 R10.2.2.1, BW G (fun k => x (k + 22)) R10.2.2.2.1, PW G (fun k => x (k + 30)) R10.2.2.2.2.1, LW G (fun k => x (k + 35)) R10.2.2.2.2.2, HGW G (fun k => x (k + 58)) hh, TW G (fun k => x (k + 136)) t]) := hD
    refine lv_iload_n hx hb dL_refused_51 rfl (lv_at hl 1 rfl) ?_
    refine lv_icmp_ne (tgt := 70) hx hb dL_refused_52 (by decide) (fun c14 => ?_) (fun c14 => ?_)
    · rw [if_neg c14] at hR
      have hok := hok.2 c14
      refine lv_iconst (v := 0) hx hb dL_refused_70 (by decide) ?_
      subst hR
      exact g_retz hx hb hr hlocks hS rfl dL_refused_71 rfl hP
    · rw [if_pos c14] at hR
      have hok := hok.1 c14
      refine lv_aload_n hx hb dL_refused_55 rfl (lv_at hl 3 rfl) ?_
      refine lv_bipush (v := 13) hx hb dL_refused_56 (by decide) ?_
      obtain ⟨k15, hok⟩ := hok
      refine g_callV (cr_count13 l G x cx o st b pf g hh t k15) hx hb hml hown hts hK hP hD hS hA gL_refused_X6_count rfl (n := 1) (by decide +kernel) rfl ⟨Nat.le_of_ble_eq_true rfl, Nat.le_of_ble_eq_true rfl⟩ [0, 1, 2, 3, 4, 5, 11, 12] rfl (by decide) 0 rfl (ci := 6) rfl hl.1 rfl (Nat.le_of_ble_eq_true rfl) ⟨Nat.zero_le _, Nat.zero_le _⟩ dL_refused_58 (fun H locs hP hD hS => ?_)
      have hP : va_P G.1 vwCl (List.flatten [CW G x cx, OW G (fun k => x (k + 1)) o, AW G (x 2) 9 st, BW G (fun k => x (k + 3)) b, PW G (fun k => x (k + 11)) pf, LW G (fun k => x (k + 16)) g, OW G (fun k => x (k + 20)) R10.2.1, AW G (x 21) 9 R10.2.2.1, BW G (fun k => x (k + 22)) R10.2.2.2.1, PW G (fun k => x (k + 30)) R10.2.2.2.2.1, LW G (fun k => x (k + 35)) R10.2.2.2.2.2, HGW G (fun k => x (k + 58)) hh, TW G (fun k => x (k + 136)) t]) H := hP
      have hD : va_D A (List.flatten [CW G x cx, OW G (fun k => x (k + 1)) o, AW G (x 2) 9 st, BW G (fun k => x (k + 3)) b, PW G (fun k => x (k + 11)) pf, LW G (fun k => x (k + 16)) g, OW G (fun k => x (k + 20)) R10.2.1, AW G (x 21) 9 R10.2.2.1, BW G (fun k => x (k + 22)) R10.2.2.2.1, PW G (fun k => x (k + 30)) R10.2.2.2.2.1, LW G (fun k => x (k + 35)) R10.2.2.2.2.2, HGW G (fun k => x (k + 58)) hh, TW G (fun k => x (k + 136)) t]) := hD
      refine lv_iload hx hb dL_refused_61 (lv_at hl 0 rfl) ?_
      refine lv_icmp_ne (tgt := 70) hx hb dL_refused_63 (by decide) (fun c16 => ?_) (fun c16 => ?_)
      · rw [if_neg c16] at hR
        refine lv_iconst (v := 0) hx hb dL_refused_70 (by decide) ?_
        subst hR
        exact g_retz hx hb hr hlocks hS rfl dL_refused_71 rfl hP
      · rw [if_pos c16] at hR
        refine lv_iconst (v := 1) hx hb dL_refused_66 (by decide) ?_
        refine lv_goto (tgt := 71) hx hb dL_refused_67 (by decide) ?_
        subst hR
        exact g_retz hx hb hr hlocks hS rfl dL_refused_71 rfl hP
