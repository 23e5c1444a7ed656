def f5_refused (o : (Nat → Int32)) (st : (Nat → Int32)) (b : (Nat → Nat → Int32)) (pf : (Nat → Nat → Int32)) (g : (Nat → Nat → Int32)) (fo : (Nat → Int32)) (fst : (Nat → Int32)) (fb : (Nat → Nat → Int32)) (fp : (Nat → Nat → Int32)) (fg : (Nat → Nat → Int32)) (hh : HVal) (t : (Nat → Nat → Int32)) : (Nat → Int32) × (Nat → Int32) × (Nat → Nat → Int32) × (Nat → Nat → Int32) × (Nat → Nat → Int32) := (f_L_refused o st b pf g fo fst fb fp fg hh t).2
set_option maxRecDepth 100000 in
theorem cr_refused (l : Launch) (G : gG) (z : Nat × Nat × Nat) (x : Nat → Nat) (cx : (Nat → Int32)) (o : (Nat → Int32)) (st : (Nat → Int32)) (b : (Nat → Nat → Int32)) (pf : (Nat → Nat → Int32)) (g : (Nat → Nat → Int32)) (fo : (Nat → Int32)) (fst : (Nat → Int32)) (fb : (Nat → Nat → Int32)) (fp : (Nat → Nat → Int32)) (fg : (Nat → Nat → Int32)) (hh : HVal) (t : (Nat → Nat → Int32)) (R : (Nat → Int32) × (Nat → Int32) × (Nat → Nat → Int32) × (Nat → Nat → Int32) × (Nat → Nat → Int32)) (hR : R = f5_refused o st b pf g fo fst fb fp fg hh t) (hok : ok_L_refused o st b pf g fo fst fb fp fg hh t) : CTZ z l G yL_refused wsL_refused 9 189 [.ref (x 0)] [CW G x cx, OW G (fun k => x (k + 1)) o, AW G (x 2) 9 st, BW G (fun k => x (k + 3)) b, PW G (fun k => x (k + 11)) pf, LW G (fun k => x (k + 16)) g, OW G (fun k => x (k + 20)) fo, AW G (x 21) 9 fst, BW G (fun k => x (k + 22)) fb, PW G (fun k => x (k + 30)) fp, LW G (fun k => x (k + 35)) fg, HGW G (fun k => x (k + 58)) hh, TW G (fun k => x (k + 136)) t] (some (.int 1)) [CW G x cx, OW G (fun k => x (k + 1)) o, AW G (x 2) 9 st, BW G (fun k => x (k + 3)) b, PW G (fun k => x (k + 11)) pf, LW G (fun k => x (k + 16)) g, OW G (fun k => x (k + 20)) R.1, AW G (x 21) 9 R.2.1, BW G (fun k => x (k + 22)) R.2.2.1, PW G (fun k => x (k + 30)) R.2.2.2.1, LW G (fun k => x (k + 35)) R.2.2.2.2, HGW G (fun k => x (k + 58)) hh, TW G (fun k => x (k + 136)) t] := by
  obtain ⟨Q, eQ⟩ : ∃ Q, Q = f_L_refused o st b pf g fo fst fb fp fg hh t := ⟨_, rfl⟩
  have h := c_L_refused l G z x cx o st b pf g fo fst fb fp fg hh t Q eQ hok
  have e1 : Q.1 = 1 := by rw [eQ]; exact f_refused o st b pf g fo fst fb fp fg hh t
  have e2 : R = Q.2 := by rw [hR, eQ]; rfl
  rw [e1] at h
  rw [e2]
  exact h
theorem g_freeI {A : Nat → Prop} {B0 : List va_W} {h : Nat} {e0 : va_E} {H0 H : Heap} {locs : List Loc} (hD : va_D A (B0 ++ [[(h, e0)]]).flatten) (hS : va_S A H0 H locs) (hA : ∀ q : Nat, H0.size ≤ q → A q) : ∀ q : Nat, va_A [(h, e0)] H.size q → A q := by
  intro q hq
  rw [g_A_mem] at hq
  rcases hq with hq | hq
  · simp only [List.map_cons, List.map_nil, List.mem_cons, List.not_mem_nil, or_false] at hq
    rw [hq]
    rw [g_snoc] at hD
    exact (g_nodup.mp hD).2 _ (List.mem_append_right _ List.mem_cons_self)
  · exact hA q (Nat.le_trans hS.1 hq)
theorem g_reg1 (c : va_W) (S1 S2 S3 : List va_W) (Y : List va_W) : (List.flatten ([] ++ [List.flatten (c :: S1.flatten :: S2.flatten :: S3.flatten :: Y)])) = (c :: (S1 ++ (S2 ++ (S3 ++ Y)))).flatten := by simp
def f_L_readOf (o : (Nat → Int32)) (st : (Nat → Int32)) (b : (Nat → Nat → Int32)) (pf : (Nat → Nat → Int32)) (g : (Nat → Nat → Int32)) (hh : HVal) (t : (Nat → Nat → Int32)) (dr : (Nat → Nat → Int32)) (one : Int64) (two : Int64) : Int32 := (gL (f_L_puts t one) (fun (R1 : Int32 × (Nat → Nat → Int32)) => (if R1.1 = 0 then (-99) else (gL (f_L_puts R1.2 two) (fun (R4 : Int32 × (Nat → Nat → Int32)) => (if R4.1 = 0 then (-99) else (gL (f_X6_readProfile o st b pf g hh R4.2 dr) (fun (R7 : Int32 × (Nat → Nat → Int32) × HVal × (Nat → Nat → Int32) × (Nat → Nat → Int32)) => (gL (R7.1) (fun (v9 : Int32) => (gL (f_X6_count o st b R7.2.1 R7.2.2.1 R7.2.2.2.1 12) (fun (R10 : Int32) => (if 0 ≤ v9 then (if R10 = 1 then (gL (f_X6_count o st b R7.2.1 R7.2.2.1 R7.2.2.2.1 2) (fun (R14 : Int32) => (if 0 ≤ v9 then (if R14 = v9 then v9 else (-98)) else (if R14 = 0 then v9 else (-98))))) else (-98)) else (if R10 = 0 then (gL (f_X6_count o st b R7.2.1 R7.2.2.1 R7.2.2.2.1 2) (fun (R20 : Int32) => (if 0 ≤ v9 then (if R20 = v9 then v9 else (-98)) else (if R20 = 0 then v9 else (-98))))) else (-98)))))))))))))))
set_option maxHeartbeats 8000000 in
set_option maxRecDepth 100000 in
theorem b_L_readOf {p : Program} {l : Launch} {e : Env} {s : State} {m : MethodId} {below : List Frame} {meth : Method} {c : Code} {G : gG} {z : Nat × Nat × Nat} {x : Nat → Nat} {A : Nat → Prop} {R : Int32} (one : Int64) (two : Int64) (hx : p.tables.exec = Jvm.exec) (hb : c.code = cL_readOf) (hml : c.maxLocals = 6) (hr : meth.sig.returnType = (some .int)) (hts : ∀ w ∈ wsL_readOf, w.before (List.toArray [.long one, .long two]) s = true) (hown : s.vm.findClass RL = some m.cls) (hlocks : meth.locks = false) (hK : gK G s) (hZ : gZ z A s) (hA : ∀ q : Nat, s.heap.size ≤ q → A q) (cx : (Nat → Int32)) (o : (Nat → Int32)) (st : (Nat → Int32)) (b : (Nat → Nat → Int32)) (pf : (Nat → Nat → Int32)) (g : (Nat → Nat → Int32)) (fo : (Nat → Int32)) (fst : (Nat → Int32)) (fb : (Nat → Nat → Int32)) (fp : (Nat → Nat → Int32)) (fg : (Nat → Nat → Int32)) (so : (Nat → Int32)) (sst : (Nat → Int32)) (sb : (Nat → Nat → Int32)) (sp : (Nat → Nat → Int32)) (sg : (Nat → Nat → Int32)) (hh : HVal) (t : (Nat → Nat → Int32)) (dr : (Nat → Nat → Int32)) {H : Heap} {locs : List Loc} {ls : Array Slot} (hI : Iv cx o st b pf g so sst sb sp sg hh t) (hR : R = f_L_readOf o st b pf g hh t dr one two) (hP : va_P G.1 vwCl (List.flatten [CW G x cx, OW G (fun k => x (k + 1)) o, AW G (x 2) 9 st, BW G (fun k => x (k + 3)) b, PW G (fun k => x (k + 11)) pf, LW G (fun k => x (k + 16)) g, OW G (fun k => x (k + 20)) fo, AW G (x 21) 9 fst, BW G (fun k => x (k + 22)) fb, PW G (fun k => x (k + 30)) fp, LW G (fun k => x (k + 35)) fg, OW G (fun k => x (k + 39)) so, AW G (x 40) 9 sst, BW G (fun k => x (k + 41)) sb, PW G (fun k => x (k + 49)) sp, LW G (fun k => x (k + 54)) sg, HGW G (fun k => x (k + 58)) hh, TW G (fun k => x (k + 136)) t, PW G (fun k => x (k + 138)) dr]) H) (hD : va_D A (List.flatten [CW G x cx, OW G (fun k => x (k + 1)) o, AW G (x 2) 9 st, BW G (fun k => x (k + 3)) b, PW G (fun k => x (k + 11)) pf, LW G (fun k => x (k + 16)) g, OW G (fun k => x (k + 20)) fo, AW G (x 21) 9 fst, BW G (fun k => x (k + 22)) fb, PW G (fun k => x (k + 30)) fp, LW G (fun k => x (k + 35)) fg, OW G (fun k => x (k + 39)) so, AW G (x 40) 9 sst, BW G (fun k => x (k + 41)) sb, PW G (fun k => x (k + 49)) sp, LW G (fun k => x (k + 54)) sg, HGW G (fun k => x (k + 58)) hh, TW G (fun k => x (k + 136)) t, PW G (fun k => x (k + 138)) dr])) (hS : va_S A s.heap H locs) (hl : lv_has ls 6 [(4, .ref (x 0)), (0, .long one), (2, .long two)]) : W p l e { frames := 7, cells := 143, slots := 1018, locals := 154 } s m (List.toArray [.long one, .long two]) below meth c H locs 143 1018 (gQN below (List.toArray [.long one, .long two]) s R 143 1018 A) (F0 m 9 ls []) := by
  unfold f_L_readOf at hR
  refine lv_aload hx hb dL_readOf_9 (lv_at hl 0 rfl) ?_
  refine lv_lload_n hx hb dL_readOf_11 rfl (lv_at hl 1 rfl) ?_
  have k2 : ok_L_puts t one := (iv_puts cx o st b pf g so sst sb sp sg hh t one hI).1
  obtain ⟨R1, eR1, hR⟩ := g_let hR
  refine g_callS (c_L_puts l G x cx t one R1 eR1 k2) hx hb hml hown hts hK hP hD hS hA gL_readOf_L_puts rfl (n := 2) (by decide +kernel) rfl ⟨Nat.le_of_ble_eq_true rfl, Nat.le_of_ble_eq_true rfl⟩ [0, 17] rfl (by decide) hl.1 rfl (Nat.le_of_ble_eq_true rfl) ⟨Nat.le_refl _, Nat.le_refl _⟩ dL_readOf_12 (fun H locs hP hD hS => ?_)
  have hP : va_P G.1 vwCl (List.flatten [CW G x cx, OW G (fun k => x (k + 1)) o, AW G (x 2) 9 st, BW G (fun k => x (k + 3)) b, PW G (fun k => x (k + 11)) pf, LW G (fun k => x (k + 16)) g, OW G (fun k => x (k + 20)) fo, AW G (x 21) 9 fst, BW G (fun k => x (k + 22)) fb, PW G (fun k => x (k + 30)) fp, LW G (fun k => x (k + 35)) fg, OW G (fun k => x (k + 39)) so, AW G (x 40) 9 sst, BW G (fun k => x (k + 41)) sb, PW G (fun k => x (k + 49)) sp, LW G (fun k => x (k + 54)) sg, HGW G (fun k => x (k + 58)) hh, TW G (fun k => x (k + 136)) R1.2, PW G (fun k => x (k + 138)) dr]) H := hP
  have hD : va_D A (List.flatten [CW G x cx, OW G (fun k => x (k + 1)) o, AW G (x 2) 9 st, BW G (fun k => x (k + 3)) b, PW G (fun k => x (k + 11)) pf, LW G (fun k => x (k + 16)) g, OW G (fun k => x (k + 20)) fo, AW G (x 21) 9 fst, BW G (fun k => x (k + 22)) fb, PW G (fun k => x (k + 30)) fp, LW G (fun k => x (k + 35)) fg, OW G (fun k => x (k + 39)) so, AW G (x 40) 9 sst, BW G (fun k => x (k + 41)) sb, PW G (fun k => x (k + 49)) sp, LW G (fun k => x (k + 54)) sg, HGW G (fun k => x (k + 58)) hh, TW G (fun k => x (k + 136)) R1.2, PW G (fun k => x (k + 138)) dr]) := hD
  have hI : Iv cx o st b pf g so sst sb sp sg hh R1.2 := by rw [eR1]; exact (iv_puts cx o st b pf g so sst sb sp sg hh t one hI).2
  refine lv_if_eq (tgt := 27) hx hb dL_readOf_15 (by decide) (fun c3 => ?_) (fun c3 => ?_)
  · rw [if_pos c3] at hR
    refine lv_bipush (v := (-99)) hx hb dL_readOf_27 (by decide) ?_
    subst hR
    exact g_retN hx hb hr hlocks hS rfl dL_readOf_29
  · rw [if_neg c3] at hR
    refine lv_aload hx hb dL_readOf_18 (lv_at hl 0 rfl) ?_
    refine lv_lload_n hx hb dL_readOf_20 rfl (lv_at hl 2 rfl) ?_
    have k5 : ok_L_puts R1.2 two := (iv_puts cx o st b pf g so sst sb sp sg hh R1.2 two hI).1
    obtain ⟨R4, eR4, hR⟩ := g_let hR
    refine g_callS (c_L_puts l G x cx R1.2 two R4 eR4 k5) hx hb hml hown hts hK hP hD hS hA gL_readOf_L_puts rfl (n := 2) (by decide +kernel) rfl ⟨Nat.le_of_ble_eq_true rfl, Nat.le_of_ble_eq_true rfl⟩ [0, 17] rfl (by decide) hl.1 rfl (Nat.le_of_ble_eq_true rfl) ⟨Nat.le_refl _, Nat.le_refl _⟩ dL_readOf_21 (fun H locs hP hD hS => ?_)
    have hP : va_P G.1 vwCl (List.flatten [CW G x cx, OW G (fun k => x (k + 1)) o, AW G (x 2) 9 st, BW G (fun k => x (k + 3)) b, PW G (fun k => x (k + 11)) pf, LW G (fun k => x (k + 16)) g, OW G (fun k => x (k + 20)) fo, AW G (x 21) 9 fst, BW G (fun k => x (k + 22)) fb, PW G (fun k => x (k + 30)) fp, LW G (fun k => x (k + 35)) fg, OW G (fun k => x (k + 39)) so, AW G (x 40) 9 sst, BW G (fun k => x (k + 41)) sb, PW G (fun k => x (k + 49)) sp, LW G (fun k => x (k + 54)) sg, HGW G (fun k => x (k + 58)) hh, TW G (fun k => x (k + 136)) R4.2, PW G (fun k => x (k + 138)) dr]) H := hP
    have hD : va_D A (List.flatten [CW G x cx, OW G (fun k => x (k + 1)) o, AW G (x 2) 9 st, BW G (fun k => x (k + 3)) b, PW G (fun k => x (k + 11)) pf, LW G (fun k => x (k + 16)) g, OW G (fun k => x (k + 20)) fo, AW G (x 21) 9 fst, BW G (fun k => x (k + 22)) fb, PW G (fun k => x (k + 30)) fp, LW G (fun k => x (k + 35)) fg, OW G (fun k => x (k + 39)) so, AW G (x 40) 9 sst, BW G (fun k => x (k + 41)) sb, PW G (fun k => x (k + 49)) sp, LW G (fun k => x (k + 54)) sg, HGW G (fun k => x (k + 58)) hh, TW G (fun k => x (k + 136)) R4.2, PW G (fun k => x (k + 138)) dr]) := hD
    have hI : Iv cx o st b pf g so sst sb sp sg hh R4.2 := by rw [eR4]; exact (iv_puts cx o st b pf g so sst sb sp sg hh R1.2 two hI).2
    refine lv_if_ne (tgt := 30) hx hb dL_readOf_24 (by decide) (fun c6 => ?_) (fun c6 => ?_)
    · rw [if_neg c6] at hR
      refine lv_aload hx hb dL_readOf_30 (lv_at hl 0 rfl) ?_
      have k8 : ok_X6_readProfile o hh R4.2 dr := (iv_readProfile cx o st b pf g so sst sb sp sg hh R4.2 dr hI).1
      obtain ⟨R7, eR7, hR⟩ := g_let hR
      refine g_callV (c_X6_readProfile l G x cx o st b pf g hh R4.2 dr R7 eR7 k8) hx hb hml hown hts hK hP hD hS hA gL_readOf_X6_readProfile rfl (n := 0) (by decide +kernel) rfl ⟨Nat.le_of_ble_eq_true rfl, Nat.le_of_ble_eq_true rfl⟩ [0, 1, 2, 3, 4, 5, 16, 17, 18] rfl (by decide) 0 rfl (ci := 6) rfl hl.1 rfl (Nat.le_of_ble_eq_true rfl) ⟨Nat.le_refl _, Nat.le_refl _⟩ dL_readOf_32 (fun H locs hP hD hS => ?_)
      have hP : va_P G.1 vwCl (List.flatten [CW G x cx, OW G (fun k => x (k + 1)) o, AW G (x 2) 9 st, BW G (fun k => x (k + 3)) b, PW G (fun k => x (k + 11)) R7.2.1, LW G (fun k => x (k + 16)) g, OW G (fun k => x (k + 20)) fo, AW G (x 21) 9 fst, BW G (fun k => x (k + 22)) fb, PW G (fun k => x (k + 30)) fp, LW G (fun k => x (k + 35)) fg, OW G (fun k => x (k + 39)) so, AW G (x 40) 9 sst, BW G (fun k => x (k + 41)) sb, PW G (fun k => x (k + 49)) sp, LW G (fun k => x (k + 54)) sg, HGW G (fun k => x (k + 58)) R7.2.2.1, TW G (fun k => x (k + 136)) R7.2.2.2.1, PW G (fun k => x (k + 138)) R7.2.2.2.2]) H := hP
      have hD : va_D A (List.flatten [CW G x cx, OW G (fun k => x (k + 1)) o, AW G (x 2) 9 st, BW G (fun k => x (k + 3)) b, PW G (fun k => x (k + 11)) R7.2.1, LW G (fun k => x (k + 16)) g, OW G (fun k => x (k + 20)) fo, AW G (x 21) 9 fst, BW G (fun k => x (k + 22)) fb, PW G (fun k => x (k + 30)) fp, LW G (fun k => x (k + 35)) fg, OW G (fun k => x (k + 39)) so, AW G (x 40) 9 sst, BW G (fun k => x (k + 41)) sb, PW G (fun k => x (k + 49)) sp, LW G (fun k => x (k + 54)) sg, HGW G (fun k => x (k + 58)) R7.2.2.1, TW G (fun k => x (k + 136)) R7.2.2.2.1, PW G (fun k => x (k + 138)) R7.2.2.2.2]) := hD
      have hI : Iv cx o st b R7.2.1 g so sst sb sp sg R7.2.2.1 R7.2.2.2.1 := by rw [eR7]; exact (iv_readProfile cx o st b pf g so sst sb sp sg hh R4.2 dr hI).2
      obtain ⟨v9, ev9, hR⟩ := g_let hR
      refine g_topE ev9.symm ?_
      refine lv_istore (lv' := [(5, .int v9), (4, .ref (x 0)), (0, .long one), (2, .long two)]) hx hb dL_readOf_35 hl (by decide) rfl (fun ls hl => ?_)
      refine lv_aload hx hb dL_readOf_37 (lv_at hl 1 rfl) ?_
      refine lv_bipush (v := 12) hx hb dL_readOf_39 (by decide) ?_
      have k11 : ok_X6_count b 12 := (iv_count cx o st b R7.2.1 g so sst sb sp sg R7.2.2.1 R7.2.2.2.1 12 hI).1
      obtain ⟨R10, eR10, hR⟩ := g_let hR
      refine g_callV (c_X6_count l G x cx o st b R7.2.1 g R7.2.2.1 R7.2.2.2.1 12 R10 eR10 k11) hx hb hml hown hts hK hP hD hS hA gL_readOf_X6_count rfl (n := 1) (by decide +kernel) rfl ⟨Nat.le_of_ble_eq_true rfl, Nat.le_of_ble_eq_true rfl⟩ [0, 1, 2, 3, 4, 5, 16, 17] rfl (by decide) 0 rfl (ci := 6) rfl hl.1 rfl (Nat.le_of_ble_eq_true rfl) ⟨Nat.le_refl _, Nat.le_refl _⟩ dL_readOf_41 (fun H locs hP hD hS => ?_)
      have hP : va_P G.1 vwCl (List.flatten [CW G x cx, OW G (fun k => x (k + 1)) o, AW G (x 2) 9 st, BW G (fun k => x (k + 3)) b, PW G (fun k => x (k + 11)) R7.2.1, LW G (fun k => x (k + 16)) g, OW G (fun k => x (k + 20)) fo, AW G (x 21) 9 fst, BW G (fun k => x (k + 22)) fb, PW G (fun k => x (k + 30)) fp, LW G (fun k => x (k + 35)) fg, OW G (fun k => x (k + 39)) so, AW G (x 40) 9 sst, BW G (fun k => x (k + 41)) sb, PW G (fun k => x (k + 49)) sp, LW G (fun k => x (k + 54)) sg, HGW G (fun k => x (k + 58)) R7.2.2.1, TW G (fun k => x (k + 136)) R7.2.2.2.1, PW G (fun k => x (k + 138)) R7.2.2.2.2]) H := hP
      have hD : va_D A (List.flatten [CW G x cx, OW G (fun k => x (k + 1)) o, AW G (x 2) 9 st, BW G (fun k => x (k + 3)) b, PW G (fun k => x (k + 11)) R7.2.1, LW G (fun k => x (k + 16)) g, OW G (fun k => x (k + 20)) fo, AW G (x 21) 9 fst, BW G (fun k => x (k + 22)) fb, PW G (fun k => x (k + 30)) fp, LW G (fun k => x (k + 35)) fg, OW G (fun k => x (k + 39)) so, AW G (x 40) 9 sst, BW G (fun k => x (k + 41)) sb, PW G (fun k => x (k + 49)) sp, LW G (fun k => x (k + 54)) sg, HGW G (fun k => x (k + 58)) R7.2.2.1, TW G (fun k => x (k + 136)) R7.2.2.2.1, PW G (fun k => x (k + 138)) R7.2.2.2.2]) := hD
      refine lv_iload hx hb dL_readOf_44 (lv_at hl 0 rfl) ?_
      refine lv_if_ge (tgt := 53) hx hb dL_readOf_46 (by decide) (fun c12 => ?_) (fun c12 => ?_)
      · rw [if_pos c12] at hR
        refine lv_iconst (v := 1) hx hb dL_readOf_53 (by decide) ?_
        refine lv_icmp_ne (tgt := 82) hx hb dL_readOf_54 (by decide) (fun c13 => ?_) (fun c13 => ?_)
        · rw [if_neg c13] at hR
          refine lv_bipush (v := (-98)) hx hb dL_readOf_82 (by decide) ?_
          subst hR
          exact g_retN hx hb hr hlocks hS rfl dL_readOf_84
        · rw [if_pos c13] at hR
          refine lv_aload hx hb dL_readOf_57 (lv_at hl 1 rfl) ?_
          refine lv_iconst (v := 2) hx hb dL_readOf_59 (by decide) ?_
          have k15 : ok_X6_count b 2 := (iv_count cx o st b R7.2.1 g so sst sb sp sg R7.2.2.1 R7.2.2.2.1 2 hI).1
          obtain ⟨R14, eR14, hR⟩ := g_let hR
          refine g_callV (c_X6_count l G x cx o st b R7.2.1 g R7.2.2.1 R7.2.2.2.1 2 R14 eR14 k15) hx hb hml hown hts hK hP hD hS hA gL_readOf_X6_count rfl (n := 1) (by decide +kernel) rfl ⟨Nat.le_of_ble_eq_true rfl, Nat.le_of_ble_eq_true rfl⟩ [0, 1, 2, 3, 4, 5, 16, 17] rfl (by decide) 0 rfl (ci := 6) rfl hl.1 rfl (Nat.le_of_ble_eq_true rfl) ⟨Nat.le_refl _, Nat.le_refl _⟩ dL_readOf_60 (fun H locs hP hD hS => ?_)
          have hP : va_P G.1 vwCl (List.flatten [CW G x cx, OW G (fun k => x (k + 1)) o, AW G (x 2) 9 st, BW G (fun k => x (k + 3)) b, PW G (fun k => x (k + 11)) R7.2.1, LW G (fun k => x (k + 16)) g, OW G (fun k => x (k + 20)) fo, AW G (x 21) 9 fst, BW G (fun k => x (k + 22)) fb, PW G (fun k => x (k + 30)) fp, LW G (fun k => x (k + 35)) fg, OW G (fun k => x (k + 39)) so, AW G (x 40) 9 sst, BW G (fun k => x (k + 41)) sb, PW G (fun k => x (k + 49)) sp, LW G (fun k => x (k + 54)) sg, HGW G (fun k => x (k + 58)) R7.2.2.1, TW G (fun k => x (k + 136)) R7.2.2.2.1, PW G (fun k => x (k + 138)) R7.2.2.2.2]) H := hP
          have hD : va_D A (List.flatten [CW G x cx, OW G (fun k => x (k + 1)) o, AW G (x 2) 9 st, BW G (fun k => x (k + 3)) b, PW G (fun k => x (k + 11)) R7.2.1, LW G (fun k => x (k + 16)) g, OW G (fun k => x (k + 20)) fo, AW G (x 21) 9 fst, BW G (fun k => x (k + 22)) fb, PW G (fun k => x (k + 30)) fp, LW G (fun k => x (k + 35)) fg, OW G (fun k => x (k + 39)) so, AW G (x 40) 9 sst, BW G (fun k => x (k + 41)) sb, PW G (fun k => x (k + 49)) sp, LW G (fun k => x (k + 54)) sg, HGW G (fun k => x (k + 58)) R7.2.2.1, TW G (fun k => x (k + 136)) R7.2.2.2.1, PW G (fun k => x (k + 138)) R7.2.2.2.2]) := hD
          refine lv_iload hx hb dL_readOf_63 (lv_at hl 0 rfl) ?_
          refine lv_if_ge (tgt := 72) hx hb dL_readOf_65 (by decide) (fun c16 => ?_) (fun c16 => ?_)
          · rw [if_pos c16] at hR
            refine lv_iload hx hb dL_readOf_72 (lv_at hl 0 rfl) ?_
            refine lv_icmp_ne (tgt := 82) hx hb dL_readOf_74 (by decide) (fun c17 => ?_) (fun c17 => ?_)
            · rw [if_neg c17] at hR
              refine lv_bipush (v := (-98)) hx hb dL_readOf_82 (by decide) ?_
              subst hR
              exact g_retN hx hb hr hlocks hS rfl dL_readOf_84
            · rw [if_pos c17] at hR
              refine lv_iload hx hb dL_readOf_77 (lv_at hl 0 rfl) ?_
              refine lv_goto (tgt := 84) hx hb dL_readOf_79 (by decide) ?_
              subst hR
              exact g_retN hx hb hr hlocks hS rfl dL_readOf_84
          · rw [if_neg c16] at hR
            refine lv_iconst (v := 0) hx hb dL_readOf_68 (by decide) ?_
            refine lv_goto (tgt := 74) hx hb dL_readOf_69 (by decide) ?_
            refine lv_icmp_ne (tgt := 82) hx hb dL_readOf_74 (by decide) (fun c18 => ?_) (fun c18 => ?_)
            · rw [if_neg c18] at hR
              refine lv_bipush (v := (-98)) hx hb dL_readOf_82 (by decide) ?_
              subst hR
              exact g_retN hx hb hr hlocks hS rfl dL_readOf_84
            · rw [if_pos c18] at hR
              refine lv_iload hx hb dL_readOf_77 (lv_at hl 0 rfl) ?_
              refine lv_goto (tgt := 84) hx hb dL_readOf_79 (by decide) ?_
              subst hR
              exact g_retN hx hb hr hlocks hS rfl dL_readOf_84
      · rw [if_neg c12] at hR
        refine lv_iconst (v := 0) hx hb dL_readOf_49 (by decide) ?_
        refine lv_goto (tgt := 54) hx hb dL_readOf_50 (by decide) ?_
        refine lv_icmp_ne (tgt := 82) hx hb dL_readOf_54 (by decide) (fun c19 => ?_) (fun c19 => ?_)
        · rw [if_neg c19] at hR
          refine lv_bipush (v := (-98)) hx hb dL_readOf_82 (by decide) ?_
          subst hR
          exact g_retN hx hb hr hlocks hS rfl dL_readOf_84
        · rw [if_pos c19] at hR
          refine lv_aload hx hb dL_readOf_57 (lv_at hl 1 rfl) ?_
          refine lv_iconst (v := 2) hx hb dL_readOf_59 (by decide) ?_
          have k21 : ok_X6_count b 2 := (iv_count cx o st b R7.2.1 g so sst sb sp sg R7.2.2.1 R7.2.2.2.1 2 hI).1
          obtain ⟨R20, eR20, hR⟩ := g_let hR
          refine g_callV (c_X6_count l G x cx o st b R7.2.1 g R7.2.2.1 R7.2.2.2.1 2 R20 eR20 k21) hx hb hml hown hts hK hP hD hS hA gL_readOf_X6_count rfl (n := 1) (by decide +kernel) rfl ⟨Nat.le_of_ble_eq_true rfl, Nat.le_of_ble_eq_true rfl⟩ [0, 1, 2, 3, 4, 5, 16, 17] rfl (by decide) 0 rfl (ci := 6) rfl hl.1 rfl (Nat.le_of_ble_eq_true rfl) ⟨Nat.le_refl _, Nat.le_refl _⟩ dL_readOf_60 (fun H locs hP hD hS => ?_)
          have hP : va_P G.1 vwCl (List.flatten [CW G x cx, OW G (fun k => x (k + 1)) o, AW G (x 2) 9 st, BW G (fun k => x (k + 3)) b, PW G (fun k => x (k + 11)) R7.2.1, LW G (fun k => x (k + 16)) g, OW G (fun k => x (k + 20)) fo, AW G (x 21) 9 fst, BW G (fun k => x (k + 22)) fb, PW G (fun k => x (k + 30)) fp, LW G (fun k => x (k + 35)) fg, OW G (fun k => x (k + 39)) so, AW G (x 40) 9 sst, BW G (fun k => x (k + 41)) sb, PW G (fun k => x (k + 49)) sp, LW G (fun k => x (k + 54)) sg, HGW G (fun k => x (k + 58)) R7.2.2.1, TW G (fun k => x (k + 136)) R7.2.2.2.1, PW G (fun k => x (k + 138)) R7.2.2.2.2]) H := hP
          have hD : va_D A (List.flatten [CW G x cx, OW G (fun k => x (k + 1)) o, AW G (x 2) 9 st, BW G (fun k => x (k + 3)) b, PW G (fun k => x (k + 11)) R7.2.1, LW G (fun k => x (k + 16)) g, OW G (fun k => x (k + 20)) fo, AW G (x 21) 9 fst, BW G (fun k => x (k + 22)) fb, PW G (fun k => x (k + 30)) fp, LW G (fun k => x (k + 35)) fg, OW G (fun k => x (k + 39)) so, AW G (x 40) 9 sst, BW G (fun k => x (k + 41)) sb, PW G (fun k => x (k + 49)) sp, LW G (fun k => x (k + 54)) sg, HGW G (fun k => x (k + 58)) R7.2.2.1, TW G (fun k => x (k + 136)) R7.2.2.2.1, PW G (fun k => x (k + 138)) R7.2.2.2.2]) := hD
          refine lv_iload hx hb dL_readOf_63 (lv_at hl 0 rfl) ?_
          refine lv_if_ge (tgt := 72) hx hb dL_readOf_65 (by decide) (fun c22 => ?_) (fun c22 => ?_)
          · rw [if_pos c22] at hR
            refine lv_iload hx hb dL_readOf_72 (lv_at hl 0 rfl) ?_
            refine lv_icmp_ne (tgt := 82) hx hb dL_readOf_74 (by decide) (fun c23 => ?_) (fun c23 => ?_)
            · rw [if_neg c23] at hR
              refine lv_bipush (v := (-98)) hx hb dL_readOf_82 (by decide) ?_
              subst hR
              exact g_retN hx hb hr hlocks hS rfl dL_readOf_84
            · rw [if_pos c23] at hR
              refine lv_iload hx hb dL_readOf_77 (lv_at hl 0 rfl) ?_
              refine lv_goto (tgt := 84) hx hb dL_readOf_79 (by decide) ?_
              subst hR
              exact g_retN hx hb hr hlocks hS rfl dL_readOf_84
          · rw [if_neg c22] at hR
            refine lv_iconst (v := 0) hx hb dL_readOf_68 (by decide) ?_
            refine lv_goto (tgt := 74) hx hb dL_readOf_69 (by decide) ?_
            refine lv_icmp_ne (tgt := 82) hx hb dL_readOf_74 (by decide) (fun c24 => ?_) (fun c24 => ?_)
            · rw [if_neg c24] at hR
              refine lv_bipush (v := (-98)) hx hb dL_readOf_82 (by decide) ?_
              subst hR
              exact g_retN hx hb hr hlocks hS rfl dL_readOf_84
            · rw [if_pos c24] at hR
              refine lv_iload hx hb dL_readOf_77 (lv_at hl 0 rfl) ?_
              refine lv_goto (tgt := 84) hx hb dL_readOf_79 (by decide) ?_
              subst hR
              exact g_retN hx hb hr hlocks hS rfl dL_readOf_84
    · rw [if_pos c6] at hR
      refine lv_bipush (v := (-99)) hx hb dL_readOf_27 (by decide) ?_
      subst hR
      exact g_retN hx hb hr hlocks hS rfl dL_readOf_29
def rd (one two : Int64) : Int32 := f_L_readOf n1 cFirst nB n2 n2 (0, 0, fun _ => nS) n2 n2 one two
set_option maxHeartbeats 4000000 in
set_option maxRecDepth 100000 in
theorem c_L_readOf (l : Launch) (G : gG) (z : Nat × Nat × Nat) (one : Int64) (two : Int64) : CN z l G yL_readOf wsL_readOf 7 154 143 1018 [.long one, .long two] (rd one two) := by
  refine CN.of (cc := cL_readOf) (maxL := 6) (ret := (some .int)) (plainFor_of_name (by decide +kernel)) rfl (Nat.le_of_ble_eq_true rfl) ?_
  intro p e s m below meth c ls hx hb hml hr hts hown hlocks hK hAO hZ hl
  have hown : s.vm.findClass RL = some m.cls := hown
  have hA : ∀ q : Nat, s.heap.size ≤ q → (fun q : Nat => s.heap.size ≤ q) q := fun _ h => h
  have hS : va_S (fun q : Nat => s.heap.size ≤ q) s.heap s.heap [] := va_S.rf
  have hP : va_P G.1 vwCl (List.flatten []) s.heap := fun k q h => by simp at h
  have hD : va_D (fun q : Nat => s.heap.size ≤ q) (List.flatten []) := ⟨fun i j p q h => by simp at h, fun k q h => by simp at h⟩
  have hl : lv_has ls 6 [(0, .long one), (2, .long two)] := hl
  have hinX6 : ∀ w ∈ wsX60, w ∈ wsL_readOf := fun w h => List.mem_cons_of_mem _ (List.mem_append_left _ (List.mem_append_left _ (List.mem_append_left _ (List.mem_append_left _ (List.mem_append_left _ (List.mem_append_left _ (List.mem_append_right _ h)))))))
  refine g_new (ci := 6) (fs := [.null, .null, .null, .int 0, .null, .null, .null]) (C := RX6) (T := TX6) (N := 7) hx hb hts hinX6 tyX6 tyX6_ok hown (hts (.classLink RL 14 RX6) (List.mem_of_getElem? (i := 1) rfl)) (hts (.instantiable RX6 7) (List.mem_of_getElem? (i := 2) rfl)) (hts (.initialized RX6) (List.mem_of_getElem? (i := 3) rfl)) hK hP hD hS hA rfl (by decide +kernel) (Nat.le_of_ble_eq_true rfl) (Nat.le_of_ble_eq_true rfl) dL_readOf_0 (fun q1 H hP hD hS => ?_)
  refine lv_dup hx hb dL_readOf_3 rfl ?_
  refine g_callI (c_X6_init l G z q1) hx hb hml hown hts hK [] hP hD hS hA (fun U hU hW => ⟨hAO.moved hW.alike, hZ.to hS (g_freeI (B0 := []) hD hS hA) hU hW⟩) (fun U g mk a h => ⟨va_AO.moved (u := U) (U := U.calling g mk a) (Vm.Alike.refl U.vm) h.1, h.2.calling g mk a⟩) gL_readOf_X6_init rfl (List.mem_of_getElem? (i := 3) rfl) (List.mem_of_getElem? (i := 4) rfl) (List.mem_of_getElem? (i := 5) rfl) rfl (by decide +kernel) ⟨Nat.le_of_ble_eq_true rfl, Nat.le_of_ble_eq_true rfl⟩ hl.1 (Nat.le_of_ble_eq_true rfl) ⟨Nat.le_of_ble_eq_true rfl, Nat.le_of_ble_eq_true rfl⟩ dL_readOf_4 (fun x H2 locs2 ex hP2 hD2 hS2 => ?_)
  clear hP hD hS
  subst ex
  have hS := hS2
  refine lv_astore (lv' := [(4, .ref (x 0)), (0, .long one), (2, .long two)]) hx hb dL_readOf_7 hl (by decide) rfl (fun ls hl => ?_)
  have hP : va_P G.1 vwCl (List.flatten ([] ++ [List.flatten [CW G x n1, (svB G (fun k => x (k + 1)) nC).flatten, (svB G (fun k => x (k + 20)) nS).flatten, (svB G (fun k => x (k + 39)) nS).flatten, HGW G (fun k => x (k + 58)) (0, 0, fun _ => nS), TW G (fun k => x (k + 136)) n2, PW G (fun k => x (k + 138)) n2]])) H2 := hP2
  have hD : va_D (fun q : Nat => s.heap.size ≤ q) (List.flatten ([] ++ [List.flatten [CW G x n1, (svB G (fun k => x (k + 1)) nC).flatten, (svB G (fun k => x (k + 20)) nS).flatten, (svB G (fun k => x (k + 39)) nS).flatten, HGW G (fun k => x (k + 58)) (0, 0, fun _ => nS), TW G (fun k => x (k + 136)) n2, PW G (fun k => x (k + 138)) n2]])) := hD2
  rw [g_reg1] at hP hD
  exact b_L_readOf (z := z) one two hx hb hml hr hts hown hlocks hK hZ hA n1 n1 cFirst nB n2 n2 n1 n1 nB n2 n2 n1 n1 nB n2 n2 (0, 0, fun _ => nS) n2 n2 iv_init rfl hP hD hS hl
