def f_L_part (p1 : Int32) (p2 : Int32) : Int32 := ((p1 &&& 2147483647) - (p1 &&& 2147483647) / p2 * p2)
def ok_L_part (p2 : Int32) : Prop := (¬ p2 = 0) ∧ True
set_option maxHeartbeats 4000000 in
set_option maxRecDepth 100000 in
theorem c_L_part (l : Launch) (G : gG)  (p1 : Int32) (p2 : Int32) (R : Int32) (hR : R = f_L_part p1 p2) (hok : ok_L_part p2) : CT l G yL_part wsL_part 0 0 [.int p1, .int p2] [] (some (.int R)) [] := by
  unfold f_L_part at hR
  unfold ok_L_part at hok
  refine CT.of (cc := cL_part) (maxL := 2) (ret := (some .int)) (plainFor_of_name (by decide +kernel)) rfl rfl (Nat.le_of_ble_eq_true rfl) ?_
  intro p e s m below meth c A ls hx hb hml hr hts hown hlocks hK hP hD hA hS hl
  have hown : s.vm.findClass RL = some m.cls := hown
  have hl : lv_has ls 2 [(0, .int p1), (1, .int p2)] := hl
  refine lv_iload_n hx hb dL_part_0 rfl (lv_at hl 0 rfl) ?_
  refine lv_ldc (v := 2147483647) hx hb hown (hts (.constant RL 7 2147483647) (by decide +kernel)) dL_part_1 ?_
  refine lv_iand hx hb dL_part_3 ?_
  refine lv_iload_n hx hb dL_part_4 rfl (lv_at hl 1 rfl) ?_
  obtain ⟨k1, hok⟩ := hok
  refine lv_irem hx hb dL_part_5 k1 ?_
  subst hR
  exact g_ret hx hb hr hlocks hS dL_part_6 rfl hP
def fl_L_seen_131 (o : (Nat → Int32)) (st : (Nat → Int32)) (b : (Nat → Nat → Int32)) (pf : (Nat → Nat → Int32)) (g : (Nat → Nat → Int32)) (fo : (Nat → Int32)) (fst : (Nat → Int32)) (fb : (Nat → Nat → Int32)) (fp : (Nat → Nat → Int32)) (fg : (Nat → Nat → Int32)) : Nat → Int64 → Int32 → Int64 × (Nat → Int32) × (Nat → Int32) × (Nat → Nat → Int32) × (Nat → Nat → Int32) × (Nat → Nat → Int32)
  | 0, _, _ => ((0 : Int64), (fun _ => 0), (fun _ => 0), (fun _ _ => 0), (fun _ _ => 0), (fun _ _ => 0))
  | n + 1, x131_1, x131_3 => (if 9 ≤ x131_3 then (gL (f_X6_current o st b pf) (fun (R21 : Int32) => (gL (f_X6_doneIn o st b pf g fo fst fb fp fg) (fun (R23 : Int32 × (Nat → Int32) × (Nat → Int32) × (Nat → Nat → Int32) × (Nat → Nat → Int32) × (Nat → Nat → Int32)) => (((31 * ((31 * x131_1) + ((R21).toInt64))) + ((R23.1).toInt64)), R23.2.1, R23.2.2.1, R23.2.2.2.1, R23.2.2.2.2.1, R23.2.2.2.2.2))))) else (gL (f_X6_setting st x131_3) (fun (R25 : Int32) => (gL (((31 * x131_1) + ((R25).toInt64))) (fun (v27 : Int64) => (gL ((x131_3 + 1)) (fun (v28 : Int32) => (fl_L_seen_131 o st b pf g fo fst fb fp fg n v27 v28))))))))
def okl_L_seen_131 (o : (Nat → Int32)) (st : (Nat → Int32)) (b : (Nat → Nat → Int32)) (pf : (Nat → Nat → Int32)) (g : (Nat → Nat → Int32)) : Nat → Int64 → Int32 → Prop
  | 0, _, _ => False
  | n + 1, x131_1, x131_3 => ((9 ≤ x131_3 → (ok_X6_current o st b pf) ∧ (gL (f_X6_current o st b pf) (fun (R21 : Int32) => (ok_X6_doneIn o st b pf g) ∧ True))) ∧ (¬ 9 ≤ x131_3 → (ok_X6_setting x131_3) ∧ (gL (f_X6_setting st x131_3) (fun (R25 : Int32) => (gL (((31 * x131_1) + ((R25).toInt64))) (fun (v27 : Int64) => (gL ((x131_3 + 1)) (fun (v28 : Int32) => (okl_L_seen_131 o st b pf g n v27 v28)))))))))
def fl_L_seen_99 (o : (Nat → Int32)) (st : (Nat → Int32)) (b : (Nat → Nat → Int32)) (pf : (Nat → Nat → Int32)) (g : (Nat → Nat → Int32)) (fo : (Nat → Int32)) (fst : (Nat → Int32)) (fb : (Nat → Nat → Int32)) (fp : (Nat → Nat → Int32)) (fg : (Nat → Nat → Int32)) : Nat → Int64 → Int32 → Int64 × (Nat → Int32) × (Nat → Int32) × (Nat → Nat → Int32) × (Nat → Nat → Int32) × (Nat → Nat → Int32)
  | 0, _, _ => ((0 : Int64), (fun _ => 0), (fun _ => 0), (fun _ _ => 0), (fun _ _ => 0), (fun _ _ => 0))
  | n + 1, x99_1, x99_3 => (if 25 ≤ x99_3 then (fl_L_seen_131 o st b pf g fo fst fb fp fg 10 x99_1 0) else (gL (f_X6_stage st pf (x99_3 / 5) (x99_3 - x99_3 / 5 * 5)) (fun (R29 : Int32) => (gL (((31 * x99_1) + ((R29).toInt64))) (fun (v31 : Int64) => (gL ((x99_3 + 1)) (fun (v32 : Int32) => (fl_L_seen_99 o st b pf g fo fst fb fp fg n v31 v32))))))))
def okl_L_seen_99 (o : (Nat → Int32)) (st : (Nat → Int32)) (b : (Nat → Nat → Int32)) (pf : (Nat → Nat → Int32)) (g : (Nat → Nat → Int32)) : Nat → Int64 → Int32 → Prop
  | 0, _, _ => False
  | n + 1, x99_1, x99_3 => ((25 ≤ x99_3 → (okl_L_seen_131 o st b pf g 10 x99_1 0)) ∧ (¬ 25 ≤ x99_3 → (ok_X6_stage pf (x99_3 / 5) (x99_3 - x99_3 / 5 * 5)) ∧ (gL (f_X6_stage st pf (x99_3 / 5) (x99_3 - x99_3 / 5 * 5)) (fun (R29 : Int32) => (gL (((31 * x99_1) + ((R29).toInt64))) (fun (v31 : Int64) => (gL ((x99_3 + 1)) (fun (v32 : Int32) => (okl_L_seen_99 o st b pf g n v31 v32)))))))))
def fl_L_seen_67 (o : (Nat → Int32)) (st : (Nat → Int32)) (b : (Nat → Nat → Int32)) (pf : (Nat → Nat → Int32)) (g : (Nat → Nat → Int32)) (fo : (Nat → Int32)) (fst : (Nat → Int32)) (fb : (Nat → Nat → Int32)) (fp : (Nat → Nat → Int32)) (fg : (Nat → Nat → Int32)) : Nat → Int64 → Int32 → Int64 × (Nat → Int32) × (Nat → Int32) × (Nat → Nat → Int32) × (Nat → Nat → Int32) × (Nat → Nat → Int32)
  | 0, _, _ => ((0 : Int64), (fun _ => 0), (fun _ => 0), (fun _ _ => 0), (fun _ _ => 0), (fun _ _ => 0))
  | n + 1, x67_1, x67_3 => (if 30 ≤ x67_3 then (fl_L_seen_99 o st b pf g fo fst fb fp fg 26 x67_1 0) else (gL (f_X6_event g (x67_3 / 3) (x67_3 - x67_3 / 3 * 3)) (fun (R33 : Int32) => (gL (((31 * x67_1) + ((R33).toInt64))) (fun (v35 : Int64) => (gL ((x67_3 + 1)) (fun (v36 : Int32) => (fl_L_seen_67 o st b pf g fo fst fb fp fg n v35 v36))))))))
def okl_L_seen_67 (o : (Nat → Int32)) (st : (Nat → Int32)) (b : (Nat → Nat → Int32)) (pf : (Nat → Nat → Int32)) (g : (Nat → Nat → Int32)) : Nat → Int64 → Int32 → Prop
  | 0, _, _ => False
  | n + 1, x67_1, x67_3 => ((30 ≤ x67_3 → (okl_L_seen_99 o st b pf g 26 x67_1 0)) ∧ (¬ 30 ≤ x67_3 → (ok_X6_event g (x67_3 / 3) (x67_3 - x67_3 / 3 * 3)) ∧ (gL (f_X6_event g (x67_3 / 3) (x67_3 - x67_3 / 3 * 3)) (fun (R33 : Int32) => (gL (((31 * x67_1) + ((R33).toInt64))) (fun (v35 : Int64) => (gL ((x67_3 + 1)) (fun (v36 : Int32) => (okl_L_seen_67 o st b pf g n v35 v36)))))))))
def fl_L_seen_40 (o : (Nat → Int32)) (st : (Nat → Int32)) (b : (Nat → Nat → Int32)) (pf : (Nat → Nat → Int32)) (g : (Nat → Nat → Int32)) (fo : (Nat → Int32)) (fst : (Nat → Int32)) (fb : (Nat → Nat → Int32)) (fp : (Nat → Nat → Int32)) (fg : (Nat → Nat → Int32)) (hh : HVal) (t : (Nat → Nat → Int32)) : Nat → Int64 → Int32 → Int64 × (Nat → Int32) × (Nat → Int32) × (Nat → Nat → Int32) × (Nat → Nat → Int32) × (Nat → Nat → Int32)
  | 0, _, _ => ((0 : Int64), (fun _ => 0), (fun _ => 0), (fun _ _ => 0), (fun _ _ => 0), (fun _ _ => 0))
  | n + 1, x40_1, x40_3 => (if 12 ≤ x40_3 then (fl_L_seen_67 o st b pf g fo fst fb fp fg 31 x40_1 0) else (gL (f_X6_count o st b pf hh t x40_3) (fun (R37 : Int32) => (gL (((31 * x40_1) + ((R37).toInt64))) (fun (v39 : Int64) => (gL ((x40_3 + 1)) (fun (v40 : Int32) => (fl_L_seen_40 o st b pf g fo fst fb fp fg hh t n v39 v40))))))))
def okl_L_seen_40 (o : (Nat → Int32)) (st : (Nat → Int32)) (b : (Nat → Nat → Int32)) (pf : (Nat → Nat → Int32)) (g : (Nat → Nat → Int32)) (hh : HVal) (t : (Nat → Nat → Int32)) : Nat → Int64 → Int32 → Prop
  | 0, _, _ => False
  | n + 1, x40_1, x40_3 => ((12 ≤ x40_3 → (okl_L_seen_67 o st b pf g 31 x40_1 0)) ∧ (¬ 12 ≤ x40_3 → (ok_X6_count b x40_3) ∧ (gL (f_X6_count o st b pf hh t x40_3) (fun (R37 : Int32) => (gL (((31 * x40_1) + ((R37).toInt64))) (fun (v39 : Int64) => (gL ((x40_3 + 1)) (fun (v40 : Int32) => (okl_L_seen_40 o st b pf g hh t n v39 v40)))))))))
def fl_L_seen_6 (o : (Nat → Int32)) (st : (Nat → Int32)) (b : (Nat → Nat → Int32)) (pf : (Nat → Nat → Int32)) (g : (Nat → Nat → Int32)) (fo : (Nat → Int32)) (fst : (Nat → Int32)) (fb : (Nat → Nat → Int32)) (fp : (Nat → Nat → Int32)) (fg : (Nat → Nat → Int32)) (hh : HVal) (t : (Nat → Nat → Int32)) : Nat → Int64 → Int32 → Int64 × (Nat → Int32) × (Nat → Int32) × (Nat → Nat → Int32) × (Nat → Nat → Int32) × (Nat → Nat → Int32)
  | 0, _, _ => ((0 : Int64), (fun _ => 0), (fun _ => 0), (fun _ _ => 0), (fun _ _ => 0), (fun _ _ => 0))
  | n + 1, x6_1, x6_3 => (if 54 ≤ x6_3 then (fl_L_seen_40 o st b pf g fo fst fb fp fg hh t 13 x6_1 0) else (gL (f_X6_cell st b (x6_3 / 9) (x6_3 - x6_3 / 9 * 9)) (fun (R41 : Int32) => (gL (((31 * x6_1) + ((R41).toInt64))) (fun (v43 : Int64) => (gL ((x6_3 + 1)) (fun (v44 : Int32) => (fl_L_seen_6 o st b pf g fo fst fb fp fg hh t n v43 v44))))))))
def okl_L_seen_6 (o : (Nat → Int32)) (st : (Nat → Int32)) (b : (Nat → Nat → Int32)) (pf : (Nat → Nat → Int32)) (g : (Nat → Nat → Int32)) (hh : HVal) (t : (Nat → Nat → Int32)) : Nat → Int64 → Int32 → Prop
  | 0, _, _ => False
  | n + 1, x6_1, x6_3 => ((54 ≤ x6_3 → (okl_L_seen_40 o st b pf g hh t 13 x6_1 0)) ∧ (¬ 54 ≤ x6_3 → (ok_X6_cell st b (x6_3 / 9) (x6_3 - x6_3 / 9 * 9)) ∧ (gL (f_X6_cell st b (x6_3 / 9) (x6_3 - x6_3 / 9 * 9)) (fun (R41 : Int32) => (gL (((31 * x6_1) + ((R41).toInt64))) (fun (v43 : Int64) => (gL ((x6_3 + 1)) (fun (v44 : Int32) => (okl_L_seen_6 o st b pf g hh t n v43 v44)))))))))
def f_L_seen (o : (Nat → Int32)) (st : (Nat → Int32)) (b : (Nat → Nat → Int32)) (pf : (Nat → Nat → Int32)) (g : (Nat → Nat → Int32)) (fo : (Nat → Int32)) (fst : (Nat → Int32)) (fb : (Nat → Nat → Int32)) (fp : (Nat → Nat → Int32)) (fg : (Nat → Nat → Int32)) (hh : HVal) (t : (Nat → Nat → Int32)) : Int64 × (Nat → Int32) × (Nat → Int32) × (Nat → Nat → Int32) × (Nat → Nat → Int32) × (Nat → Nat → Int32) := (fl_L_seen_6 o st b pf g fo fst fb fp fg hh t 55 5 0)
def ok_L_seen (o : (Nat → Int32)) (st : (Nat → Int32)) (b : (Nat → Nat → Int32)) (pf : (Nat → Nat → Int32)) (g : (Nat → Nat → Int32)) (hh : HVal) (t : (Nat → Nat → Int32)) : Prop := (okl_L_seen_6 o st b pf g hh t 55 5 0)
set_option maxHeartbeats 4000000 in
set_option maxRecDepth 100000 in
theorem c_L_seen (l : Launch) (G : gG) (x : Nat → Nat) (cx : (Nat → Int32)) (o : (Nat → Int32)) (st : (Nat → Int32)) (b : (Nat → Nat → Int32)) (pf : (Nat → Nat → Int32)) (g : (Nat → Nat → Int32)) (fo : (Nat → Int32)) (fst : (Nat → Int32)) (fb : (Nat → Nat → Int32)) (fp : (Nat → Nat → Int32)) (fg : (Nat → Nat → Int32)) (hh : HVal) (t : (Nat → Nat → Int32)) (R : Int64 × (Nat → Int32) × (Nat → Int32) × (Nat → Nat → Int32) × (Nat → Nat → Int32) × (Nat → Nat → Int32)) (hR : R = f_L_seen o st b pf g fo fst fb fp fg hh t) (hok : ok_L_seen o st b pf g hh t) : CT l G yL_seen wsL_seen 8 162 [.ref (x 0)] [CW G x cx, OW G (fun k => x (k + 1)) o, AW G (x 2) 9 st, BW G (fun k => x (k + 3)) b, PW G (fun k => x (k + 11)) pf, LW G (fun k => x (k + 16)) g, OW G (fun k => x (k + 20)) fo, AW G (x 21) 9 fst, BW G (fun k => x (k + 22)) fb, PW G (fun k => x (k + 30)) fp, LW G (fun k => x (k + 35)) fg, HGW G (fun k => x (k + 58)) hh, TW G (fun k => x (k + 136)) t] (some (.long R.1)) [CW G x cx, OW G (fun k => x (k + 1)) o, AW G (x 2) 9 st, BW G (fun k => x (k + 3)) b, PW G (fun k => x (k + 11)) pf, LW G (fun k => x (k + 16)) g, OW G (fun k => x (k + 20)) R.2.1, AW G (x 21) 9 R.2.2.1, BW G (fun k => x (k + 22)) R.2.2.2.1, PW G (fun k => x (k + 30)) R.2.2.2.2.1, LW G (fun k => x (k + 35)) R.2.2.2.2.2, HGW G (fun k => x (k + 58)) hh, TW G (fun k => x (k + 136)) t] := by
  unfold f_L_seen at hR
  unfold ok_L_seen at hok
  refine CT.of (cc := cL_seen) (maxL := 4) (ret := (some .long)) (plainFor_of_name (by decide +kernel)) rfl rfl (Nat.le_of_ble_eq_true rfl) ?_
  intro p e s m below meth c A ls hx hb hml hr hts hown hlocks hK hP hD hA hS hl
  have hown : s.vm.findClass RL = some m.cls := hown
  have hl : lv_has ls 4 [(0, .ref (x 0))] := hl
  refine lv_ldc2 (v := 5) hx hb hown (hts (.constantLong RL 9 5) (List.mem_of_getElem? (i := 1) rfl)) dL_seen_0 ?_
  refine lv_lstore_n (lv' := [(1, .long 5), (0, .ref (x 0))]) hx hb dL_seen_3 rfl hl (by decide) rfl (fun ls hl => ?_)
  refine lv_iconst (v := 0) hx hb dL_seen_4 (by decide) ?_
  refine lv_istore_n (lv' := [(3, .int 0), (1, .long 5), (0, .ref (x 0))]) hx hb dL_seen_5 rfl hl (by decide) rfl (fun ls hl => ?_)
  have lp6 : ∀ (n : Nat) (x6_1 : Int64) (x6_3 : Int32) (H : Heap) (locs : List Loc) (ls : Array Slot), R = fl_L_seen_6 o st b pf g fo fst fb fp fg hh t n x6_1 x6_3 → okl_L_seen_6 o st b pf g hh t n x6_1 x6_3 → va_P G.1 vwCl (List.flatten [CW G x cx, OW G (fun k => x (k + 1)) o, AW G (x 2) 9 st, BW G (fun k => x (k + 3)) b, PW G (fun k => x (k + 11)) pf, LW G (fun k => x (k + 16)) g, OW G (fun k => x (k + 20)) fo, AW G (x 21) 9 fst, BW G (fun k => x (k + 22)) fb, PW G (fun k => x (k + 30)) fp, LW G (fun k => x (k + 35)) fg, HGW G (fun k => x (k + 58)) hh, TW G (fun k => x (k + 136)) t]) H → va_D A (List.flatten [CW G x cx, OW G (fun k => x (k + 1)) o, AW G (x 2) 9 st, BW G (fun k => x (k + 3)) b, PW G (fun k => x (k + 11)) pf, LW G (fun k => x (k + 16)) g, OW G (fun k => x (k + 20)) fo, AW G (x 21) 9 fst, BW G (fun k => x (k + 22)) fb, PW G (fun k => x (k + 30)) fp, LW G (fun k => x (k + 35)) fg, HGW G (fun k => x (k + 58)) hh, TW G (fun k => x (k + 136)) t]) → va_S A s.heap H locs → lv_has ls 4 [(0, .ref (x 0)), (1, .long x6_1), (3, .int x6_3)] → W p l e { frames := 8, cells := 0, slots := 0, locals := 162 } s m (List.toArray [.ref (x 0)]) below meth c H locs 0 0 (gQ G below (List.toArray [.ref (x 0)]) s (some (.long R.1)) [CW G x cx, OW G (fun k => x (k + 1)) o, AW G (x 2) 9 st, BW G (fun k => x (k + 3)) b, PW G (fun k => x (k + 11)) pf, LW G (fun k => x (k + 16)) g, OW G (fun k => x (k + 20)) R.2.1, AW G (x 21) 9 R.2.2.1, BW G (fun k => x (k + 22)) R.2.2.2.1, PW G (fun k => x (k + 30)) R.2.2.2.2.1, LW G (fun k => x (k + 35)) R.2.2.2.2.2, HGW G (fun k => x (k + 58)) hh, TW G (fun k => x (k + 136)) t] A) (F0 m 6 ls []) := by
    intro n
    induction n with
    | zero =>
      intro x6_1 x6_3 H locs ls hR hok hP hD hS hl
      rw [okl_L_seen_6] at hok
      exact hok.elim
    | succ n ih =>
      intro x6_1 x6_3 H locs ls hR hok hP hD hS hl
      rw [fl_L_seen_6] at hR
      rw [okl_L_seen_6] at hok
      refine lv_iload_n hx hb dL_seen_6 rfl (lv_at hl 2 rfl) ?_
      refine lv_bipush (v := 54) hx hb dL_seen_7 (by decide) ?_
      refine lv_icmp_ge (tgt := 38) hx hb dL_seen_9 (by decide) (fun c4 => ?_) (fun c4 => ?_)
      · rw [if_pos c4] at hR
        have hok := hok.1 c4
        refine lv_iconst (v := 0) hx hb dL_seen_38 (by decide) ?_
        refine lv_istore_n (lv' := [(3, .int 0), (0, .ref (x 0)), (1, .long x6_1)]) hx hb dL_seen_39 rfl hl (by decide) rfl (fun ls hl => ?_)
        have lp40 : ∀ (n : Nat) (x40_1 : Int64) (x40_3 : Int32) (H : Heap) (locs : List Loc) (ls : Array Slot), R = fl_L_seen_40 o st b pf g fo fst fb fp fg hh t n x40_1 x40_3 → okl_L_seen_40 o st b pf g hh t n x40_1 x40_3 → va_P G.1 vwCl (List.flatten [CW G x cx, OW G (fun k => x (k + 1)) o, AW G (x 2) 9 st, BW G (fun k => x (k + 3)) b, PW G (fun k => x (k + 11)) pf, LW G (fun k => x (k + 16)) g, OW G (fun k => x (k + 20)) fo, AW G (x 21) 9 fst, BW G (fun k => x (k + 22)) fb, PW G (fun k => x (k + 30)) fp, LW G (fun k => x (k + 35)) fg, HGW G (fun k => x (k + 58)) hh, TW G (fun k => x (k + 136)) t]) H → va_D A (List.flatten [CW G x cx, OW G (fun k => x (k + 1)) o, AW G (x 2) 9 st, BW G (fun k => x (k + 3)) b, PW G (fun k => x (k + 11)) pf, LW G (fun k => x (k + 16)) g, OW G (fun k => x (k + 20)) fo, AW G (x 21) 9 fst, BW G (fun k => x (k + 22)) fb, PW G (fun k => x (k + 30)) fp, LW G (fun k => x (k + 35)) fg, HGW G (fun k => x (k + 58)) hh, TW G (fun k => x (k + 136)) t]) → va_S A s.heap H locs → lv_has ls 4 [(0, .ref (x 0)), (1, .long x40_1), (3, .int x40_3)] → W p l e { frames := 8, cells := 0, slots := 0, locals := 162 } s m (List.toArray [.ref (x 0)]) below meth c H locs 0 0 (gQ G below (List.toArray [.ref (x 0)]) s (some (.long R.1)) [CW G x cx, OW G (fun k => x (k + 1)) o, AW G (x 2) 9 st, BW G (fun k => x (k + 3)) b, PW G (fun k => x (k + 11)) pf, LW G (fun k => x (k + 16)) g, OW G (fun k => x (k + 20)) R.2.1, AW G (x 21) 9 R.2.2.1, BW G (fun k => x (k + 22)) R.2.2.2.1, PW G (fun k => x (k + 30)) R.2.2.2.2.1, LW G (fun k => x (k + 35)) R.2.2.2.2.2, HGW G (fun k => x (k + 58)) hh, TW G (fun k => x (k + 136)) t] A) (F0 m 40 ls []) := by
          intro n
          induction n with
          | zero =>
            intro x40_1 x40_3 H locs ls hR hok hP hD hS hl
            rw [okl_L_seen_40] at hok
            exact hok.elim
          | succ n ih =>
            intro x40_1 x40_3 H locs ls hR hok hP hD hS hl
            rw [fl_L_seen_40] at hR
            rw [okl_L_seen_40] at hok
            refine lv_iload_n hx hb dL_seen_40 rfl (lv_at hl 2 rfl) ?_
            refine lv_bipush (v := 12) hx hb dL_seen_41 (by decide) ?_
            refine lv_icmp_ge (tgt := 65) hx hb dL_seen_43 (by decide) (fun c8 => ?_) (fun c8 => ?_)
            · rw [if_pos c8] at hR
              have hok := hok.1 c8
              refine lv_iconst (v := 0) hx hb dL_seen_65 (by decide) ?_
              refine lv_istore_n (lv' := [(3, .int 0), (0, .ref (x 0)), (1, .long x40_1)]) hx hb dL_seen_66 rfl hl (by decide) rfl (fun ls hl => ?_)
              have lp67 : ∀ (n : Nat) (x67_1 : Int64) (x67_3 : Int32) (H : Heap) (locs : List Loc) (ls : Array Slot), R = fl_L_seen_67 o st b pf g fo fst fb fp fg n x67_1 x67_3 → okl_L_seen_67 o st b pf g n x67_1 x67_3 → va_P G.1 vwCl (List.flatten [CW G x cx, OW G (fun k => x (k + 1)) o, AW G (x 2) 9 st, BW G (fun k => x (k + 3)) b, PW G (fun k => x (k + 11)) pf, LW G (fun k => x (k + 16)) g, OW G (fun k => x (k + 20)) fo, AW G (x 21) 9 fst, BW G (fun k => x (k + 22)) fb, PW G (fun k => x (k + 30)) fp, LW G (fun k => x (k + 35)) fg, HGW G (fun k => x (k + 58)) hh, TW G (fun k => x (k + 136)) t]) H → va_D A (List.flatten [CW G x cx, OW G (fun k => x (k + 1)) o, AW G (x 2) 9 st, BW G (fun k => x (k + 3)) b, PW G (fun k => x (k + 11)) pf, LW G (fun k => x (k + 16)) g, OW G (fun k => x (k + 20)) fo, AW G (x 21) 9 fst, BW G (fun k => x (k + 22)) fb, PW G (fun k => x (k + 30)) fp, LW G (fun k => x (k + 35)) fg, HGW G (fun k => x (k + 58)) hh, TW G (fun k => x (k + 136)) t]) → va_S A s.heap H locs → lv_has ls 4 [(0, .ref (x 0)), (1, .long x67_1), (3, .int x67_3)] → W p l e { frames := 8, cells := 0, slots := 0, locals := 162 } s m (List.toArray [.ref (x 0)]) below meth c H locs 0 0 (gQ G below (List.toArray [.ref (x 0)]) s (some (.long R.1)) [CW G x cx, OW G (fun k => x (k + 1)) o, AW G (x 2) 9 st, BW G (fun k => x (k + 3)) b, PW G (fun k => x (k + 11)) pf, LW G (fun k => x (k + 16)) g, OW G (fun k => x (k + 20)) R.2.1, AW G (x 21) 9 R.2.2.1, BW G (fun k => x (k + 22)) R.2.2.2.1, PW G (fun k => x (k + 30)) R.2.2.2.2.1, LW G (fun k => x (k + 35)) R.2.2.2.2.2, HGW G (fun k => x (k + 58)) hh, TW G (fun k => x (k + 136)) t] A) (F0 m 67 ls []) := by
                intro n
                induction n with
                | zero =>
                  intro x67_1 x67_3 H locs ls hR hok hP hD hS hl
                  rw [okl_L_seen_67] at hok
                  exact hok.elim
                | succ n ih =>
                  intro x67_1 x67_3 H locs ls hR hok hP hD hS hl
                  rw [fl_L_seen_67] at hR
                  rw [okl_L_seen_67] at hok
                  refine lv_iload_n hx hb dL_seen_67 rfl (lv_at hl 2 rfl) ?_
                  refine lv_bipush (v := 30) hx hb dL_seen_68 (by decide) ?_
                  refine lv_icmp_ge (tgt := 97) hx hb dL_seen_70 (by decide) (fun c12 => ?_) (fun c12 => ?_)
                  · rw [if_pos c12] at hR
                    have hok := hok.1 c12
                    refine lv_iconst (v := 0) hx hb dL_seen_97 (by decide) ?_
                    refine lv_istore_n (lv' := [(3, .int 0), (0, .ref (x 0)), (1, .long x67_1)]) hx hb dL_seen_98 rfl hl (by decide) rfl (fun ls hl => ?_)
                    have lp99 : ∀ (n : Nat) (x99_1 : Int64) (x99_3 : Int32) (H : Heap) (locs : List Loc) (ls : Array Slot), R = fl_L_seen_99 o st b pf g fo fst fb fp fg n x99_1 x99_3 → okl_L_seen_99 o st b pf g n x99_1 x99_3 → va_P G.1 vwCl (List.flatten [CW G x cx, OW G (fun k => x (k + 1)) o, AW G (x 2) 9 st, BW G (fun k => x (k + 3)) b, PW G (fun k => x (k + 11)) pf, LW G (fun k => x (k + 16)) g, OW G (fun k => x (k + 20)) fo, AW G (x 21) 9 fst, BW G (fun k => x (k + 22)) fb, PW G (fun k => x (k + 30)) fp, LW G (fun k => x (k + 35)) fg, HGW G (fun k => x (k + 58)) hh, TW G (fun k => x (k + 136)) t]) H → va_D A (List.flatten [CW G x cx, OW G (fun k => x (k + 1)) o, AW G (x 2) 9 st, BW G (fun k => x (k + 3)) b, PW G (fun k => x (k + 11)) pf, LW G (fun k => x (k + 16)) g, OW G (fun k => x (k + 20)) fo, AW G (x 21) 9 fst, BW G (fun k => x (k + 22)) fb, PW G (fun k => x (k + 30)) fp, LW G (fun k => x (k + 35)) fg, HGW G (fun k => x (k + 58)) hh, TW G (fun k => x (k + 136)) t]) → va_S A s.heap H locs → lv_has ls 4 [(0, .ref (x 0)), (1, .long x99_1), (3, .int x99_3)] → W p l e { frames := 8, cells := 0, slots := 0, locals := 162 } s m (List.toArray [.ref (x 0)]) below meth c H locs 0 0 (gQ G below (List.toArray [.ref (x 0)]) s (some (.long R.1)) [CW G x cx, OW G (fun k => x (k + 1)) o, AW G (x 2) 9 st, BW G (fun k => x (k + 3)) b, PW G (fun k => x (k + 11)) pf, LW G (fun k => x (k + 16)) g, OW G (fun k => x (k + 20)) R.2.1, AW G (x 21) 9 R.2.2.1, BW G (fun k => x (k + 22)) R.2.2.2.1, PW G (fun k => x (k + 30)) R.2.2.2.2.1, LW G (fun k => x (k + 35)) R.2.2.2.2.2, HGW G (fun k => x (k + 58)) hh, TW G (fun k => x (k + 136)) t] A) (F0 m 99 ls []) := by
                      intro n
                      induction n with
                      | zero =>
                        intro x99_1 x99_3 H locs ls hR hok hP hD hS hl
                        rw [okl_L_seen_99] at hok
                        exact hok.elim
                      | succ n ih =>
                        intro x99_1 x99_3 H locs ls hR hok hP hD hS hl
                        rw [fl_L_seen_99] at hR
                        rw [okl_L_seen_99] at hok
                        refine lv_iload_n hx hb dL_seen_99 rfl (lv_at hl 2 rfl) ?_
                        refine lv_bipush (v := 25) hx hb dL_seen_100 (by decide) ?_
                        refine lv_icmp_ge (tgt := 129) hx hb dL_seen_102 (by decide) (fun c16 => ?_) (fun c16 => ?_)
                        · rw [if_pos c16] at hR
                          have hok := hok.1 c16
                          refine lv_iconst (v := 0) hx hb dL_seen_129 (by decide) ?_
                          refine lv_istore_n (lv' := [(3, .int 0), (0, .ref (x 0)), (1, .long x99_1)]) hx hb dL_seen_130 rfl hl (by decide) rfl (fun ls hl => ?_)
                          have lp131 : ∀ (n : Nat) (x131_1 : Int64) (x131_3 : Int32) (H : Heap) (locs : List Loc) (ls : Array Slot), R = fl_L_seen_131 o st b pf g fo fst fb fp fg n x131_1 x131_3 → okl_L_seen_131 o st b pf g n x131_1 x131_3 → va_P G.1 vwCl (List.flatten [CW G x cx, OW G (fun k => x (k + 1)) o, AW G (x 2) 9 st, BW G (fun k => x (k + 3)) b, PW G (fun k => x (k + 11)) pf, LW G (fun k => x (k + 16)) g, OW G (fun k => x (k + 20)) fo, AW G (x 21) 9 fst, BW G (fun k => x (k + 22)) fb, PW G (fun k => x (k + 30)) fp, LW G (fun k => x (k + 35)) fg, HGW G (fun k => x (k + 58)) hh, TW G (fun k => x (k + 136)) t]) H → va_D A (List.flatten [CW G x cx, OW G (fun k => x (k + 1)) o, AW G (x 2) 9 st, BW G (fun k => x (k + 3)) b, PW G (fun k => x (k + 11)) pf, LW G (fun k => x (k + 16)) g, OW G (fun k => x (k + 20)) fo, AW G (x 21) 9 fst, BW G (fun k => x (k + 22)) fb, PW G (fun k => x (k + 30)) fp, LW G (fun k => x (k + 35)) fg, HGW G (fun k => x (k + 58)) hh, TW G (fun k => x (k + 136)) t]) → va_S A s.heap H locs → lv_has ls 4 [(0, .ref (x 0)), (1, .long x131_1), (3, .int x131_3)] → W p l e { frames := 8, cells := 0, slots := 0, locals := 162 } s m (List.toArray [.ref (x 0)]) below meth c H locs 0 0 (gQ G below (List.toArray [.ref (x 0)]) s (some (.long R.1)) [CW G x cx, OW G (fun k => x (k + 1)) o, AW G (x 2) 9 st, BW G (fun k => x (k + 3)) b, PW G (fun k => x (k + 11)) pf, LW G (fun k => x (k + 16)) g, OW G (fun k => x (k + 20)) R.2.1, AW G (x 21) 9 R.2.2.1, BW G (fun k => x (k + 22)) R.2.2.2.1, PW G (fun k => x (k + 30)) R.2.2.2.2.1, LW G (fun k => x (k + 35)) R.2.2.2.2.2, HGW G (fun k => x (k + 58)) hh, TW G (fun k => x (k + 136)) t] A) (F0 m 131 ls []) := by
                            intro n
                            induction n with
                            | zero =>
                              intro x131_1 x131_3 H locs ls hR hok hP hD hS hl
                              rw [okl_L_seen_131] at hok
                              exact hok.elim
                            | succ n ih =>
                              intro x131_1 x131_3 H locs ls hR hok hP hD hS hl
                              rw [fl_L_seen_131] at hR
                              rw [okl_L_seen_131] at hok
                              refine lv_iload_n hx hb dL_seen_131 rfl (lv_at hl 2 rfl) ?_
                              refine lv_bipush (v := 9) hx hb dL_seen_132 (by decide) ?_
                              refine lv_icmp_ge (tgt := 156) hx hb dL_seen_134 (by decide) (fun c20 => ?_) (fun c20 => ?_)
                              · rw [if_pos c20] at hR
                                have hok := hok.1 c20
                                refine lv_ldc2 (v := 31) hx hb hown (hts (.constantLong RL 11 31) (List.mem_of_getElem? (i := 2) rfl)) dL_seen_156 ?_
                                refine lv_ldc2 (v := 31) hx hb hown (hts (.constantLong RL 11 31) (List.mem_of_getElem? (i := 2) rfl)) dL_seen_159 ?_
                                refine lv_lload_n hx hb dL_seen_162 rfl (lv_at hl 1 rfl) ?_
                                refine lv_lmul hx hb dL_seen_163 ?_
                                refine lv_aload_n hx hb dL_seen_164 rfl (lv_at hl 0 rfl) ?_
                                obtain ⟨k22, hok⟩ := hok
                                obtain ⟨R21, eR21, hR, hok⟩ := g_let2 hR hok
                                refine g_callV (c_X6_current l G x cx o st b pf g R21 eR21 k22) hx hb hml hown hts hK hP hD hS hA gL_seen_X6_current rfl (n := 0) (by decide +kernel) rfl ⟨Nat.le_of_ble_eq_true rfl, Nat.le_of_ble_eq_true rfl⟩ [0, 1, 2, 3, 4, 5] rfl (by decide) 0 rfl (ci := 6) rfl hl.1 rfl (Nat.le_of_ble_eq_true rfl) ⟨Nat.zero_le _, Nat.zero_le _⟩ dL_seen_165 (fun H locs hP hD hS => ?_)
                                have hP : va_P G.1 vwCl (List.flatten [CW G x cx, OW G (fun k => x (k + 1)) o, AW G (x 2) 9 st, BW G (fun k => x (k + 3)) b, PW G (fun k => x (k + 11)) pf, LW G (fun k => x (k + 16)) g, OW G (fun k => x (k + 20)) fo, AW G (x 21) 9 fst, BW G (fun k => x (k + 22)) fb, PW G (fun k => x (k + 30)) fp, LW G (fun k => x (k + 35)) fg, HGW G (fun k => x (k + 58)) hh, TW G (fun k => x (k + 136)) t]) H := hP
                                have hD : va_D A (List.flatten [CW G x cx, OW G (fun k => x (k + 1)) o, AW G (x 2) 9 st, BW G (fun k => x (k + 3)) b, PW G (fun k => x (k + 11)) pf, LW G (fun k => x (k + 16)) g, OW G (fun k => x (k + 20)) fo, AW G (x 21) 9 fst, BW G (fun k => x (k + 22)) fb, PW G (fun k => x (k + 30)) fp, LW G (fun k => x (k + 35)) fg, HGW G (fun k => x (k + 58)) hh, TW G (fun k => x (k + 136)) t]) := hD
                                refine lv_i2l hx hb dL_seen_168 rfl ?_
                                refine lv_ladd hx hb dL_seen_169 ?_
                                refine lv_lmul hx hb dL_seen_170 ?_
                                refine lv_aload_n hx hb dL_seen_171 rfl (lv_at hl 0 rfl) ?_
                                obtain ⟨k24, hok⟩ := hok
                                obtain ⟨R23, eR23, hR⟩ := g_let hR
                                refine g_callV (c_X6_doneIn l G x cx o st b pf g fo fst fb fp fg R23 eR23 k24) hx hb hml hown hts hK hP hD hS hA gL_seen_X6_doneIn rfl (n := 0) (by decide +kernel) rfl ⟨Nat.le_of_ble_eq_true rfl, Nat.le_of_ble_eq_true rfl⟩ [0, 1, 2, 3, 4, 5, 6, 7, 8, 9, 10] rfl (by decide) 0 rfl (ci := 6) rfl hl.1 rfl (Nat.le_of_ble_eq_true rfl) ⟨Nat.zero_le _, Nat.zero_le _⟩ dL_seen_172 (fun H locs hP hD hS => ?_)
                                have hP : va_P G.1 vwCl (List.flatten [CW G x cx, OW G (fun k => x (k + 1)) o, AW G (x 2) 9 st, BW G (fun k => x (k + 3)) b, PW G (fun k => x (k + 11)) pf, LW G (fun k => x (k + 16)) g, OW G (fun k => x (k + 20)) R23.2.1, AW G (x 21) 9 R23.2.2.1, BW G (fun k => x (k + 22)) R23.2.2.2.1, PW G (fun k => x (k + 30)) R23.2.2.2.2.1, LW G (fun k => x (k + 35)) R23.2.2.2.2.2, HGW G (fun k => x (k + 58)) hh, TW G (fun k => x (k + 136)) t]) H := hP
                                have hD : va_D A (List.flatten [CW G x cx, OW G (fun k => x (k + 1)) o, AW G (x 2) 9 st, BW G (fun k => x (k + 3)) b, PW G (fun k => x (k + 11)) pf, LW G (fun k => x (k + 16)) g, OW G (fun k => x (k + 20)) R23.2.1, AW G (x 21) 9 R23.2.2.1, BW G (fun k => x (k + 22)) R23.2.2.2.1, PW G (fun k => x (k + 30)) R23.2.2.2.2.1, LW G (fun k => x (k + 35)) R23.2.2.2.2.2, HGW G (fun k => x (k + 58)) hh, TW G (fun k => x (k + 136)) t]) := hD
                                refine lv_i2l hx hb dL_seen_175 rfl ?_
                                refine lv_ladd hx hb dL_seen_176 ?_
                                subst hR
                                exact g_retl hx hb hr hlocks hS dL_seen_177 rfl hP
                              · rw [if_neg c20] at hR
                                have hok := hok.2 c20
                                refine lv_ldc2 (v := 31) hx hb hown (hts (.constantLong RL 11 31) (List.mem_of_getElem? (i := 2) rfl)) dL_seen_137 ?_
                                refine lv_lload_n hx hb dL_seen_140 rfl (lv_at hl 1 rfl) ?_
                                refine lv_lmul hx hb dL_seen_141 ?_
                                refine lv_aload_n hx hb dL_seen_142 rfl (lv_at hl 0 rfl) ?_
                                refine lv_iload_n hx hb dL_seen_143 rfl (lv_at hl 2 rfl) ?_
                                obtain ⟨k26, hok⟩ := hok
                                obtain ⟨R25, eR25, hR, hok⟩ := g_let2 hR hok
                                refine g_callV (c_X6_setting l G x cx o st b pf g x131_3 R25 eR25 k26) hx hb hml hown hts hK hP hD hS hA gL_seen_X6_setting rfl (n := 1) (by decide +kernel) rfl ⟨Nat.le_of_ble_eq_true rfl, Nat.le_of_ble_eq_true rfl⟩ [0, 1, 2, 3, 4, 5] rfl (by decide) 0 rfl (ci := 6) rfl hl.1 rfl (Nat.le_of_ble_eq_true rfl) ⟨Nat.zero_le _, Nat.zero_le _⟩ dL_seen_144 (fun H locs hP hD hS => ?_)
                                have hP : va_P G.1 vwCl (List.flatten [CW G x cx, OW G (fun k => x (k + 1)) o, AW G (x 2) 9 st, BW G (fun k => x (k + 3)) b, PW G (fun k => x (k + 11)) pf, LW G (fun k => x (k + 16)) g, OW G (fun k => x (k + 20)) fo, AW G (x 21) 9 fst, BW G (fun k => x (k + 22)) fb, PW G (fun k => x (k + 30)) fp, LW G (fun k => x (k + 35)) fg, HGW G (fun k => x (k + 58)) hh, TW G (fun k => x (k + 136)) t]) H := hP
                                have hD : va_D A (List.flatten [CW G x cx, OW G (fun k => x (k + 1)) o, AW G (x 2) 9 st, BW G (fun k => x (k + 3)) b, PW G (fun k => x (k + 11)) pf, LW G (fun k => x (k + 16)) g, OW G (fun k => x (k + 20)) fo, AW G (x 21) 9 fst, BW G (fun k => x (k + 22)) fb, PW G (fun k => x (k + 30)) fp, LW G (fun k => x (k + 35)) fg, HGW G (fun k => x (k + 58)) hh, TW G (fun k => x (k + 136)) t]) := hD
                                refine lv_i2l hx hb dL_seen_147 rfl ?_
                                refine lv_ladd hx hb dL_seen_148 ?_
                                obtain ⟨v27, ev27, hR, hok⟩ := g_let2 hR hok
                                refine g_topL ev27.symm ?_
                                refine lv_lstore_n (lv' := [(1, .long v27), (0, .ref (x 0)), (3, .int x131_3)]) hx hb dL_seen_149 rfl hl (by decide) rfl (fun ls hl => ?_)
                                obtain ⟨v28, ev28, hR, hok⟩ := g_let2 hR hok
                                refine lv_iinc (v := v28) (lv' := [(3, .int v28), (1, .long v27), (0, .ref (x 0))]) hx hb dL_seen_150 hl (k := 2) rfl (by subst ev28; rfl) (by decide) rfl (fun ls hl => ?_)
                                refine lv_goto (tgt := 131) hx hb dL_seen_153 (by decide) ?_
                                exact ih v27 v28 _ _ _ hR hok hP hD hS (lv_sub hl [2, 1, 0] rfl)
                          exact lp131 10 x99_1 0 _ _ _ hR hok hP hD hS (lv_sub hl [1, 2, 0] rfl)
                        · rw [if_neg c16] at hR
                          have hok := hok.2 c16
                          refine lv_ldc2 (v := 31) hx hb hown (hts (.constantLong RL 11 31) (List.mem_of_getElem? (i := 2) rfl)) dL_seen_105 ?_
                          refine lv_lload_n hx hb dL_seen_108 rfl (lv_at hl 1 rfl) ?_
                          refine lv_lmul hx hb dL_seen_109 ?_
                          refine lv_aload_n hx hb dL_seen_110 rfl (lv_at hl 0 rfl) ?_
                          refine lv_iload_n hx hb dL_seen_111 rfl (lv_at hl 2 rfl) ?_
                          refine lv_iconst (v := 5) hx hb dL_seen_112 (by decide) ?_
                          refine lv_idiv hx hb dL_seen_113 (by decide) ?_
                          refine lv_iload_n hx hb dL_seen_114 rfl (lv_at hl 2 rfl) ?_
                          refine lv_iconst (v := 5) hx hb dL_seen_115 (by decide) ?_
                          refine lv_irem hx hb dL_seen_116 (by decide) ?_
                          obtain ⟨k30, hok⟩ := hok
                          obtain ⟨R29, eR29, hR, hok⟩ := g_let2 hR hok
                          refine g_callV (c_X6_stage l G x cx o st b pf g (x99_3 / 5) (x99_3 - x99_3 / 5 * 5) R29 eR29 k30) hx hb hml hown hts hK hP hD hS hA gL_seen_X6_stage rfl (n := 2) (by decide +kernel) rfl ⟨Nat.le_of_ble_eq_true rfl, Nat.le_of_ble_eq_true rfl⟩ [0, 1, 2, 3, 4, 5] rfl (by decide) 0 rfl (ci := 6) rfl hl.1 rfl (Nat.le_of_ble_eq_true rfl) ⟨Nat.zero_le _, Nat.zero_le _⟩ dL_seen_117 (fun H locs hP hD hS => ?_)
                          have hP : va_P G.1 vwCl (List.flatten [CW G x cx, OW G (fun k => x (k + 1)) o, AW G (x 2) 9 st, BW G (fun k => x (k + 3)) b, PW G (fun k => x (k + 11)) pf, LW G (fun k => x (k + 16)) g, OW G (fun k => x (k + 20)) fo, AW G (x 21) 9 fst, BW G (fun k => x (k + 22)) fb, PW G (fun k => x (k + 30)) fp, LW G (fun k => x (k + 35)) fg, HGW G (fun k => x (k + 58)) hh, TW G (fun k => x (k + 136)) t]) H := hP
                          have hD : va_D A (List.flatten [CW G x cx, OW G (fun k => x (k + 1)) o, AW G (x 2) 9 st, BW G (fun k => x (k + 3)) b, PW G (fun k => x (k + 11)) pf, LW G (fun k => x (k + 16)) g, OW G (fun k => x (k + 20)) fo, AW G (x 21) 9 fst, BW G (fun k => x (k + 22)) fb, PW G (fun k => x (k + 30)) fp, LW G (fun k => x (k + 35)) fg, HGW G (fun k => x (k + 58)) hh, TW G (fun k => x (k + 136)) t]) := hD
                          refine lv_i2l hx hb dL_seen_120 rfl ?_
                          refine lv_ladd hx hb dL_seen_121 ?_
                          obtain ⟨v31, ev31, hR, hok⟩ := g_let2 hR hok
                          refine g_topL ev31.symm ?_
                          refine lv_lstore_n (lv' := [(1, .long v31), (0, .ref (x 0)), (3, .int x99_3)]) hx hb dL_seen_122 rfl hl (by decide) rfl (fun ls hl => ?_)
                          obtain ⟨v32, ev32, hR, hok⟩ := g_let2 hR hok
                          refine lv_iinc (v := v32) (lv' := [(3, .int v32), (1, .long v31), (0, .ref (x 0))]) hx hb dL_seen_123 hl (k := 2) rfl (by subst ev32; rfl) (by decide) rfl (fun ls hl => ?_)
                          refine lv_goto (tgt := 99) hx hb dL_seen_126 (by decide) ?_
                          exact ih v31 v32 _ _ _ hR hok hP hD hS (lv_sub hl [2, 1, 0] rfl)
                    exact lp99 26 x67_1 0 _ _ _ hR hok hP hD hS (lv_sub hl [1, 2, 0] rfl)
                  · rw [if_neg c12] at hR
                    have hok := hok.2 c12
                    refine lv_ldc2 (v := 31) hx hb hown (hts (.constantLong RL 11 31) (List.mem_of_getElem? (i := 2) rfl)) dL_seen_73 ?_
                    refine lv_lload_n hx hb dL_seen_76 rfl (lv_at hl 1 rfl) ?_
                    refine lv_lmul hx hb dL_seen_77 ?_
                    refine lv_aload_n hx hb dL_seen_78 rfl (lv_at hl 0 rfl) ?_
                    refine lv_iload_n hx hb dL_seen_79 rfl (lv_at hl 2 rfl) ?_
                    refine lv_iconst (v := 3) hx hb dL_seen_80 (by decide) ?_
                    refine lv_idiv hx hb dL_seen_81 (by decide) ?_
                    refine lv_iload_n hx hb dL_seen_82 rfl (lv_at hl 2 rfl) ?_
                    refine lv_iconst (v := 3) hx hb dL_seen_83 (by decide) ?_
                    refine lv_irem hx hb dL_seen_84 (by decide) ?_
                    obtain ⟨k34, hok⟩ := hok
                    obtain ⟨R33, eR33, hR, hok⟩ := g_let2 hR hok
                    refine g_callV (c_X6_event l G x cx o st b pf g (x67_3 / 3) (x67_3 - x67_3 / 3 * 3) R33 eR33 k34) hx hb hml hown hts hK hP hD hS hA gL_seen_X6_event rfl (n := 2) (by decide +kernel) rfl ⟨Nat.le_of_ble_eq_true rfl, Nat.le_of_ble_eq_true rfl⟩ [0, 1, 2, 3, 4, 5] rfl (by decide) 0 rfl (ci := 6) rfl hl.1 rfl (Nat.le_of_ble_eq_true rfl) ⟨Nat.zero_le _, Nat.zero_le _⟩ dL_seen_85 (fun H locs hP hD hS => ?_)
                    have hP : va_P G.1 vwCl (List.flatten [CW G x cx, OW G (fun k => x (k + 1)) o, AW G (x 2) 9 st, BW G (fun k => x (k + 3)) b, PW G (fun k => x (k + 11)) pf, LW G (fun k => x (k + 16)) g, OW G (fun k => x (k + 20)) fo, AW G (x 21) 9 fst, BW G (fun k => x (k + 22)) fb, PW G (fun k => x (k + 30)) fp, LW G (fun k => x (k + 35)) fg, HGW G (fun k => x (k + 58)) hh, TW G (fun k => x (k + 136)) t]) H := hP
                    have hD : va_D A (List.flatten [CW G x cx, OW G (fun k => x (k + 1)) o, AW G (x 2) 9 st, BW G (fun k => x (k + 3)) b, PW G (fun k => x (k + 11)) pf, LW G (fun k => x (k + 16)) g, OW G (fun k => x (k + 20)) fo, AW G (x 21) 9 fst, BW G (fun k => x (k + 22)) fb, PW G (fun k => x (k + 30)) fp, LW G (fun k => x (k + 35)) fg, HGW G (fun k => x (k + 58)) hh, TW G (fun k => x (k + 136)) t]) := hD
                    refine lv_i2l hx hb dL_seen_88 rfl ?_
                    refine lv_ladd hx hb dL_seen_89 ?_
                    obtain ⟨v35, ev35, hR, hok⟩ := g_let2 hR hok
                    refine g_topL ev35.symm ?_
                    refine lv_lstore_n (lv' := [(1, .long v35), (0, .ref (x 0)), (3, .int x67_3)]) hx hb dL_seen_90 rfl hl (by decide) rfl (fun ls hl => ?_)
                    obtain ⟨v36, ev36, hR, hok⟩ := g_let2 hR hok
                    refine lv_iinc (v := v36) (lv' := [(3, .int v36), (1, .long v35), (0, .ref (x 0))]) hx hb dL_seen_91 hl (k := 2) rfl (by subst ev36; rfl) (by decide) rfl (fun ls hl => ?_)
                    refine lv_goto (tgt := 67) hx hb dL_seen_94 (by decide) ?_
                    exact ih v35 v36 _ _ _ hR hok hP hD hS (lv_sub hl [2, 1, 0] rfl)
              exact lp67 31 x40_1 0 _ _ _ hR hok hP hD hS (lv_sub hl [1, 2, 0] rfl)
            · rw [if_neg c8] at hR
              have hok := hok.2 c8
              refine lv_ldc2 (v := 31) hx hb hown (hts (.constantLong RL 11 31) (List.mem_of_getElem? (i := 2) rfl)) dL_seen_46 ?_
              refine lv_lload_n hx hb dL_seen_49 rfl (lv_at hl 1 rfl) ?_
              refine lv_lmul hx hb dL_seen_50 ?_
              refine lv_aload_n hx hb dL_seen_51 rfl (lv_at hl 0 rfl) ?_
              refine lv_iload_n hx hb dL_seen_52 rfl (lv_at hl 2 rfl) ?_
              obtain ⟨k38, hok⟩ := hok
              obtain ⟨R37, eR37, hR, hok⟩ := g_let2 hR hok
              refine g_callV (c_X6_count l G x cx o st b pf g hh t x40_3 R37 eR37 k38) hx hb hml hown hts hK hP hD hS hA gL_seen_X6_count rfl (n := 1) (by decide +kernel) rfl ⟨Nat.le_of_ble_eq_true rfl, Nat.le_of_ble_eq_true rfl⟩ [0, 1, 2, 3, 4, 5, 11, 12] rfl (by decide) 0 rfl (ci := 6) rfl hl.1 rfl (Nat.le_of_ble_eq_true rfl) ⟨Nat.zero_le _, Nat.zero_le _⟩ dL_seen_53 (fun H locs hP hD hS => ?_)
              have hP : va_P G.1 vwCl (List.flatten [CW G x cx, OW G (fun k => x (k + 1)) o, AW G (x 2) 9 st, BW G (fun k => x (k + 3)) b, PW G (fun k => x (k + 11)) pf, LW G (fun k => x (k + 16)) g, OW G (fun k => x (k + 20)) fo, AW G (x 21) 9 fst, BW G (fun k => x (k + 22)) fb, PW G (fun k => x (k + 30)) fp, LW G (fun k => x (k + 35)) fg, HGW G (fun k => x (k + 58)) hh, TW G (fun k => x (k + 136)) t]) H := hP
              have hD : va_D A (List.flatten [CW G x cx, OW G (fun k => x (k + 1)) o, AW G (x 2) 9 st, BW G (fun k => x (k + 3)) b, PW G (fun k => x (k + 11)) pf, LW G (fun k => x (k + 16)) g, OW G (fun k => x (k + 20)) fo, AW G (x 21) 9 fst, BW G (fun k => x (k + 22)) fb, PW G (fun k => x (k + 30)) fp, LW G (fun k => x (k + 35)) fg, HGW G (fun k => x (k + 58)) hh, TW G (fun k => x (k + 136)) t]) := hD
              refine lv_i2l hx hb dL_seen_56 rfl ?_
              refine lv_ladd hx hb dL_seen_57 ?_
              obtain ⟨v39, ev39, hR, hok⟩ := g_let2 hR hok
              refine g_topL ev39.symm ?_
              refine lv_lstore_n (lv' := [(1, .long v39), (0, .ref (x 0)), (3, .int x40_3)]) hx hb dL_seen_58 rfl hl (by decide) rfl (fun ls hl => ?_)
              obtain ⟨v40, ev40, hR, hok⟩ := g_let2 hR hok
              refine lv_iinc (v := v40) (lv' := [(3, .int v40), (1, .long v39), (0, .ref (x 0))]) hx hb dL_seen_59 hl (k := 2) rfl (by subst ev40; rfl) (by decide) rfl (fun ls hl => ?_)
              refine lv_goto (tgt := 40) hx hb dL_seen_62 (by decide) ?_
              exact ih v39 v40 _ _ _ hR hok hP hD hS (lv_sub hl [2, 1, 0] rfl)
        exact lp40 13 x6_1 0 _ _ _ hR hok hP hD hS (lv_sub hl [1, 2, 0] rfl)
      · rw [if_neg c4] at hR
        have hok := hok.2 c4
        refine lv_ldc2 (v := 31) hx hb hown (hts (.constantLong RL 11 31) (List.mem_of_getElem? (i := 2) rfl)) dL_seen_12 ?_
        refine lv_lload_n hx hb dL_seen_15 rfl (lv_at hl 1 rfl) ?_
        refine lv_lmul hx hb dL_seen_16 ?_
        refine lv_aload_n hx hb dL_seen_17 rfl (lv_at hl 0 rfl) ?_
        refine lv_iload_n hx hb dL_seen_18 rfl (lv_at hl 2 rfl) ?_
        refine lv_bipush (v := 9) hx hb dL_seen_19 (by decide) ?_
        refine lv_idiv hx hb dL_seen_21 (by decide) ?_
        refine lv_iload_n hx hb dL_seen_22 rfl (lv_at hl 2 rfl) ?_
        refine lv_bipush (v := 9) hx hb dL_seen_23 (by decide) ?_
        refine lv_irem hx hb dL_seen_25 (by decide) ?_
        obtain ⟨k42, hok⟩ := hok
        obtain ⟨R41, eR41, hR, hok⟩ := g_let2 hR hok
        refine g_callV (c_X6_cell l G x cx o st b pf g (x6_3 / 9) (x6_3 - x6_3 / 9 * 9) R41 eR41 k42) hx hb hml hown hts hK hP hD hS hA gL_seen_X6_cell rfl (n := 2) (by decide +kernel) rfl ⟨Nat.le_of_ble_eq_true rfl, Nat.le_of_ble_eq_true rfl⟩ [0, 1, 2, 3, 4, 5] rfl (by decide) 0 rfl (ci := 6) rfl hl.1 rfl (Nat.le_of_ble_eq_true rfl) ⟨Nat.zero_le _, Nat.zero_le _⟩ dL_seen_26 (fun H locs hP hD hS => ?_)
        have hP : va_P G.1 vwCl (List.flatten [CW G x cx, OW G (fun k => x (k + 1)) o, AW G (x 2) 9 st, BW G (fun k => x (k + 3)) b, PW G (fun k => x (k + 11)) pf, LW G (fun k => x (k + 16)) g, OW G (fun k => x (k + 20)) fo, AW G (x 21) 9 fst, BW G (fun k => x (k + 22)) fb, PW G (fun k => x (k + 30)) fp, LW G (fun k => x (k + 35)) fg, HGW G (fun k => x (k + 58)) hh, TW G (fun k => x (k + 136)) t]) H := hP
        have hD : va_D A (List.flatten [CW G x cx, OW G (fun k => x (k + 1)) o, AW G (x 2) 9 st, BW G (fun k => x (k + 3)) b, PW G (fun k => x (k + 11)) pf, LW G (fun k => x (k + 16)) g, OW G (fun k => x (k + 20)) fo, AW G (x 21) 9 fst, BW G (fun k => x (k + 22)) fb, PW G (fun k => x (k + 30)) fp, LW G (fun k => x (k + 35)) fg, HGW G (fun k => x (k + 58)) hh, TW G (fun k => x (k + 136)) t]) := hD
        refine lv_i2l hx hb dL_seen_29 rfl ?_
        refine lv_ladd hx hb dL_seen_30 ?_
        obtain ⟨v43, ev43, hR, hok⟩ := g_let2 hR hok
        refine g_topL ev43.symm ?_
        refine lv_lstore_n (lv' := [(1, .long v43), (0, .ref (x 0)), (3, .int x6_3)]) hx hb dL_seen_31 rfl hl (by decide) rfl (fun ls hl => ?_)
        obtain ⟨v44, ev44, hR, hok⟩ := g_let2 hR hok
        refine lv_iinc (v := v44) (lv' := [(3, .int v44), (1, .long v43), (0, .ref (x 0))]) hx hb dL_seen_32 hl (k := 2) rfl (by subst ev44; rfl) (by decide) rfl (fun ls hl => ?_)
        refine lv_goto (tgt := 6) hx hb dL_seen_35 (by decide) ?_
        exact ih v43 v44 _ _ _ hR hok hP hD hS (lv_sub hl [2, 1, 0] rfl)
  exact lp6 55 5 0 _ _ _ hR hok hP hD hS (lv_sub hl [2, 1, 0] rfl)
def fl_L_puts_6 (w : Int64) : Nat → Int32 → Int32 → (Nat → Nat → Int32) → Int32 × (Nat → Nat → Int32)
  | 0, _, _, _ => ((0 : Int32), (fun _ _ => 0))
  | n + 1, x6_3, x6_4, w6_1 => (if x6_4 < 0 then (x6_3, w6_1) else (gL ((((w >>> (x6_4.toInt64 &&& 63)) &&& 255)).toInt32) (fun (v8 : Int32) => (if v8 ≤ 0 then (gL ((x6_4 + (-8))) (fun (v10 : Int32) => (fl_L_puts_6 w n x6_3 v10 w6_1))) else (if x6_3 = 0 then (gL ((x6_4 + (-8))) (fun (v12 : Int32) => (fl_L_puts_6 w n 0 v12 w6_1))) else (gL (f_X6_type w6_1 (((v8).toUInt32 % 65536).toInt32)) (fun (R13 : Int32 × (Nat → Nat → Int32)) => (if R13.1 ≤ 0 then (gL ((x6_4 + (-8))) (fun (v16 : Int32) => (fl_L_puts_6 w n 0 v16 R13.2))) else (gL ((x6_4 + (-8))) (fun (v17 : Int32) => (fl_L_puts_6 w n 1 v17 R13.2)))))))))))
def okl_L_puts_6 (w : Int64) : Nat → Int32 → Int32 → (Nat → Nat → Int32) → Prop
  | 0, _, _, _ => False
  | n + 1, x6_3, x6_4, w6_1 => ((x6_4 < 0 → (gz x6_3) ∧ True) ∧ (¬ x6_4 < 0 → (gL ((((w >>> (x6_4.toInt64 &&& 63)) &&& 255)).toInt32) (fun (v8 : Int32) => ((v8 ≤ 0 → (gL ((x6_4 + (-8))) (fun (v10 : Int32) => (okl_L_puts_6 w n x6_3 v10 w6_1)))) ∧ (¬ v8 ≤ 0 → ((x6_3 = 0 → (gL ((x6_4 + (-8))) (fun (v12 : Int32) => (okl_L_puts_6 w n 0 v12 w6_1)))) ∧ (¬ x6_3 = 0 → (ok_X6_type w6_1) ∧ (gL (f_X6_type w6_1 (((v8).toUInt32 % 65536).toInt32)) (fun (R13 : Int32 × (Nat → Nat → Int32)) => ((R13.1 ≤ 0 → (gL ((x6_4 + (-8))) (fun (v16 : Int32) => (okl_L_puts_6 w n 0 v16 R13.2)))) ∧ (¬ R13.1 ≤ 0 → (gL ((x6_4 + (-8))) (fun (v17 : Int32) => (okl_L_puts_6 w n 1 v17 R13.2)))))))))))))))
def f_L_puts (t : (Nat → Nat → Int32)) (w : Int64) : Int32 × (Nat → Nat → Int32) := (fl_L_puts_6 w 9 1 56 t)
def ok_L_puts (t : (Nat → Nat → Int32)) (w : Int64) : Prop := (okl_L_puts_6 w 9 1 56 t)
set_option maxHeartbeats 4000000 in
set_option maxRecDepth 100000 in
theorem c_L_puts (l : Launch) (G : gG) (x : Nat → Nat) (cx : (Nat → Int32)) (t : (Nat → Nat → Int32)) (w : Int64) (R : Int32 × (Nat → Nat → Int32)) (hR : R = f_L_puts t w) (hok : ok_L_puts t w) : CT l G yL_puts wsL_puts 2 42 [.ref (x 0), .long w] [CW G x cx, TW G (fun k => x (k + 136)) t] (some (.int R.1)) [CW G x cx, TW G (fun k => x (k + 136)) R.2] := by
  unfold f_L_puts at hR
  unfold ok_L_puts at hok
  refine CT.of (cc := cL_puts) (maxL := 6) (ret := (some .boolean)) (plainFor_of_name (by decide +kernel)) rfl rfl (Nat.le_of_ble_eq_true rfl) ?_
  intro p e s m below meth c A ls hx hb hml hr hts hown hlocks hK hP hD hA hS hl
  have hown : s.vm.findClass RL = some m.cls := hown
  have hl : lv_has ls 6 [(0, .ref (x 0)), (1, .long w)] := hl
  refine lv_iconst (v := 1) hx hb dL_puts_0 (by decide) ?_
  refine lv_istore_n (lv' := [(3, .int 1), (0, .ref (x 0)), (1, .long w)]) hx hb dL_puts_1 rfl hl (by decide) rfl (fun ls hl => ?_)
  refine lv_bipush (v := 56) hx hb dL_puts_2 (by decide) ?_
  refine lv_istore (lv' := [(4, .int 56), (3, .int 1), (0, .ref (x 0)), (1, .long w)]) hx hb dL_puts_4 hl (by decide) rfl (fun ls hl => ?_)
  have lp6 : ∀ (n : Nat) (x6_3 : Int32) (x6_4 : Int32) (w6_1 : (Nat → Nat → Int32)) (H : Heap) (locs : List Loc) (ls : Array Slot), R = fl_L_puts_6 w n x6_3 x6_4 w6_1 → okl_L_puts_6 w n x6_3 x6_4 w6_1 → va_P G.1 vwCl (List.flatten [CW G x cx, TW G (fun k => x (k + 136)) w6_1]) H → va_D A (List.flatten [CW G x cx, TW G (fun k => x (k + 136)) w6_1]) → va_S A s.heap H locs → lv_has ls 6 [(0, .ref (x 0)), (1, .long w), (3, .int x6_3), (4, .int x6_4)] → W p l e { frames := 2, cells := 0, slots := 0, locals := 42 } s m (List.toArray [.ref (x 0), .long w]) below meth c H locs 0 0 (gQ G below (List.toArray [.ref (x 0), .long w]) s (some (.int R.1)) [CW G x cx, TW G (fun k => x (k + 136)) R.2] A) (F0 m 6 ls []) := by
    intro n
    induction n with
    | zero =>
      intro x6_3 x6_4 w6_1 H locs ls hR hok hP hD hS hl
      rw [okl_L_puts_6] at hok
      exact hok.elim
    | succ n ih =>
      intro x6_3 x6_4 w6_1 H locs ls hR hok hP hD hS hl
      rw [fl_L_puts_6] at hR
      rw [okl_L_puts_6] at hok
      refine lv_iload hx hb dL_puts_6 (lv_at hl 3 rfl) ?_
      refine lv_if_lt (tgt := 53) hx hb dL_puts_8 (by decide) (fun c6 => ?_) (fun c6 => ?_)
      · rw [if_pos c6] at hR
        have hok := hok.1 c6
        refine lv_iload_n hx hb dL_puts_53 rfl (lv_at hl 2 rfl) ?_
        obtain ⟨k7, hok⟩ := hok
        subst hR
        exact g_retz hx hb hr hlocks hS k7.narrow dL_puts_54 rfl hP
      · rw [if_neg c6] at hR
        have hok := hok.2 c6
        refine lv_lload_n hx hb dL_puts_11 rfl (lv_at hl 1 rfl) ?_
        refine lv_iload hx hb dL_puts_12 (lv_at hl 3 rfl) ?_
        refine lv_lshr hx hb dL_puts_14 rfl ?_
        refine lv_ldc2 (v := 255) hx hb hown (hts (.constantLong RL 79 255) (List.mem_of_getElem? (i := 1) rfl)) dL_puts_15 ?_
        refine lv_land hx hb dL_puts_18 ?_
        refine lv_l2i hx hb dL_puts_19 rfl ?_
        obtain ⟨v8, ev8, hR, hok⟩ := g_let2 hR hok
        refine g_topE ev8.symm ?_
        refine lv_istore (lv' := [(5, .int v8), (0, .ref (x 0)), (1, .long w), (3, .int x6_3), (4, .int x6_4)]) hx hb dL_puts_20 hl (by decide) rfl (fun ls hl => ?_)
        refine lv_iload hx hb dL_puts_22 (lv_at hl 0 rfl) ?_
        refine lv_if_le (tgt := 47) hx hb dL_puts_24 (by decide) (fun c9 => ?_) (fun c9 => ?_)
        · rw [if_pos c9] at hR
          have hok := hok.1 c9
          obtain ⟨v10, ev10, hR, hok⟩ := g_let2 hR hok
          refine lv_iinc (v := v10) (lv' := [(4, .int v10), (5, .int v8), (0, .ref (x 0)), (1, .long w), (3, .int x6_3)]) hx hb dL_puts_47 hl (k := 4) rfl (by subst ev10; rfl) (by decide) rfl (fun ls hl => ?_)
          refine lv_goto (tgt := 6) hx hb dL_puts_50 (by decide) ?_
          exact ih x6_3 v10 w6_1 _ _ _ hR hok hP hD hS (lv_sub hl [2, 3, 4, 0] rfl)
        · rw [if_neg c9] at hR
          have hok := hok.2 c9
          refine lv_iload_n hx hb dL_puts_27 rfl (lv_at hl 3 rfl) ?_
          refine lv_if_eq (tgt := 45) hx hb dL_puts_28 (by decide) (fun c11 => ?_) (fun c11 => ?_)
          · rw [if_pos c11] at hR
            have hok := hok.1 c11
            refine lv_iconst (v := 0) hx hb dL_puts_45 (by decide) ?_
            refine lv_istore_n (lv' := [(3, .int 0), (5, .int v8), (0, .ref (x 0)), (1, .long w), (4, .int x6_4)]) hx hb dL_puts_46 rfl hl (by decide) rfl (fun ls hl => ?_)
            obtain ⟨v12, ev12, hR, hok⟩ := g_let2 hR hok
            refine lv_iinc (v := v12) (lv' := [(4, .int v12), (3, .int 0), (5, .int v8), (0, .ref (x 0)), (1, .long w)]) hx hb dL_puts_47 hl (k := 4) rfl (by subst ev12; rfl) (by decide) rfl (fun ls hl => ?_)
            refine lv_goto (tgt := 6) hx hb dL_puts_50 (by decide) ?_
            exact ih 0 v12 w6_1 _ _ _ hR hok hP hD hS (lv_sub hl [3, 4, 1, 0] rfl)
          · rw [if_neg c11] at hR
            have hok := hok.2 c11
            refine lv_aload_n hx hb dL_puts_31 rfl (lv_at hl 1 rfl) ?_
            refine lv_iload hx hb dL_puts_32 (lv_at hl 0 rfl) ?_
            refine lv_i2c hx hb dL_puts_34 rfl ?_
            obtain ⟨k14, hok⟩ := hok
            obtain ⟨R13, eR13, hR, hok⟩ := g_let2 hR hok
            refine g_callV (c_X6_type l G x cx w6_1 (((v8).toUInt32 % 65536).toInt32) R13 eR13 k14) hx hb hml hown hts hK hP hD hS hA gL_puts_X6_type rfl (n := 1) (by decide +kernel) rfl ⟨Nat.le_of_ble_eq_true rfl, Nat.le_of_ble_eq_true rfl⟩ [0, 1] rfl (by decide) 0 rfl (ci := 6) rfl hl.1 rfl (Nat.le_of_ble_eq_true rfl) ⟨Nat.zero_le _, Nat.zero_le _⟩ dL_puts_35 (fun H locs hP hD hS => ?_)
            have hP : va_P G.1 vwCl (List.flatten [CW G x cx, TW G (fun k => x (k + 136)) R13.2]) H := hP
            have hD : va_D A (List.flatten [CW G x cx, TW G (fun k => x (k + 136)) R13.2]) := hD
            refine lv_if_le (tgt := 45) hx hb dL_puts_38 (by decide) (fun c15 => ?_) (fun c15 => ?_)
            · rw [if_pos c15] at hR
              have hok := hok.1 c15
              refine lv_iconst (v := 0) hx hb dL_puts_45 (by decide) ?_
              refine lv_istore_n (lv' := [(3, .int 0), (5, .int v8), (0, .ref (x 0)), (1, .long w), (4, .int x6_4)]) hx hb dL_puts_46 rfl hl (by decide) rfl (fun ls hl => ?_)
              obtain ⟨v16, ev16, hR, hok⟩ := g_let2 hR hok
              refine lv_iinc (v := v16) (lv' := [(4, .int v16), (3, .int 0), (5, .int v8), (0, .ref (x 0)), (1, .long w)]) hx hb dL_puts_47 hl (k := 4) rfl (by subst ev16; rfl) (by decide) rfl (fun ls hl => ?_)
              refine lv_goto (tgt := 6) hx hb dL_puts_50 (by decide) ?_
              exact ih 0 v16 R13.2 _ _ _ hR hok hP hD hS (lv_sub hl [3, 4, 1, 0] rfl)
            · rw [if_neg c15] at hR
              have hok := hok.2 c15
              refine lv_iconst (v := 1) hx hb dL_puts_41 (by decide) ?_
              refine lv_goto (tgt := 46) hx hb dL_puts_42 (by decide) ?_
              refine lv_istore_n (lv' := [(3, .int 1), (5, .int v8), (0, .ref (x 0)), (1, .long w), (4, .int x6_4)]) hx hb dL_puts_46 rfl hl (by decide) rfl (fun ls hl => ?_)
              obtain ⟨v17, ev17, hR, hok⟩ := g_let2 hR hok
              refine lv_iinc (v := v17) (lv' := [(4, .int v17), (3, .int 1), (5, .int v8), (0, .ref (x 0)), (1, .long w)]) hx hb dL_puts_47 hl (k := 4) rfl (by subst ev17; rfl) (by decide) rfl (fun ls hl => ?_)
              refine lv_goto (tgt := 6) hx hb dL_puts_50 (by decide) ?_
              exact ih 1 v17 R13.2 _ _ _ hR hok hP hD hS (lv_sub hl [3, 4, 1, 0] rfl)
  exact lp6 9 1 56 t _ _ _ hR hok hP hD hS (lv_sub hl [2, 3, 1, 0] rfl)
