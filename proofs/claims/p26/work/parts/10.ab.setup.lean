section GCPT
variable {p : Program} {l : Launch} {e : Env} {R : Room} {s : State} {m : MethodId} {args : Array Value} {below : List Frame} {meth : Method} {c : Code} {H : Heap} {locs : List Loc} {cells slots : Nat} {Q : State → Prop}
variable {cc : ByteArray} {pc : Nat} {ls : Array Slot} {rest : List Value} {A : Nat → Prop} {a : Nat} {G : gG} {B : List va_W}
/-- a static row of ints, copied whole over a row of the world -/
theorem g_copyT (hx : p.tables.exec = Jvm.exec) (hb : c.code = cc) (hml : c.maxLocals = ls.size) {own : String} {index : Nat} (hown : s.vm.findClass own = some m.cls) (hlink : (Cond.methodLink own index arraycopyName).before args s = true) (hnat : (Cond.native arraycopyName).before args s = true) (hstat : (Cond.static arraycopyName).before args s = true) (hini : (Cond.initialized "java/lang/System").before args s = true)
    (hK : gK G s) (hP : va_P G.1 vwCl B.flatten H) (hD : va_D A B.flatten) (hS : va_S A s.heap H locs) (q1 : Nat) {t N : Nat} {f g : Nat → Int32} (hT : va_T .int t N (fun j => .int (f j)) A s s.heap) (ha1 : B.flatten[q1]? = some (bwI G a N g)) {n : Int32} (h3 : ¬ n < 0) (h4 : n.toNatClampNeg = N) {B2 : List va_W} (hB : B.flatten.set q1 (bwI G a N f) = B2.flatten)
    (hframes : 1 ≤ R.frames) (hlocals : (rest.map fun v => v.category).sum + 18 ≤ R.locals) (hdg : decode cc pc = .ok (.invokestatic index, 3))
    (kk : ∀ (H1 : Heap) (locs1 : List Loc), va_P G.1 vwCl B2.flatten H1 → va_D A B2.flatten → va_S A s.heap H1 locs1 → W p l e R s m args below meth c H1 locs1 cells slots Q (F0 m (pc + 3) ls rest)) : W p l e R s m args below meth c H locs cells slots Q (F0 m pc ls (.int n :: .int 0 :: .ref a :: .int 0 :: .ref t :: rest)) := by
  have hw : nativeFrameWords "java/lang/System" "arraycopy" 5 + 11 = 18 := by decide +kernel
  have z0 : (0 : Int32).toNatClampNeg = 0 := by decide
  have zI : (0 : Int32).toInt = 0 := by decide
  have hni : n.toInt = (N : Int) := by
    have h0 : (0 : Int) ≤ n.toInt := by
      have := Int32.not_lt.mp h3
      simpa using Int32.le_iff_toInt_le.mp this
    have h5 : n.toInt.toNat = N := h4
    omega
  obtain ⟨cell, t1, ⟨t2, k0, hk0, cm0, hkk0⟩, t3, t4, -, t6, t7⟩ := hT
  intro T hTH X
  have hc0 : H[t]? = some cell := by rw [hS.2.1 t (Array.getElem?_eq_some_iff.mp t1).1 t7]; exact t1
  have hc1 : H[a]? = some (vp_cell G.2.1 (N, .inl g)) := hP q1 _ ha1
  obtain ⟨-, k1, hk1, cm1, hkk1⟩ := (hK.1.2 0 (G.2.1, .int) rfl).1 N (fun j => .int (g j))
  obtain ⟨vm', X', step⟩ := X.arraycopy hx hown hlink hnat hstat hini (src := t) (dst := a) (cs := cell) (cd := vp_cell G.2.1 (N, .inl g)) (srcPos := 0) (destPos := 0) (n := n) (by rw [hTH]; exact hc0) (by rw [hTH]; exact hc1)
    t2 (fun _ h => by cases h) t3 (fun h => by cases h) hk0 hk1 hkk0 hkk1 (by simp [refKind]) (by decide) (by decide) h3
    (by rw [hni, zI]; omega) (by rw [hni, zI]; show ¬ _ > ((arrV G.2.1 N (fun j => .int (g j))).slots.size : Int); rw [arrV_size]; omega)
    (fun vm₁ _ i hi => by
      rw [h4] at hi
      have e0 : cell.slots.getD ((0 : Int32).toNatClampNeg + i) .null = .int (f i) := by
        rw [z0, Nat.zero_add, Array.getD_eq_getD_getElem?, t6 i hi]
        rfl
      exact ⟨by rw [e0]; rfl, by rw [e0]; exact trivial⟩)
    (g := F0 m pc ls (.int n :: .int 0 :: .ref a :: .int 0 :: .ref t :: rest)) rfl (by rw [hml]) (rest := rest) rfl (by rw [hb]; exact hdg) hframes (by show 2 * 0 + _ + _ ≤ _; omega)
  have e1 : copied cell (vp_cell G.2.1 (N, .inl g)) 0 0 n = vp_cell G.2.1 (N, .inl (va_cpy f g (0 : Int32).toNatClampNeg (0 : Int32).toNatClampNeg n.toNatClampNeg)) := va_copiedX (n0 := N) (fun z => .int z) cell G.2.1 f g t6 (by rw [z0, h4]; omega)
  have e2 : vp_cell G.2.1 (N, .inl (va_cpy f g (0 : Int32).toNatClampNeg (0 : Int32).toNatClampNeg n.toNatClampNeg)) = vp_cell G.2.1 (N, .inl f) := g_arrV (fun j hj => by rw [z0, h4]; unfold va_cpy; rw [if_pos ⟨Nat.zero_le _, by omega⟩]; congr 1; omega)
  rw [e1, e2] at X' step
  have hl : a < H.size := (Array.getElem?_eq_some_iff.mp hc1).1
  have hheap : ((T.setVm vm').setCell a (vp_cell G.2.1 (N, .inl f))).heap = H.setIfInBounds a (vp_cell G.2.1 (N, .inl f)) := by rw [← hTH]; rfl
  have oq : ∀ q : Nat, q ≠ a → (H.setIfInBounds a (vp_cell G.2.1 (N, .inl f)))[q]? = H[q]? := fun q hq => by simp [Array.getElem?_setIfInBounds, Ne.symm hq]
  have hat : (H.setIfInBounds a (vp_cell G.2.1 (N, .inl f)))[a]? = some (vp_cell G.2.1 (N, .inl f)) := by simp [Array.getElem?_setIfInBounds, hl]
  obtain ⟨t', a1, b1⟩ := kk _ _ (by rw [← hB]; exact hP.set hD ha1 hat oq) (by rw [← hB]; exact hD.set ha1) ⟨by simp; exact hS.1, fun q g1 g2 => by
      rw [oq q (fun e => g2 (by rw [e]; exact hD.2 q1 _ ha1))]
      exact hS.2.1 q g1 g2, fun q hq => by
      rcases List.mem_append.mp hq with h | h
      · exact hS.2.2 q h
      · obtain ⟨z, -, hz⟩ := List.mem_map.mp h
        rw [← hz]
        exact hD.2 q1 _ ha1⟩ _ hheap X'
  exact ⟨t', step t' a1, b1⟩
end GCPT
set_option maxHeartbeats 4000000 in
set_option maxRecDepth 100000 in
theorem c_X4_setUp (l : Launch) (G : gG) (z : Nat × Nat × Nat) (a : Nat → Nat) (o st : Nat → Int32) : CTZ z l G yX4_setUp wsX4_setUp 1 18 [.ref (a 0)] [OW G a o, AW G (a 1) 9 st] none [OW G a o, AW G (a 1) 9 cFirst] := by
  refine CTZ.of (cc := cX4_setUp) (maxL := 1) (ret := none) (plainFor_of_name (by decide +kernel)) rfl rfl (Nat.le_of_ble_eq_true rfl) ?_
  intro p e s m below meth c A ls hx hb hml hr hts hown hlocks hK hP hD hA hS hl hZ
  have hown : s.vm.findClass RX4 = some m.cls := hown
  have hl : lv_has ls 1 [(0, .ref (a 0))] := hl
  have hinX4 : ∀ w ∈ wsX40, w ∈ wsX4_setUp := fun w h => List.mem_cons_of_mem _ (List.mem_append_right _ h)
  refine va_getsN (host := RX6) hx hb hZ.2.2.1 hS hown (va_Nw.use rfl (hK.2 (.fieldLinkNest RX4 62 RX6 "SETTING_FIRST" "[I" RX6) List.mem_cons_self)) (fun _ h => h) dX4_setUp_0 ?_
  refine lv_iconst (v := 0) hx hb dX4_setUp_3 (by decide) ?_
  refine lv_aload_n hx hb dX4_setUp_4 rfl (lv_at hl 0 rfl) ?_
  refine g_get (ci := 4) (v := .ref (a 1)) (C := RX4) (T := TX4) (N := 12) hx hb hts hinX4 hown hK hP 0 rfl rfl 0 (by decide) (hts (.fieldLink RX4 9 "ChargeStages$State" "settings" "[I") (List.mem_of_getElem? (i := 1) rfl)) rfl dX4_setUp_5 ?_
  refine lv_iconst (v := 0) hx hb dX4_setUp_8 (by decide) ?_
  refine lv_bipush (v := 9) hx hb dX4_setUp_9 (by decide) ?_
  refine g_copyT (N := 9) (f := cFirst) (g := st) (B2 := [OW G a o, AW G (a 1) 9 cFirst]) hx hb (hml.trans hl.1.symm) hown (hts (.methodLink RX4 65 arraycopyName) (List.mem_of_getElem? (i := 2) rfl)) (hts (.native arraycopyName) (List.mem_of_getElem? (i := 3) rfl)) (hts (.static arraycopyName) (List.mem_of_getElem? (i := 4) rfl)) (hts (.initialized "java/lang/System") (List.mem_of_getElem? (i := 5) rfl)) hK hP hD hS 1 hZ.2.2.2.2.2 rfl (by decide) (by decide) rfl (Nat.le_of_ble_eq_true rfl) (Nat.le_of_ble_eq_true rfl) dX4_setUp_11 (fun H locs hP hD hS => ?_)
  exact g_retv hx hb hr hlocks hS dX4_setUp_14 rfl hP
