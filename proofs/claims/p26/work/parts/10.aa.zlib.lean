theorem gZ.to {z : Nat × Nat × Nat} {A A' : Nat → Prop} {s U : State} {H : Heap} {locs : List Loc} (h : gZ z A s) (hS : va_S A s.heap H locs) (hA : ∀ q, A' q → A q) (hU : U.heap = H) (hW : s.WarmedH U.vm) : gZ z A' U := by
  subst hU
  obtain ⟨h1, h2, h3, h4, h5, h6⟩ := h
  exact ⟨((h1.kept hS.2.1).narrow hA).moved hW.alike, ((h2.kept hS.2.1).narrow hA).moved hW.alike, ((h3.kept hS.2.1).narrow hA).moved hW.alike, ((h4.kept hS.2.1).narrow hA).moved hW.alike, ((h5.kept hS.2.1).narrow hA).moved hW.alike, ((h6.kept hS.2.1).narrow hA).moved hW.alike⟩
theorem gZ.calling {z : Nat × Nat × Nat} {A : Nat → Prop} {U : State} (g : JFrame) (mk : MethodId) (a : Array Value) (h : gZ z A U) : gZ z A (U.calling g mk a) := by
  obtain ⟨h1, h2, h3, h4, h5, h6⟩ := h
  exact ⟨va_Z.moved (u := U) (U := U.calling g mk a) (Vm.Alike.refl U.vm) h1, va_Z.moved (u := U) (U := U.calling g mk a) (Vm.Alike.refl U.vm) h2, va_Z.moved (u := U) (U := U.calling g mk a) (Vm.Alike.refl U.vm) h3, va_T.moved (u := U) (U := U.calling g mk a) (Vm.Alike.refl U.vm) h4, va_T.moved (u := U) (U := U.calling g mk a) (Vm.Alike.refl U.vm) h5, va_T.moved (u := U) (U := U.calling g mk a) (Vm.Alike.refl U.vm) h6⟩
section GCALLZ
variable {p : Program} {l : Launch} {e : Env} {R : Room} {s : State} {m : MethodId} {args : Array Value} {below : List Frame} {meth : Method} {c : Code} {H : Heap} {locs : List Loc} {cells slots : Nat} {Q : State → Prop}
variable {pc : Nat} {ls : Array Slot} {rest st0 : List Value} {A : Nat → Prop} {G : gG} {B Bc Bc' : List va_W} {oc : Option Value} {z : Nat × Nat × Nat}
variable {y : MethodName} {bytes cc : ByteArray} {maxL nL n index fr lo ci q0 : Nat} {ret : Option FieldType} {ws ws' : List Cond} {Ts : List Cond} {own host : String} {b : Addr} {As : List Value} {cq : vw_C} {fs : List Value}
theorem g_callZ (hC : CTZ z l G y ws fr lo (.ref b :: As) Bc oc Bc') (hx : p.tables.exec = Jvm.exec) (hb : c.code = cc) (hml : c.maxLocals = nL) (hown : s.vm.findClass own = some m.cls) (hts : ∀ w ∈ Ts, w.before args s = true) (hK : gK G s)
    (hP : va_P G.1 vwCl B.flatten H) (hD : va_D A B.flatten) (hS : va_S A s.heap H locs) (hA : ∀ q : Nat, s.heap.size ≤ q → A q) (hZ : gZ z A s)
    (hT : GoodIn Ts (wsV own index cq.1 y ws)) (hw : ws = Cond.code y bytes maxL ret :: ws') (hd : y.cls = cq.1 ∧ y.cls ≠ "java/lang/invoke/MethodHandle" ∧ y.cls ≠ "java/lang/invoke/VarHandle" ∧ (parseMethodDescriptor y.desc).map (fun d => d.parameters.length) = some n) (hlen : As.length = n)
    (hR : fr + 1 ≤ R.frames ∧ 8 + (maxL + 11) + lo ≤ R.locals) (is : List Nat) (his : is.map (fun i => B[i]?) = Bc.map some) (hn : va_nd is = true) (q0 : Nat) (hrecv : B.flatten[q0]? = some (b, .inr (ci, fs))) (hci : vwCl[ci]? = some cq)
    (hsize : ls.size = nL) (hstack : st0 = As.reverse ++ .ref b :: rest) (hcat : (rest.map fun v => v.category).sum ≤ 8) (hf : cells ≤ R.cells ∧ slots ≤ R.slots) (hdg : decode cc pc = .ok (.invokevirtual index, 3))
    (kk : ∀ (H1 : Heap) (locs1 : List Loc), va_P G.1 vwCl (gPut B is Bc').flatten H1 → va_D A (gPut B is Bc').flatten → va_S A s.heap H1 locs1 → W p l e R s m args below meth c H1 locs1 cells slots Q (F0 m (pc + 3) ls (oc.toList ++ rest))) : W p l e R s m args below meth c H locs cells slots Q (F0 m pc ls st0) := by
  have hfree : ∀ q : Nat, va_A Bc.flatten H.size q → A q := by
    intro q hq
    rw [g_A_mem] at hq
    rcases hq with hq | hq
    · rw [g_nodup] at hD
      obtain ⟨x, h1, h2⟩ := List.mem_map.mp hq
      obtain ⟨b, hb, hxb⟩ := List.mem_flatten.mp h1
      rw [← h2]
      exact hD.2 x (List.mem_flatten.mpr ⟨b, gPut_sub his b hb, hxb⟩)
    · exact hA q (Nat.le_trans hS.1 hq)
  refine g_end (va_runV (C := cq.1) (As := As) (rest := rest) ⟨hx, hb, hml, hown, hts⟩ (hC.2 H.size) (cwV n hts hT hw rfl rfl hd hR) ⟨fun a U g mk q => ?_, va_recv hK.1 hP hci hrecv, fun U hU hW => ⟨rfl, ?_⟩⟩ rfl hlen hsize hstack (lv_room hcat) hdg hf) hC.1 hP hD hS hA is his hn kk
  · obtain ⟨q0, q1, qP, qK, qD, qZ⟩ := q
    exact ⟨q0, q1, qP, qK.calling g mk a, qD, qZ.calling g mk a⟩
  · obtain ⟨e1, e2, e3, e4⟩ := g_pre hK hP hD is his hn hU hW
    exact ⟨e1, e2, e3, e4, hZ.to hS hfree hU hW⟩
end GCALLZ
