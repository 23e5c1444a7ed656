/-! GROUND for the law's own methods: long rows, static calls that need the tables, calls that make objects of their own -/
/-- a row of longs -/
def JW (G : gG) (a n : Nat) (f : Nat → Int64) : va_W := [(a, .inl (G.2.2.2.2, n, .inr (.inl f)))]
section GRETL
variable {p : Program} {l : Launch} {e : Env} {R : Room} {s : State} {m : MethodId} {args : Array Value} {below : List Frame} {meth : Method} {c : Code} {H : Heap} {locs : List Loc} {cc : ByteArray} {pc : Nat} {ls : Array Slot} {G : gG} {oc : Option Value} {B' : List va_W} {A : Nat → Prop}
theorem g_retl (hx : p.tables.exec = Jvm.exec) (hb : c.code = cc) (hr : meth.sig.returnType = some .long) (hlocks : meth.locks = false) {v : Int64} (hS : va_S A s.heap H locs) (hdg : decode cc pc = .ok (.lreturn, 1)) (hoc : some (.long v) = oc) (hP : va_P G.1 vwCl B'.flatten H) :
    W p l e R s m args below meth c H locs 0 0 (gQ G below args s oc B' A) (F0 m pc ls [.long v]) :=
  W.lret hx hb hr (fun t ht _ => ⟨by rw [hoc], by rw [ht]; exact hP, hS.F ht⟩) hS.2.2 hdg hlocks
end GRETL
section GLONG
variable {p : Program} {l : Launch} {e : Env} {R : Room} {s : State} {m : MethodId} {args : Array Value} {below : List Frame} {meth : Method} {c : Code} {H : Heap} {locs : List Loc} {cells slots : Nat} {Q : State → Prop}
variable {cc : ByteArray} {pc : Nat} {ls : Array Slot} {rest : List Value} {A : Nat → Prop} {a : Nat} {H0 : Heap} {G : gG} {B : List va_W}
theorem g_topL {x y : Int64} (h : x = y) (k : W p l e R s m args below meth c H locs cells slots Q (F0 m pc ls (.long y :: rest))) : W p l e R s m args below meth c H locs cells slots Q (F0 m pc ls (.long x :: rest)) := by rw [h]; exact k
theorem g_lld (hx : p.tables.exec = Jvm.exec) (hb : c.code = cc) (hK : gK G s) (hP : va_P G.1 vwCl B.flatten H) (q0 : Nat) {n : Nat} {f : Nat → Int64} (ha : B.flatten[q0]? = some (a, .inl (G.2.2.2.2, n, .inr (.inl f)))) {i : Int32} {k : Nat} (hk : i.toNatClampNeg = k) (hin : vp_in i n) {v : Int64} (hv : f k = v) (hdg : decode cc pc = .ok (.laload, 1))
    (kk : W p l e R s m args below meth c H locs cells slots Q (F0 m (pc + 1) ls (.long v :: rest))) : W p l e R s m args below meth c H locs cells slots Q (F0 m pc ls (.int i :: .ref a :: rest)) := by
  refine va_lald hx hb hK.1 hP q0 3 ha rfl hin hdg ?_
  rw [hk, hv]; exact kk
theorem g_lst (hx : p.tables.exec = Jvm.exec) (hb : c.code = cc) (hK : gK G s) (hP : va_P G.1 vwCl B.flatten H) (hD : va_D A B.flatten) (hS : va_S A H0 H locs) (q0 : Nat) {n : Nat} {f : Nat → Int64} (ha : B.flatten[q0]? = some (a, .inl (G.2.2.2.2, n, .inr (.inl f)))) {i : Int32} {x : Int64} {k : Nat} (hk : i.toNatClampNeg = k) (hin : vp_in i n) {B2 : List va_W} (hB : B.flatten.set q0 (a, .inl (G.2.2.2.2, n, .inr (.inl (vp_updL f k x)))) = B2.flatten) (hdg : decode cc pc = .ok (.lastore, 1))
    (kk : ∀ (H1 : Heap) (locs1 : List Loc), va_P G.1 vwCl B2.flatten H1 → va_D A B2.flatten → va_S A H0 H1 locs1 → W p l e R s m args below meth c H1 locs1 cells slots Q (F0 m (pc + 1) ls rest)) : W p l e R s m args below meth c H locs cells slots Q (F0 m pc ls (.long x :: .int i :: .ref a :: rest)) := by
  refine va_last hx hb hK.1 hP hD hS q0 3 ha rfl hin hdg ?_
  rw [hk, hB]; exact kk
theorem g_newl (hx : p.tables.exec = Jvm.exec) (hb : c.code = cc) (harr : (Cond.arrayClass (newarray.typeOf .long)).before args s = true) (hK : gK G s) (hP : va_P G.1 vwCl B.flatten H) (hD : va_D A B.flatten) (hS : va_S A H0 H locs) (hA : ∀ q : Nat, H0.size ≤ q → A q)
    {n : Int32} {N : Nat} (hn : ¬ n < 0) (hN : n.toNatClampNeg = N) (hbytes : N * componentBytes .long ≤ 536870912) (hcells : cells + 1 ≤ R.cells) (hslots : slots + N ≤ R.slots) (hdg : decode cc pc = .ok (.newarray .long, 2))
    (kk : ∀ (q : Nat) (H1 : Heap), va_P G.1 vwCl (B ++ [JW G q N (fun _ => 0)]).flatten H1 → va_D A (B ++ [JW G q N (fun _ => 0)]).flatten → va_S A H0 H1 locs →
      W p l e R s m args below meth c H1 locs (cells + 1) (slots + N) Q (F0 m (pc + 2) ls (.ref q :: rest))) : W p l e R s m args below meth c H locs cells slots Q (F0 m pc ls (.int n :: rest)) := by
  refine va_newa (atype := .long) (ty := .long) (a0 := (N, .inr (.inl (fun _ => 0)))) hx hb harr rfl hK.1 hP hD hS hA (fun _ => rfl) hn hN hbytes hcells hslots hdg (fun q cA H1 hK1 h1 h2 h3 => ?_)
  have e1 : cA = G.2.2.2.2 := by
    have g1 : va_RA s cA .long := (hK1.2 4 (cA, .long) rfl).2
    have g2 : va_RA s G.2.2.2.2 .long := (hK.1.2 3 (G.2.2.2.2, .long) rfl).2
    exact Option.some.inj (g1.symm.trans g2)
  subst e1
  exact kk q H1 (by rw [g_snoc]; exact h1) (by rw [g_snoc]; exact h2) h3
end GLONG
theorem gZ.kept {z : Nat × Nat × Nat} {A : Nat → Prop} {s : State} {H : Heap} {locs : List Loc} {A' : Nat → Prop} {U : State} (h : gZ z A s) (hS : va_S A s.heap H locs) (hA : ∀ q, s.heap.size ≤ q → A q) (hA' : ∀ q, A' q → H.size ≤ q) (hU : U.heap = H) (hW : s.WarmedH U.vm) : gZ z A' U :=
  h.to hS (fun q hq => hA q (Nat.le_trans hS.1 (hA' q hq))) hU hW
section GCALLSZ
variable {p : Program} {l : Launch} {e : Env} {R : Room} {s : State} {m : MethodId} {args : Array Value} {below : List Frame} {meth : Method} {c : Code} {H : Heap} {locs : List Loc} {cells slots : Nat} {Q : State → Prop}
variable {pc : Nat} {ls : Array Slot} {rest st0 : List Value} {A : Nat → Prop} {G : gG} {B Bc Bc' : List va_W} {oc : Option Value} {z : Nat × Nat × Nat}
variable {y : MethodName} {bytes cc : ByteArray} {maxL nL n index fr lo : Nat} {ret : Option FieldType} {ws ws' : List Cond} {Ts : List Cond} {own : String} {As : List Value}
theorem g_callSZ (hC : CTZ z l G y ws fr lo As Bc oc Bc') (hx : p.tables.exec = Jvm.exec) (hb : c.code = cc) (hml : c.maxLocals = nL) (hown : s.vm.findClass own = some m.cls) (hts : ∀ w ∈ Ts, w.before args s = true) (hK : gK G s)
    (hP : va_P G.1 vwCl B.flatten H) (hD : va_D A B.flatten) (hS : va_S A s.heap H locs) (hA : ∀ q : Nat, s.heap.size ≤ q → A q) (hZ : gZ z A s)
    (hT : GoodIn Ts (va_wsS own index y ws)) (hw : ws = Cond.code y bytes maxL ret :: ws') (hd : y.cls ≠ "java/lang/invoke/MethodHandle" ∧ y.cls ≠ "java/lang/invoke/VarHandle" ∧ (parseMethodDescriptor y.desc).map (fun d => d.parameters.length) = some n) (hlen : As.length = n)
    (hR : fr + 1 ≤ R.frames ∧ 8 + (maxL + 11) + lo ≤ R.locals) (is : List Nat) (his : is.map (fun i => B[i]?) = Bc.map some) (hn : va_nd is = true)
    (hsize : ls.size = nL) (hstack : st0 = As.reverse ++ rest) (hcat : (rest.map fun v => v.category).sum ≤ 8) (hf : cells ≤ R.cells ∧ slots ≤ R.slots) (hdg : decode cc pc = .ok (.invokestatic index, 3))
    (kk : ∀ (H1 : Heap) (locs1 : List Loc), va_P G.1 vwCl (gPut B is Bc').flatten H1 → va_D A (gPut B is Bc').flatten → va_S A s.heap H1 locs1 → W p l e R s m args below meth c H1 locs1 cells slots Q (F0 m (pc + 3) ls (oc.toList ++ rest))) : W p l e R s m args below meth c H locs cells slots Q (F0 m pc ls st0) := by
  have hfree : ∀ q : Nat, va_A Bc.flatten H.size q → A q := by
    intro q hq
    rw [g_A_mem] at hq
    rcases hq with hq | hq
    · rw [g_nodup] at hD
      obtain ⟨x, h1, h2⟩ := List.mem_map.mp hq
      obtain ⟨b, hb, hxb⟩ := List.mem_flatten.mp h1
      rw [← h2]
      exact hD.2 x (List.mem_flatten.mpr ⟨b, gPut_sub his b hb, hxb⟩)
    · exact hA q (Nat.le_trans hS.1 hq)
  refine g_end (va_runS (As := As) (rest := rest) ⟨hx, hb, hml, hown, hts⟩ (hC.2 H.size) (va_cwS n hts hT hw rfl rfl hd hR) ⟨fun a U g mk q => ?_, fun U hU hW => ⟨rfl, ?_⟩⟩ rfl hlen hsize hstack (lv_room hcat) hdg hf) hC.1 hP hD hS hA is his hn kk
  · obtain ⟨q0, q1, qP, qK, qD, qZ⟩ := q
    exact ⟨q0, q1, qP, qK.calling g mk a, qD, qZ.calling g mk a⟩
  · obtain ⟨e1, e2, e3, e4⟩ := g_pre hK hP hD is his hn hU hW
    exact ⟨e1, e2, e3, e4, hZ.to hS hfree hU hW⟩
end GCALLSZ
/-- what a static method that makes its own objects needs of the machine -/
def gM (z : Nat × Nat × Nat) (G : gG) (A : Nat → Prop) (U : State) : Prop := gK G U ∧ va_AO RX4 U ∧ gZ z A U
/-- a static method that makes its own objects, touches nothing old, and answers v -/
def CN (z : Nat × Nat × Nat) (l : Launch) (G : gG) (y : MethodName) (ws : List Cond) (fr lo mc ms : Nat) (av : List Value) (v : Int32) : Prop :=
  ∀ sz : Nat, Met l y ws { frames := fr, cells := mc, slots := ms, locals := lo } (va_Pc av (fun U => U.heap.size = sz ∧ gM z G (fun q => sz ≤ q) U))
    (fun _ st o t => o = .returned (some (.int v)) ∧ va_F (fun q => sz ≤ q) st t) mc ms (fun q => sz ≤ q)
def gQN (below : List Frame) (args : Array Value) (s : State) (v : Int32) (mc ms : Nat) (A : Nat → Prop) : State → Prop :=
  MQ below (fun _ st o t => o = .returned (some (.int v)) ∧ va_F A st t) args s mc ms A
set_option maxHeartbeats 1000000 in
theorem CN.of {z : Nat × Nat × Nat} {l : Launch} {G : gG} {y : MethodName} {ws ws' : List Cond} {fr lo mc ms maxL : Nat} {cc : ByteArray} {ret : Option FieldType} {av : List Value} {v : Int32}
    (hy : plainFor y = true) (hw : ws = .code y cc maxL ret :: ws') (hlen : (lg_sl av).length ≤ maxL)
    (body : ∀ (p : Program) (e : Env) (s : State) (m : MethodId) (below : List Frame) (meth : Method) (c : Code) (ls : Array Slot), p.tables.exec = Jvm.exec → c.code = cc → c.maxLocals = maxL → meth.sig.returnType = ret →
      (∀ w ∈ ws, w.before av.toArray s = true) → s.vm.findClass y.cls = some m.cls → meth.locks = false → gK G s → va_AO RX4 s → gZ z (fun q : Nat => s.heap.size ≤ q) s → lv_has ls maxL (lv_args 0 av) →
      W p l e { frames := fr, cells := mc, slots := ms, locals := lo } s m av.toArray below meth c s.heap [] 0 0 (gQN below av.toArray s v mc ms (fun q : Nat => s.heap.size ≤ q)) (F0 m 0 ls [])) : CN z l G y ws fr lo mc ms av v := by
  intro sz
  refine g_ofW (cc := cc) (maxL := maxL) (ret := ret) hy hw ?_
  intro p e s m args below meth c s₁ Bd hml hv
  obtain ⟨rfl, hsz, hK, hO, hZ⟩ := hv
  subst hsz
  have hl := lv_entry av (n := maxL) hlen
  rw [lg_entry_eq]
  exact body p e s m below meth c _ Bd.exec Bd.bytes hml Bd.returns (atoms_spec (ws := ws) Bd.pre) (findClass_of_methodNamed Bd.named) Bd.notSynchronized hK hO hZ hl
section GRETN
variable {p : Program} {l : Launch} {e : Env} {R : Room} {s : State} {m : MethodId} {args : Array Value} {below : List Frame} {meth : Method} {c : Code} {H : Heap} {locs : List Loc} {cc : ByteArray} {pc mc ms : Nat} {ls : Array Slot} {A : Nat → Prop}
theorem g_retN (hx : p.tables.exec = Jvm.exec) (hb : c.code = cc) {ty : FieldType} (hr : meth.sig.returnType = some ty) (hlocks : meth.locks = false) {v : Int32} (hS : va_S A s.heap H locs) (hn : narrow ty (.int v) = .int v) (hdg : decode cc pc = .ok (.ireturn, 1)) :
    W p l e R s m args below meth c H locs mc ms (gQN below args s v mc ms A) (F0 m pc ls [.int v]) :=
  W.zret hx hb hr hn (fun t ht _ => ⟨rfl, hS.F ht⟩) hS.2.2 hdg hlocks
end GRETN
section GCALLC
variable {p : Program} {l : Launch} {e : Env} {R : Room} {s : State} {m : MethodId} {args : Array Value} {below : List Frame} {meth : Method} {c : Code} {H : Heap} {locs : List Loc} {cells slots mc ms : Nat} {Q : State → Prop}
variable {pc : Nat} {ls : Array Slot} {rest st0 : List Value} {A : Nat → Prop} {G : gG} {B : List va_W} {z : Nat × Nat × Nat} {v : Int32}
variable {y : MethodName} {bytes cc : ByteArray} {maxL nL n index fr lo : Nat} {ret : Option FieldType} {ws ws' : List Cond} {Ts : List Cond} {own : String} {As : List Value}
theorem g_callC (hC : CN z l G y ws fr lo mc ms As v) (hx : p.tables.exec = Jvm.exec) (hb : c.code = cc) (hml : c.maxLocals = nL) (hown : s.vm.findClass own = some m.cls) (hts : ∀ w ∈ Ts, w.before args s = true) (hK : gK G s) (hO : va_AO RX4 s) (hZ : gZ z A s)
    (hP : va_P G.1 vwCl B.flatten H) (hD : va_D A B.flatten) (hS : va_S A s.heap H locs) (hA : ∀ q : Nat, s.heap.size ≤ q → A q)
    (hT : GoodIn Ts (va_wsS own index y ws)) (hw : ws = Cond.code y bytes maxL ret :: ws') (hd : y.cls ≠ "java/lang/invoke/MethodHandle" ∧ y.cls ≠ "java/lang/invoke/VarHandle" ∧ (parseMethodDescriptor y.desc).map (fun d => d.parameters.length) = some n) (hlen : As.length = n)
    (hR : fr + 1 ≤ R.frames ∧ 8 + (maxL + 11) + lo ≤ R.locals)
    (hsize : ls.size = nL) (hstack : st0 = As.reverse ++ rest) (hcat : (rest.map fun v => v.category).sum ≤ 8) (hf : cells + mc ≤ R.cells ∧ slots + ms ≤ R.slots) (hdg : decode cc pc = .ok (.invokestatic index, 3))
    (kk : ∀ (H1 : Heap) (locs1 : List Loc), va_P G.1 vwCl B.flatten H1 → va_S A s.heap H1 locs1 → W p l e R s m args below meth c H1 locs1 (cells + mc) (slots + ms) Q (F0 m (pc + 3) ls (.int v :: rest))) : W p l e R s m args below meth c H locs cells slots Q (F0 m pc ls st0) := by
  have hr := va_runS (p := p) (l := l) (e := e) (R := R) (below := below) (meth := meth) (H := H) (locs := locs) (cells := cells) (slots := slots) (g := F0 m pc ls st0) (As := As) (rest := rest) ⟨hx, hb, hml, hown, hts⟩ (hC H.size) (va_cwS n hts hT hw rfl rfl hd hR) ⟨fun a U g mk q => by
      obtain ⟨q0, q1, qK, qO, qZ⟩ := q
      exact ⟨q0, q1, qK.calling g mk a, va_AO.moved (u := U) (U := U.calling g mk a) (Vm.Alike.refl U.vm) qO, qZ.calling g mk a⟩, fun U hU hW => ⟨rfl, by rw [hU], hK.warm hW, hO.moved hW.alike, hZ.kept hS hA (fun q h => h) hU hW⟩⟩ rfl hlen hsize hstack (lv_room hcat) hdg hf
  intro T hT X
  obtain ⟨v', st₀, t, T', L, h0, X', hL, e1, e2, ⟨hv, hz, hk⟩, st⟩ := hr T hT X
  cases hv
  rw [h0] at hz hk
  obtain ⟨t2, a1, b1⟩ := kk T'.heap (locs ++ L) (by
      rw [g_iff] at hP ⊢
      intro q hq
      have hat := hP q hq
      refine hat.kept ?_
      rw [e1]
      exact hk q.1 hat.lt (Nat.not_le.mpr hat.lt))
    ⟨Nat.le_trans hS.1 (by rw [e1]; exact hz), fun q h1 h2 => by rw [e1, hk q (Nat.lt_of_lt_of_le h1 hS.1) (Nat.not_le.mpr (Nat.lt_of_lt_of_le h1 hS.1))]; exact hS.2.1 q h1 h2, fun q hq => by
      rcases List.mem_append.mp hq with h | h
      · exact hS.2.2 q h
      · exact hA _ (Nat.le_trans hS.1 (hL q h))⟩ T' rfl X'
  exact ⟨t2, st t2 a1, b1⟩
end GCALLC
