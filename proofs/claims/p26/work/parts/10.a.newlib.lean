/-! WHAT IS MADE: constructors -/
abbrev bwO (q ci : Nat) (fs : List Value) : Nat × va_E := (q, .inr (ci, fs))
abbrev bwC (G : gG) (q n : Nat) (f : Nat → Int32) : Nat × va_E := (q, .inl (G.2.2.1, n, .inl f))
section GNEW
variable {p : Program} {l : Launch} {e : Env} {R : Room} {s : State} {m : MethodId} {args : Array Value} {below : List Frame} {meth : Method} {c : Code} {H : Heap} {locs : List Loc} {cells slots : Nat} {Q : State → Prop}
variable {cc : ByteArray} {pc : Nat} {ls : Array Slot} {rest : List Value} {A : Nat → Prop} {H0 : Heap} {G : gG} {B : List va_W}
theorem g_snoc (B : List va_W) (w : va_W) : (B ++ [w]).flatten = B.flatten ++ w := by simp
theorem g_new (hx : p.tables.exec = Jvm.exec) (hb : c.code = cc) {own C : String} {T : u_T} {N ci index : Nat} {Ts : List Cond} (hts : ∀ w ∈ Ts, w.before args s = true) (hin : ∀ w ∈ u_ws C T N, w ∈ Ts) (ty : Nat → FieldType) (hty : ∀ k, k < N → parseFieldDescriptor (T k).2.2.1 = some (ty k)) (hown : s.vm.findClass own = some m.cls) (hcl : (Cond.classLink own index C).before args s = true) (hinst : (Cond.instantiable C N).before args s = true) (hini : (Cond.initialized C).before args s = true)
    (hK : gK G s) (hP : va_P G.1 vwCl B.flatten H) (hD : va_D A B.flatten) (hS : va_S A H0 H locs) (hA : ∀ q : Nat, H0.size ≤ q → A q) (hc : vwCl[ci]? = some (C, T, N)) {fs : List Value} (hfs : ∀ j, j < N → defaultValue (ty j) = vp_V fs j) (hcells : cells + 1 ≤ R.cells) (hslots : slots + N ≤ R.slots) (hdg : decode cc pc = .ok (.new index, 3))
    (kk : ∀ (q : Nat) (H1 : Heap), va_P G.1 vwCl (B ++ [[bwO q ci fs]]).flatten H1 → va_D A (B ++ [[bwO q ci fs]]).flatten → va_S A H0 H1 locs →
      W p l e R s m args below meth c H1 locs (cells + 1) (slots + N) Q (F0 m (pc + 3) ls (.ref q :: rest))) : W p l e R s m args below meth c H locs cells slots Q (F0 m pc ls rest) := by
  refine va_new hx hb hts hin ty hty hown hcl hinst hini hK.1 hP hD hS hA hc hfs hcells hslots hdg (fun q H1 h1 h2 h3 => ?_)
  exact kk q H1 (by rw [g_snoc]; exact h1) (by rw [g_snoc]; exact h2) h3
theorem g_newi (hx : p.tables.exec = Jvm.exec) (hb : c.code = cc) (harr : (Cond.arrayClass (newarray.typeOf .int)).before args s = true) (hK : gK G s) (hP : va_P G.1 vwCl B.flatten H) (hD : va_D A B.flatten) (hS : va_S A H0 H locs) (hA : ∀ q : Nat, H0.size ≤ q → A q)
    {n : Int32} {N : Nat} (hn : ¬ n < 0) (hN : n.toNatClampNeg = N) (hbytes : N * componentBytes .int ≤ 536870912) (hcells : cells + 1 ≤ R.cells) (hslots : slots + N ≤ R.slots) (hdg : decode cc pc = .ok (.newarray .int, 2))
    (kk : ∀ (q : Nat) (H1 : Heap), va_P G.1 vwCl (B ++ [[bwI G q N (fun _ => 0)]]).flatten H1 → va_D A (B ++ [[bwI G q N (fun _ => 0)]]).flatten → va_S A H0 H1 locs →
      W p l e R s m args below meth c H1 locs (cells + 1) (slots + N) Q (F0 m (pc + 2) ls (.ref q :: rest))) : W p l e R s m args below meth c H locs cells slots Q (F0 m pc ls (.int n :: rest)) := by
  refine va_newa (atype := .int) (ty := .int) (a0 := (N, .inl (fun _ => 0))) hx hb harr rfl hK.1 hP hD hS hA (fun _ => rfl) hn hN hbytes hcells hslots hdg (fun q cA H1 hK1 h1 h2 h3 => ?_)
  have e1 : cA = G.2.1 := by
    have g1 : va_RA s cA .int := (hK1.2 4 (cA, .int) rfl).2
    have g2 : va_RA s G.2.1 .int := (hK.1.2 0 (G.2.1, .int) rfl).2
    exact Option.some.inj (g1.symm.trans g2)
  subst e1
  exact kk q H1 (by rw [g_snoc]; exact h1) (by rw [g_snoc]; exact h2) h3
theorem g_newc (hx : p.tables.exec = Jvm.exec) (hb : c.code = cc) (harr : (Cond.arrayClass (newarray.typeOf .char)).before args s = true) (hK : gK G s) (hP : va_P G.1 vwCl B.flatten H) (hD : va_D A B.flatten) (hS : va_S A H0 H locs) (hA : ∀ q : Nat, H0.size ≤ q → A q)
    {n : Int32} {N : Nat} (hn : ¬ n < 0) (hN : n.toNatClampNeg = N) (hbytes : N * componentBytes .char ≤ 536870912) (hcells : cells + 1 ≤ R.cells) (hslots : slots + N ≤ R.slots) (hdg : decode cc pc = .ok (.newarray .char, 2))
    (kk : ∀ (q : Nat) (H1 : Heap), va_P G.1 vwCl (B ++ [[bwC G q N (fun _ => 0)]]).flatten H1 → va_D A (B ++ [[bwC G q N (fun _ => 0)]]).flatten → va_S A H0 H1 locs →
      W p l e R s m args below meth c H1 locs (cells + 1) (slots + N) Q (F0 m (pc + 2) ls (.ref q :: rest))) : W p l e R s m args below meth c H locs cells slots Q (F0 m pc ls (.int n :: rest)) := by
  refine va_newa (atype := .char) (ty := .char) (a0 := (N, .inl (fun _ => 0))) hx hb harr rfl hK.1 hP hD hS hA (fun _ => rfl) hn hN hbytes hcells hslots hdg (fun q cA H1 hK1 h1 h2 h3 => ?_)
  have e1 : cA = G.2.2.1 := by
    have g1 : va_RA s cA .char := (hK1.2 4 (cA, .char) rfl).2
    have g2 : va_RA s G.2.2.1 .char := (hK.1.2 1 (G.2.2.1, .char) rfl).2
    exact Option.some.inj (g1.symm.trans g2)
  subst e1
  exact kk q H1 (by rw [g_snoc]; exact h1) (by rw [g_snoc]; exact h2) h3
theorem g_putF (hx : p.tables.exec = Jvm.exec) (hb : c.code = cc) {a : Nat} {own C : String} {T : u_T} {N ci index : Nat} {Ts : List Cond} (hts : ∀ w ∈ Ts, w.before args s = true) (hin : ∀ w ∈ u_ws C T N, w ∈ Ts) (ty0 : Nat → FieldType) (hty : ∀ k, k < N → parseFieldDescriptor (T k).2.2.1 = some (ty0 k)) (hnm : ∀ a, a < N → ∀ b, b < N → a ≠ b → (T a).2.1 ≠ (T b).2.1) (hown : s.vm.findClass own = some m.cls) (hK : gK G s) (hP : va_P G.1 vwCl B.flatten H) (hD : va_D A B.flatten) (hS : va_S A H0 H locs) (q0 : Nat) {fs : List Value} (he : B.flatten[q0]? = some (a, .inr (ci, fs))) (hc : vwCl[ci]? = some (C, T, N)) (k : Nat) (hk : k < N) (hlink : (Cond.fieldLink own index (T k).1 (T k).2.1 (T k).2.2.1).before args s = true) (hfin : (T k).2.2.2 = true) (hin2 : meth.name = "<init>") (hdecl : (T k).1 = own) {ty : FieldType} {v : Value} (hd : parseFieldDescriptor (T k).2.2.1 = some ty) (hn : narrow ty v = v) (hfit : fits ty v = true) (hl : k < fs.length) {B2 : List va_W} (hB : B.flatten.set q0 (a, .inr (ci, fs.set k v)) = B2.flatten) (hdg : decode cc pc = .ok (.putfield index, 3))
    (kk : ∀ (H1 : Heap) (locs1 : List Loc), va_P G.1 vwCl B2.flatten H1 → va_D A B2.flatten → va_S A H0 H1 locs1 → W p l e R s m args below meth c H1 locs1 cells slots Q (F0 m (pc + 3) ls rest)) : W p l e R s m args below meth c H locs cells slots Q (F0 m pc ls (v :: .ref a :: rest)) := by
  refine va_putF hx hb hts hin ty0 hty hnm hown hK.1 hP hD hS q0 he hc k hk hlink (fun _ h => h) hfin hin2 hdecl hd hn hfit hl hdg ?_
  rw [hB]; exact kk
theorem g_newq (hx : p.tables.exec = Jvm.exec) (hb : c.code = cc) {own : String} {index : Nat} (hown : s.vm.findClass own = some m.cls) (hcl : (Cond.classLink own index RX4).before args s = true) (hover : va_AO RX4 s) (hK : gK G s) (hP : va_P G.1 vwCl B.flatten H) (hD : va_D A B.flatten) (hS : va_S A H0 H locs) (hA : ∀ q : Nat, H0.size ≤ q → A q)
    {n : Int32} {N : Nat} (hn : ¬ n < 0) (hN : n.toNatClampNeg = N) (hbytes : N * 4 ≤ 536870912) (hcells : cells + 1 ≤ R.cells) (hslots : slots + N ≤ R.slots) (hdg : decode cc pc = .ok (.anewarray index, 3))
    (kk : ∀ (q : Nat) (H1 : Heap), va_P G.1 vwCl (B ++ [[bwQ G q N (fun _ => none)]]).flatten H1 → va_D A (B ++ [[bwQ G q N (fun _ => none)]]).flatten → va_S A H0 H1 locs →
      W p l e R s m args below meth c H1 locs (cells + 1) (slots + N) Q (F0 m (pc + 3) ls (.ref q :: rest))) : W p l e R s m args below meth c H locs cells slots Q (F0 m pc ls (.int n :: rest)) := by
  refine va_newq hx hb hown hcl hover hK.1 hP hD hS hA hn hN hbytes hcells hslots hdg (fun q cA H1 hK1 h1 h2 h3 => ?_)
  have e1 : cA = G.2.2.2.1 := by
    obtain ⟨k1, c1, -, -, -, g1⟩ : va_RA s cA (.object RX4) := (hK1.2 4 (cA, .object RX4) rfl).2
    obtain ⟨k2, c2, -, -, -, g2⟩ : va_RA s G.2.2.2.1 (.object RX4) := (hK.1.2 2 (G.2.2.2.1, .object RX4) rfl).2
    exact Option.some.inj (g1.symm.trans g2)
  subst e1
  exact kk q H1 (by rw [g_snoc]; exact h1) (by rw [g_snoc]; exact h2) h3
end GNEW
def CI (l : Launch) (G : gG) (y : MethodName) (ws : List Cond) (fr lo mc ms : Nat) (h : Nat) (e0 : va_E) (B' : (Nat → Nat) → List va_W) (Z : (Nat → Prop) → State → Prop) : Prop :=
  ∀ sz : Nat, Met l y ws { frames := fr, cells := mc, slots := ms, locals := lo } (va_Pc [.ref h] (fun U => U.heap.size = sz ∧ va_P G.1 vwCl [(h, e0)] U.heap ∧ gK G U ∧ Z (va_A [(h, e0)] sz) U))
    (fun _ st o t => o = .returned none ∧ (∃ a : Nat → Nat, a 0 = h ∧ va_P G.1 vwCl (B' a).flatten t.heap ∧ va_D (va_A [(h, e0)] sz) (B' a).flatten) ∧ va_F (va_A [(h, e0)] sz) st t) mc ms (va_A [(h, e0)] sz)
def gQI (G : gG) (below : List Frame) (args : Array Value) (s : State) (h : Nat) (B' : (Nat → Nat) → List va_W) (mc ms : Nat) (A : Nat → Prop) : State → Prop :=
  MQ below (fun _ st o t => o = .returned none ∧ (∃ a : Nat → Nat, a 0 = h ∧ va_P G.1 vwCl (B' a).flatten t.heap ∧ va_D A (B' a).flatten) ∧ va_F A st t) args s mc ms A
set_option maxHeartbeats 1000000 in
theorem CI.of {l : Launch} {G : gG} {y : MethodName} {ws ws' : List Cond} {fr lo mc ms maxL h : Nat} {cc : ByteArray} {e0 : va_E} {B' : (Nat → Nat) → List va_W} {Z : (Nat → Prop) → State → Prop}
    (hy : plainFor y = true) (hw : ws = .code y cc maxL none :: ws') (hnm : y.name = "<init>") (hlen : (lg_sl [Value.ref h]).length ≤ maxL)
    (body : ∀ (p : Program) (e : Env) (s : State) (m : MethodId) (below : List Frame) (meth : Method) (c : Code) (A : Nat → Prop) (ls : Array Slot), p.tables.exec = Jvm.exec → c.code = cc → c.maxLocals = maxL → meth.sig.returnType = none →
      (∀ w ∈ ws, w.before (List.toArray [Value.ref h]) s = true) → s.vm.findClass y.cls = some m.cls → meth.locks = false → meth.name = "<init>" → gK G s → va_P G.1 vwCl (List.flatten [[(h, e0)]]) s.heap → va_D A (List.flatten [[(h, e0)]]) → (∀ q : Nat, s.heap.size ≤ q → A q) → va_S A s.heap s.heap [] → lv_has ls maxL (lv_args 0 [Value.ref h]) → Z A s →
      W p l e { frames := fr, cells := mc, slots := ms, locals := lo } s m (List.toArray [Value.ref h]) below meth c s.heap [] 0 0 (gQI G below (List.toArray [Value.ref h]) s h B' mc ms A) (F0 m 0 ls [])) : CI l G y ws fr lo mc ms h e0 B' Z := by
  intro sz
  refine g_ofW (cc := cc) (maxL := maxL) (ret := none) hy hw ?_
  intro p e s m args below meth c s₁ Bd hml hv
  obtain ⟨rfl, hsz, hP, hK, hZ⟩ := hv
  subst hsz
  have hl := lv_entry [Value.ref h] (n := maxL) hlen
  rw [lg_entry_eq]
  have hD : va_D (va_A [(h, e0)] s.heap.size) [(h, e0)] := ⟨fun i j p q hi hj _ => by
    have h1 := (List.getElem?_eq_some_iff.mp hi).1
    have h2 := (List.getElem?_eq_some_iff.mp hj).1
    simp only [List.length_cons, List.length_nil] at h1 h2
    omega, fun k q hk => va_A.in hk⟩
  exact body p e s m below meth c _ _ Bd.exec Bd.bytes hml Bd.returns (atoms_spec (ws := ws) Bd.pre) (findClass_of_methodNamed Bd.named) Bd.notSynchronized ((name_of_methodNamed Bd.named Bd.method).1.trans hnm) hK hP hD (fun q h => Or.inr h) va_S.rf hl hZ
theorem g_retI {p : Program} {l : Launch} {e : Env} {R : Room} {s : State} {m : MethodId} {args : Array Value} {below : List Frame} {meth : Method} {c : Code} {H : Heap} {locs : List Loc} {cc : ByteArray} {pc mc ms h : Nat} {ls : Array Slot} {G : gG} {B' : (Nat → Nat) → List va_W} {A : Nat → Prop} (hx : p.tables.exec = Jvm.exec) (hb : c.code = cc) (hr : meth.sig.returnType = none) (hlocks : meth.locks = false) (hS : va_S A s.heap H locs) (hdg : decode cc pc = .ok (.return_, 1)) (a : Nat → Nat) (ha : a 0 = h) (hP : va_P G.1 vwCl (B' a).flatten H) (hD : va_D A (B' a).flatten) :
    W p l e R s m args below meth c H locs mc ms (gQI G below args s h B' mc ms A) (F0 m pc ls []) :=
  W.vret hx hb hr (fun t ht _ => ⟨rfl, ⟨a, ha, by rw [ht]; exact hP, hD⟩, hS.F ht⟩) hS.2.2 hdg hlocks
section GCI
variable {p : Program} {l : Launch} {e : Env} {R : Room} {s : State} {m : MethodId} {args : Array Value} {below : List Frame} {meth : Method} {c : Code} {H : Heap} {locs : List Loc} {cells slots : Nat} {Q : State → Prop}
variable {pc : Nat} {ls : Array Slot} {rest st0 : List Value} {A : Nat → Prop} {H0 : Heap} {G : gG} {mc ms h : Nat} {e0 : va_E} {B' : (Nat → Nat) → List va_W}
theorem g_endI (B0 : List va_W) (hr : va_Run p l e R s m args below meth c H locs cells slots mc ms (F0 m pc ls st0) rest (fun st o t => o = .returned none ∧ (∃ a : Nat → Nat, a 0 = h ∧ va_P G.1 vwCl (B' a).flatten t.heap ∧ va_D (va_A [(h, e0)] H.size) (B' a).flatten) ∧ va_F (va_A [(h, e0)] H.size) st t) (va_A [(h, e0)] H.size))
    (hP : va_P G.1 vwCl (B0 ++ [[(h, e0)]]).flatten H) (hD : va_D A (B0 ++ [[(h, e0)]]).flatten) (hS : va_S A H0 H locs) (hA : ∀ q : Nat, H0.size ≤ q → A q)
    (kk : ∀ (a : Nat → Nat) (H1 : Heap) (locs1 : List Loc), a 0 = h → va_P G.1 vwCl (B0 ++ [(B' a).flatten]).flatten H1 → va_D A (B0 ++ [(B' a).flatten]).flatten → va_S A H0 H1 locs1 → W p l e R s m args below meth c H1 locs1 (cells + mc) (slots + ms) Q (F0 m (pc + 3) ls rest)) : W p l e R s m args below meth c H locs cells slots Q (F0 m pc ls st0) := by
  intro T hT X
  obtain ⟨v, st₀, t, T', L, h0, X', hL, e1, e2, ⟨hv, ⟨a, ha, hPt, hDt⟩, hz, hk⟩, st⟩ := hr T hT X
  cases hv
  rw [h0] at hz hk
  rw [g_snoc] at hP hD
  have hmemh : (h, e0) ∈ B0.flatten ++ [(h, e0)] := List.mem_append_right _ List.mem_cons_self
  have hfree : ∀ q : Nat, va_A [(h, e0)] H.size q → A q := by
    intro q hq
    rw [g_A_mem] at hq
    rcases hq with hq | hq
    · simp only [List.map_cons, List.map_nil, List.mem_cons, List.not_mem_nil, or_false] at hq
      rw [hq]
      exact (g_nodup.mp hD).2 _ hmemh
    · exact hA q (Nat.le_trans hS.1 hq)
  have hsplit := List.nodup_append.mp (by have := (g_nodup.mp hD).1; rw [List.map_append] at this; exact this)
  have hP0 : va_P G.1 vwCl B0.flatten T'.heap := by
    rw [g_iff] at hP ⊢
    intro q hq
    have hat := hP q (List.mem_append_left _ hq)
    refine hat.kept ?_
    rw [e1]
    refine hk q.1 hat.lt fun hAq => ?_
    rw [g_A_mem] at hAq
    rcases hAq with hAq | hAq
    · exact hsplit.2.2 q.1 (List.mem_map_of_mem hq) q.1 hAq rfl
    · have := hat.lt
      omega
  have hP1 : va_P G.1 vwCl (B0 ++ [(B' a).flatten]).flatten T'.heap := by
    rw [g_snoc]
    exact va_P.app hP0 (by rw [e1]; exact hPt)
  have hD1 : va_D A (B0 ++ [(B' a).flatten]).flatten := by
    rw [g_snoc]
    refine va_D.app ?_ (hDt.weaken (fun k q _ h => hfree q.1 h)) ?_
    · rw [g_nodup]
      exact ⟨hsplit.1, fun q hq => (g_nodup.mp hD).2 q (List.mem_append_left _ hq)⟩
    · intro i j p q hi hj hpq
      have hpm := List.mem_of_getElem? hi
      have hqA := hDt.2 j q hj
      rw [g_A_mem] at hqA
      rcases hqA with hqA | hqA
      · exact hsplit.2.2 p.1 (List.mem_map_of_mem hpm) q.1 hqA hpq
      · have := ((g_iff.mp hP) p (List.mem_append_left _ hpm)).lt
        omega
  obtain ⟨t2, a1, b1⟩ := kk a T'.heap (locs ++ L) ha hP1 hD1
    ⟨Nat.le_trans hS.1 (by rw [e1]; exact hz), fun q h1 h2 => by rw [e1, hk q (Nat.lt_of_lt_of_le h1 hS.1) (fun z => h2 (hfree q z))]; exact hS.2.1 q h1 h2, fun q hq => by
      rcases List.mem_append.mp hq with h | h
      · exact hS.2.2 q h
      · exact hfree _ (hL q h)⟩ T' rfl X'
  exact ⟨t2, st t2 a1, b1⟩
variable {y : MethodName} {bytes cc : ByteArray} {maxL nL index fr lo : Nat} {ws ws' : List Cond} {Ts : List Cond} {own host : String} {Z : (Nat → Prop) → State → Prop}
theorem g_preI {s U : State} (hK : gK G s) (B0 : List va_W) (hP : va_P G.1 vwCl (B0 ++ [[(h, e0)]]).flatten H) (hU : U.heap = H) (hW : s.WarmedH U.vm) : U.heap.size = H.size ∧ va_P G.1 vwCl [(h, e0)] U.heap ∧ gK G U := by
  refine ⟨by rw [hU], ?_, hK.warm hW⟩
  rw [hU]
  rw [g_snoc] at hP
  rw [g_iff] at hP ⊢
  exact fun q hq => hP q (List.mem_append_right _ hq)
theorem g_callI (hC : CI l G y ws fr lo mc ms h e0 B' Z) (hx : p.tables.exec = Jvm.exec) (hb : c.code = cc) (hml : c.maxLocals = nL) (hown : s.vm.findClass own = some m.cls) (hts : ∀ w ∈ Ts, w.before args s = true) (hK : gK G s) (B0 : List va_W)
    (hP : va_P G.1 vwCl (B0 ++ [[(h, e0)]]).flatten H) (hD : va_D A (B0 ++ [[(h, e0)]]).flatten) (hS : va_S A H0 H locs) (hA : ∀ q : Nat, H0.size ≤ q → A q)
    (hZ : ∀ U : State, U.heap = H → s.WarmedH U.vm → Z (va_A [(h, e0)] H.size) U) (hZb : ∀ (U : State) (g : JFrame) (mk : MethodId) (a : Array Value), Z (va_A [(h, e0)] H.size) U → Z (va_A [(h, e0)] H.size) (U.calling g mk a))
    (hT : GoodIn Ts ws) (hw : ws = Cond.code y bytes maxL none :: ws') (hini : (Cond.initialized y.cls) ∈ Ts) (hlk : (Cond.methodLink own index y) ∈ Ts) (him : (Cond.instanceMethod y) ∈ Ts) (hy1 : y.name = "<init>") (hd : y.cls ≠ "java/lang/invoke/MethodHandle" ∧ y.cls ≠ "java/lang/invoke/VarHandle" ∧ (parseMethodDescriptor y.desc).map (fun d => d.parameters.length) = some 0)
    (hR : fr + 1 ≤ R.frames ∧ 8 + (maxL + 11) + lo ≤ R.locals) (hsize : ls.size = nL) (hcat : (rest.map fun v => v.category).sum ≤ 8) (hf : cells + mc ≤ R.cells ∧ slots + ms ≤ R.slots) (hdg : decode cc pc = .ok (.invokespecial index, 3))
    (kk : ∀ (a : Nat → Nat) (H1 : Heap) (locs1 : List Loc), a 0 = h → va_P G.1 vwCl (B0 ++ [(B' a).flatten]).flatten H1 → va_D A (B0 ++ [(B' a).flatten]).flatten → va_S A H0 H1 locs1 → W p l e R s m args below meth c H1 locs1 (cells + mc) (slots + ms) Q (F0 m (pc + 3) ls rest)) : W p l e R s m args below meth c H locs cells slots Q (F0 m pc ls (.ref h :: rest)) := by
  refine g_endI B0 (va_runI (b := h) (As := []) (rest := rest) ⟨hx, hb, hml, hown, hts⟩ (hC H.size) (cwI 0 hts hT hw rfl rfl (hts _ hini) (hts _ hlk) (hts _ him) hy1 hd hR) ⟨fun a U g mk q => ?_, fun U hU hW => ⟨rfl, ?_⟩⟩ rfl rfl hsize rfl (lv_room hcat) hdg hf) hP hD hS hA kk
  · obtain ⟨q0, q1, qP, qK, qZ⟩ := q
    exact ⟨q0, q1, qP, qK.calling g mk a, hZb U g mk a qZ⟩
  · obtain ⟨e1, e2, e3⟩ := g_preI hK B0 hP hU hW
    exact ⟨e1, e2, e3, hZ U hU hW⟩
theorem g_callIN (hC : CI l G y ws fr lo mc ms h e0 B' (fun _ _ => True)) (hx : p.tables.exec = Jvm.exec) (hb : c.code = cc) (hml : c.maxLocals = nL) (hown : s.vm.findClass own = some m.cls) (hts : ∀ w ∈ Ts, w.before args s = true) (hK : gK G s) (B0 : List va_W)
    (hP : va_P G.1 vwCl (B0 ++ [[(h, e0)]]).flatten H) (hD : va_D A (B0 ++ [[(h, e0)]]).flatten) (hS : va_S A H0 H locs) (hA : ∀ q : Nat, H0.size ≤ q → A q)
    (hT : GoodIn Ts ws) (hw : ws = Cond.code y bytes maxL none :: ws') (hini : (Cond.initialized y.cls) ∈ Ts) (hnw : .methodLinkNest own index y host ∈ gNW) (him : (Cond.instanceMethod y) ∈ Ts) (hy1 : y.name = "<init>") (hd : y.cls ≠ "java/lang/invoke/MethodHandle" ∧ y.cls ≠ "java/lang/invoke/VarHandle" ∧ (parseMethodDescriptor y.desc).map (fun d => d.parameters.length) = some 0)
    (hR : fr + 1 ≤ R.frames ∧ 8 + (maxL + 11) + lo ≤ R.locals) (hsize : ls.size = nL) (hcat : (rest.map fun v => v.category).sum ≤ 8) (hf : cells + mc ≤ R.cells ∧ slots + ms ≤ R.slots) (hdg : decode cc pc = .ok (.invokespecial index, 3))
    (kk : ∀ (a : Nat → Nat) (H1 : Heap) (locs1 : List Loc), a 0 = h → va_P G.1 vwCl (B0 ++ [(B' a).flatten]).flatten H1 → va_D A (B0 ++ [(B' a).flatten]).flatten → va_S A H0 H1 locs1 → W p l e R s m args below meth c H1 locs1 (cells + mc) (slots + ms) Q (F0 m (pc + 3) ls rest)) : W p l e R s m args below meth c H locs cells slots Q (F0 m pc ls (.ref h :: rest)) := by
  refine g_endI B0 (va_runIN (host := host) (b := h) (As := []) (rest := rest) ⟨hx, hb, hml, hown, hts⟩ (hC H.size) ⟨va_cnB 0 hts hT hw rfl rfl (hK.2 _ hnw) (hts _ hini) hd hR, hy1, hts _ him⟩ ⟨fun a U g mk q => ?_, fun U hU hW => ⟨rfl, ?_⟩⟩ rfl rfl hsize rfl (lv_room hcat) hdg hf) hP hD hS hA kk
  · obtain ⟨q0, q1, qP, qK, qZ⟩ := q
    exact ⟨q0, q1, qP, qK.calling g mk a, trivial⟩
  · obtain ⟨e1, e2, e3⟩ := g_preI hK B0 hP hU hW
    exact ⟨e1, e2, e3, trivial⟩
end GCI
