/-! THE GROUND: worlds of blocks, contracts whose answer and whose new world are given, calls, ends -/
abbrev gG : Type := va_G × ClassId × ClassId × ClassId × ClassId
abbrev gTys (G : gG) : List (ClassId × FieldType) := [(G.2.1, .int), (G.2.2.1, .char), (G.2.2.2.1, .object RX4), (G.2.2.2.2, .long)]
abbrev gB (x : MethodName) : Cond := .methodLinkNest x.cls 0 x ""
/-- the links to private members of a nest mate -/
def gNW : List Cond := [.fieldLinkNest RX4 62 RX6 "SETTING_FIRST" "[I" RX6, .methodLinkNest RX6 35 yX5_init RX6, .methodLinkNest RX6 42 yX3_init RX6, .methodLinkNest RX6 9 yX4_init RX6, .methodLinkNest RX0 56 yX6_baseVoltage RX6, .methodLinkNest RX1 21 yX4_init RX6, .methodLinkNest RX3 38 yX6_isIn RX6, .methodLinkNest RX4 17 yX0_init RX6, .methodLinkNest RX4 24 yX3_init RX6, .methodLinkNest RX4 31 yX2_init RX6, .methodLinkNest RX4 85 yX6_isIn RX6, .methodLinkNest RX4 93 yX6_baseVoltage RX6]
def gK (G : gG) (U : State) : Prop := va_K G.1 vwCl (gTys G) U ∧ ∀ w ∈ gNW, va_Nw w U
theorem gNW_on : ∀ w ∈ gNW, w.onTables = true := by decide +kernel
theorem gK.warm {G : gG} {s U : State} (hW : s.WarmedH U.vm) (h : gK G s) : gK G U := by
  refine ⟨va_K.moved hW.alike h.1, fun w hw => ?_⟩
  have h2 := h.2 w hw
  simp only [gNW, List.mem_cons, List.not_mem_nil, or_false] at hw
  rcases hw with rfl | rfl | rfl | rfl | rfl | rfl | rfl | rfl | rfl | rfl | rfl | rfl
  · exact va_Nw.warmF hW h2
  all_goals exact va_Nw.warmM hW h2
theorem gK.calling {G : gG} {U : State} (g : JFrame) (mk : MethodId) (a : Array Value) (h : gK G U) : gK G (U.calling g mk a) :=
  ⟨va_K.moved (u := U) (U := U.calling g mk a) (Vm.Alike.refl U.vm) h.1, fun w hw => va_Nw.same (u := U) (U := U.calling g mk a) (gNW_on w hw) rfl (h.2 w hw)⟩
/-! worlds by their members -/
theorem g_iff {D : va_G} {cl : List vw_C} {ws : va_W} {H : Heap} : va_P D cl ws H ↔ ∀ q ∈ ws, va_at D cl q H := by
  constructor
  · intro h q hq
    obtain ⟨k, hk⟩ := List.getElem?_of_mem hq
    exact h k q hk
  · intro h k q hk
    exact h q (List.mem_of_getElem? hk)
theorem g_nodup {A : Nat → Prop} {ws : va_W} : va_D A ws ↔ (ws.map Prod.fst).Nodup ∧ ∀ q ∈ ws, A q.1 := by
  constructor
  · intro h
    refine ⟨?_, fun q hq => ?_⟩
    · rw [List.nodup_iff_pairwise_ne, List.pairwise_iff_getElem]
      intro i j hi hj hij e
      rw [List.length_map] at hi hj
      rw [List.getElem_map, List.getElem_map] at e
      exact Nat.ne_of_lt hij (h.1 i j _ _ (List.getElem?_eq_getElem hi) (List.getElem?_eq_getElem hj) e)
    · obtain ⟨k, hk⟩ := List.getElem?_of_mem hq
      exact h.2 k q hk
  · intro ⟨h1, h2⟩
    refine ⟨fun i j p q hi hj e => ?_, fun k q hk => h2 q (List.mem_of_getElem? hk)⟩
    obtain ⟨li, ei⟩ := List.getElem?_eq_some_iff.mp hi
    obtain ⟨lj, ej⟩ := List.getElem?_eq_some_iff.mp hj
    rw [List.nodup_iff_pairwise_ne, List.pairwise_iff_getElem] at h1
    rcases Nat.lt_trichotomy i j with h | h | h
    · refine absurd ?_ (h1 i j (by simpa using li) (by simpa using lj) h)
      rw [List.getElem_map, List.getElem_map, ei, ej, e]
    · exact h
    · refine absurd ?_ (h1 j i (by simpa using lj) (by simpa using li) h)
      rw [List.getElem_map, List.getElem_map, ei, ej, e]
/-- blocks put in the place of others -/
def gPut (B : List va_W) : List Nat → List va_W → List va_W
  | i :: is, x :: xs => gPut (B.set i x) is xs
  | _, _ => B
theorem gPut_fst : ∀ (is : List Nat) (Bc Bc' B : List va_W), is.map (fun i => B[i]?) = Bc.map some → va_nd is = true → Bc'.map (List.map Prod.fst) = Bc.map (List.map Prod.fst) →
    (gPut B is Bc').map (List.map Prod.fst) = B.map (List.map Prod.fst)
  | [], Bc, Bc', B, h, _, e => by cases Bc' <;> rfl
  | i :: is, [], Bc', B, h, _, e => by simp at h
  | i :: is, b :: Bc, [], B, h, _, e => by simp at e
  | i :: is, b :: Bc, x :: Bc', B, h, hn, e => by
    rw [List.map_cons, List.map_cons] at h e
    have hh := List.cons.inj h
    have he := List.cons.inj e
    simp only [va_nd, Bool.and_eq_true, decide_eq_true_eq] at hn
    show (gPut (B.set i x) is Bc').map (List.map Prod.fst) = _
    have hset : (B.set i x).map (List.map Prod.fst) = B.map (List.map Prod.fst) := by
      rw [List.map_set, he.1]
      obtain ⟨li, ei⟩ := List.getElem?_eq_some_iff.mp hh.1
      rw [← ei]
      refine List.ext_getElem? fun j => ?_
      rw [List.getElem?_set, List.getElem?_map]
      split
      · next hj => subst hj; rw [List.length_map, if_pos li, List.getElem?_eq_getElem li]; rfl
      · rfl
    rw [← hset]
    refine gPut_fst is Bc Bc' (B.set i x) ?_ hn.2 he.2
    rw [← hh.2]
    refine List.map_congr_left fun j hj => ?_
    rw [List.getElem?_set_ne]
    intro e2
    subst e2
    exact hn.1 hj
/-- a block of the new world: one of the callee's, or one of the caller's others -/
theorem gPut_mem : ∀ (is : List Nat) (Bc' B : List va_W) (j : Nat) (b : va_W), (gPut B is Bc')[j]? = some b → b ∈ Bc' ∨ (B[j]? = some b ∧ (j ∉ is ∨ is.length > Bc'.length))
  | [], Bc', B, j, b, h => by cases Bc' <;> exact Or.inr ⟨h, Or.inl List.not_mem_nil⟩
  | i :: is, [], B, j, b, h => Or.inr ⟨h, Or.inr (Nat.succ_pos _)⟩
  | i :: is, x :: Bc', B, j, b, h => by
    rcases gPut_mem is Bc' (B.set i x) j b h with h1 | ⟨h1, h2⟩
    · exact Or.inl (List.mem_cons_of_mem _ h1)
    · rw [List.getElem?_set] at h1
      split at h1
      · split at h1
        · cases h1; exact Or.inl List.mem_cons_self
        · cases h1
      · next hij =>
        refine Or.inr ⟨h1, ?_⟩
        rcases h2 with h2 | h2
        · left
          intro hm
          rcases List.mem_cons.mp hm with e | e
          · exact hij e.symm
          · exact h2 e
        · right
          simpa using h2
theorem g_flat_fst {B B' : List va_W} (h : B'.map (List.map Prod.fst) = B.map (List.map Prod.fst)) : B'.flatten.map Prod.fst = B.flatten.map Prod.fst := by
  rw [List.map_flatten, List.map_flatten, h]
theorem g_D_fst {A : Nat → Prop} {w w' : va_W} (h : w'.map Prod.fst = w.map Prod.fst) (hD : va_D A w) : va_D A w' := by
  rw [g_nodup] at hD ⊢
  refine ⟨by rw [h]; exact hD.1, fun q hq => ?_⟩
  have h1 : q.1 ∈ w'.map Prod.fst := List.mem_map_of_mem hq
  rw [h] at h1
  obtain ⟨q2, h2, h3⟩ := List.mem_map.mp h1
  rw [← h3]
  exact hD.2 q2 h2
theorem g_A_mem {w : va_W} {sz q : Nat} : va_A w sz q ↔ (q ∈ w.map Prod.fst ∨ sz ≤ q) := by
  constructor
  · rintro (⟨k, e, h⟩ | h)
    · exact Or.inl (List.mem_map.mpr ⟨_, List.mem_of_getElem? h, rfl⟩)
    · exact Or.inr h
  · rintro (h | h)
    · obtain ⟨p, h1, h2⟩ := List.mem_map.mp h
      obtain ⟨k, hk⟩ := List.getElem?_of_mem h1
      exact Or.inl ⟨k, p.2, by rw [hk, ← h2]⟩
    · exact Or.inr h
/-- behind a call, the world with the callee's blocks put into their places -/
theorem g_join {A0 : Nat → Prop} {D : va_G} {cl : List vw_C} {B Bc Bc' : List va_W} {H H1 : Heap} (hP : va_P D cl B.flatten H) (hD : va_D A0 B.flatten) (is : List Nat) (his : is.map (fun i => B[i]?) = Bc.map some) (hn : va_nd is = true)
    (ha : Bc'.map (List.map Prod.fst) = Bc.map (List.map Prod.fst)) (hk : ∀ q : Nat, q < H.size → ¬ va_A Bc.flatten H.size q → H1[q]? = H[q]?) (hP1 : va_P D cl Bc'.flatten H1) :
    va_P D cl (gPut B is Bc').flatten H1 ∧ va_D A0 (gPut B is Bc').flatten := by
  refine ⟨?_, g_D_fst (g_flat_fst (gPut_fst is Bc Bc' B his hn ha)) hD⟩
  rw [g_iff] at hP hP1 ⊢
  intro q hq
  obtain ⟨b, hb, hqb⟩ := List.mem_flatten.mp hq
  obtain ⟨j, hj⟩ := List.getElem?_of_mem hb
  rcases gPut_mem is Bc' B j b hj with h | ⟨h, h2⟩
  · exact hP1 q (List.mem_flatten.mpr ⟨b, h, hqb⟩)
  · have hlen : is.length = Bc'.length := by
      have h3 := congrArg List.length his
      have h4 := congrArg List.length ha
      simp only [List.length_map] at h3 h4
      omega
    have hji : j ∉ is := by
      rcases h2 with h2 | h2
      · exact h2
      · omega
    have hmem : q ∈ B.flatten := List.mem_flatten.mpr ⟨b, List.mem_of_getElem? h, hqb⟩
    have hat := hP q hmem
    refine hat.kept (hk q.1 hat.lt fun hA => ?_)
    rw [g_A_mem] at hA
    rcases hA with hA | hA
    · obtain ⟨q2, h5, h6⟩ := List.mem_map.mp hA
      obtain ⟨c, hc, hqc⟩ := List.mem_flatten.mp h5
      obtain ⟨k, hkc⟩ := List.getElem?_of_mem hc
      have h7 : (is.map (fun i => B[i]?))[k]? = some (some c) := by rw [his, List.getElem?_map, hkc]; rfl
      rw [List.getElem?_map] at h7
      cases hi : is[k]? with
      | none => rw [hi] at h7; cases h7
      | some i =>
        rw [hi] at h7
        have hBi : B[i]? = some c := Option.some.inj h7
        have hij : i ≠ j := fun e => hji (e ▸ List.mem_of_getElem? hi)
        rw [g_nodup, List.map_flatten, List.nodup_iff_pairwise_ne, List.pairwise_flatten] at hD
        have hpw := hD.1.2
        rw [List.pairwise_iff_getElem] at hpw
        obtain ⟨li, ei⟩ := List.getElem?_eq_some_iff.mp hBi
        obtain ⟨lj, ej⟩ := List.getElem?_eq_some_iff.mp h
        have m1 : q2.1 ∈ (B.map (List.map Prod.fst))[i]'(by simpa using li) := by
          rw [List.getElem_map, ei]; exact List.mem_map_of_mem hqc
        have m2 : q.1 ∈ (B.map (List.map Prod.fst))[j]'(by simpa using lj) := by
          rw [List.getElem_map, ej]; exact List.mem_map_of_mem hqb
        rcases Nat.lt_or_gt_of_ne hij with hlt | hlt
        · exact hpw i j (by simpa using li) (by simpa using lj) hlt q2.1 m1 q.1 m2 h6
        · exact hpw j i (by simpa using lj) (by simpa using li) hlt q.1 m2 q2.1 m1 h6.symm
    · have := hat.lt
      omega
/-! CONTRACTS -/
def CT (l : Launch) (G : gG) (y : MethodName) (ws : List Cond) (fr lo : Nat) (av : List Value) (B : List va_W) (oc : Option Value) (B' : List va_W) : Prop :=
  B'.map (List.map Prod.fst) = B.map (List.map Prod.fst) ∧ ∀ sz : Nat, Met l y ws { frames := fr, cells := 0, slots := 0, locals := lo }
    (va_Pc av (fun U => U.heap.size = sz ∧ va_P G.1 vwCl B.flatten U.heap ∧ gK G U ∧ va_D (fun _ => True) B.flatten))
    (fun _ st o t => o = .returned oc ∧ va_P G.1 vwCl B'.flatten t.heap ∧ va_F (va_A B.flatten sz) st t) 0 0 (va_A B.flatten sz)
def gQ (G : gG) (below : List Frame) (args : Array Value) (s : State) (oc : Option Value) (B' : List va_W) (A : Nat → Prop) : State → Prop :=
  MQ below (fun _ st o t => o = .returned oc ∧ va_P G.1 vwCl B'.flatten t.heap ∧ va_F A st t) args s 0 0 A
theorem g_ofW {l : Launch} {y : MethodName} {ws ws' : List Cond} {rm : Room} {Pc : Array Value → State → Prop} {Qc : Array Value → State → Outcome → State → Prop} {mc ms : Nat} {free : Addr → Prop} {cc : ByteArray} {maxL : Nat} {ret : Option FieldType}
    (hy : plainFor y = true) (hw : ws = Cond.code y cc maxL ret :: ws')
    (body : ∀ p e s m args below meth c s₁, BodyLoose p l y (headSpec ws rm) cc maxL ret e s m args below meth c s₁ → c.maxLocals = maxL → Pc args s →
      W p l e (headSpec ws rm).room s m args below meth c s.heap [] 0 0 (MQ below Qc args s mc ms free) (entryFrame m args maxL)) : Met l y ws rm Pc Qc mc ms free := by
  refine MetFree.of_bodySF (code := cc) (maxLocals := maxL) (ret := ret) hy ?_ ?_
  · intro args s m h hn
    obtain ⟨meth, c, h1, h2, h3, h4, h5, h6, -, -⟩ := Cond.code_spec hn (atoms_spec (ws := ws) h _ (by rw [hw]; exact List.mem_cons_self))
    exact ⟨meth, c, h1, h2, h3, h4, h5, h6⟩
  · intro p e s m args below meth c s₁ B hml hP _
    have hh0 : s₁.heap = s.heap := by rw [B.state]; rfl
    obtain ⟨t, a1, o, b1, b2, b3⟩ := body p e s m args below meth c s₁ B hml hP s₁ hh0 (Stand.of_body B)
    exact ⟨t, o, a1, b1, b2, ⟨b3.1, b3.2⟩⟩
set_option maxHeartbeats 1000000 in
theorem CT.of {l : Launch} {G : gG} {y : MethodName} {ws ws' : List Cond} {fr lo maxL : Nat} {cc : ByteArray} {ret : Option FieldType} {av : List Value} {B B' : List va_W} {oc : Option Value}
    (hy : plainFor y = true) (hw : ws = .code y cc maxL ret :: ws') (hadr : B'.map (List.map Prod.fst) = B.map (List.map Prod.fst)) (hlen : (lg_sl av).length ≤ maxL)
    (body : ∀ (p : Program) (e : Env) (s : State) (m : MethodId) (below : List Frame) (meth : Method) (c : Code) (A : Nat → Prop) (ls : Array Slot), p.tables.exec = Jvm.exec → c.code = cc → c.maxLocals = maxL → meth.sig.returnType = ret →
      (∀ w ∈ ws, w.before av.toArray s = true) → s.vm.findClass y.cls = some m.cls → meth.locks = false → gK G s → va_P G.1 vwCl B.flatten s.heap → va_D A B.flatten → (∀ q : Nat, s.heap.size ≤ q → A q) → va_S A s.heap s.heap [] → lv_has ls maxL (lv_args 0 av) →
      W p l e { frames := fr, cells := 0, slots := 0, locals := lo } s m av.toArray below meth c s.heap [] 0 0 (gQ G below av.toArray s oc B' A) (F0 m 0 ls [])) : CT l G y ws fr lo av B oc B' := by
  refine ⟨hadr, fun sz => g_ofW (cc := cc) (maxL := maxL) (ret := ret) hy hw ?_⟩
  intro p e s m args below meth c s₁ Bd hml hv
  obtain ⟨rfl, hsz, hP, hK, hD0⟩ := hv
  subst hsz
  have hl := lv_entry av (n := maxL) hlen
  rw [lg_entry_eq]
  exact body p e s m below meth c _ _ Bd.exec Bd.bytes hml Bd.returns (atoms_spec (ws := ws) Bd.pre) (findClass_of_methodNamed Bd.named) Bd.notSynchronized hK hP (hD0.self (sz := s.heap.size)) (fun q h => Or.inr h) va_S.rf hl
section GRET
variable {p : Program} {l : Launch} {e : Env} {R : Room} {s : State} {m : MethodId} {args : Array Value} {below : List Frame} {meth : Method} {c : Code} {H : Heap} {locs : List Loc} {cc : ByteArray} {pc : Nat} {ls : Array Slot} {G : gG} {oc : Option Value} {B' : List va_W} {A : Nat → Prop}
theorem g_ret (hx : p.tables.exec = Jvm.exec) (hb : c.code = cc) (hr : meth.sig.returnType = some .int) (hlocks : meth.locks = false) {v : Int32} (hS : va_S A s.heap H locs) (hdg : decode cc pc = .ok (.ireturn, 1)) (hoc : some (.int v) = oc) (hP : va_P G.1 vwCl B'.flatten H) :
    W p l e R s m args below meth c H locs 0 0 (gQ G below args s oc B' A) (F0 m pc ls [.int v]) :=
  W.iret hx hb hr (fun t ht _ => ⟨by rw [hoc], by rw [ht]; exact hP, hS.F ht⟩) hS.2.2 hdg hlocks
theorem g_retz (hx : p.tables.exec = Jvm.exec) (hb : c.code = cc) {ty : FieldType} (hr : meth.sig.returnType = some ty) (hlocks : meth.locks = false) {v : Int32} (hS : va_S A s.heap H locs) (hn : narrow ty (.int v) = .int v) (hdg : decode cc pc = .ok (.ireturn, 1)) (hoc : some (.int v) = oc) (hP : va_P G.1 vwCl B'.flatten H) :
    W p l e R s m args below meth c H locs 0 0 (gQ G below args s oc B' A) (F0 m pc ls [.int v]) :=
  W.zret hx hb hr hn (fun t ht _ => ⟨by rw [hoc], by rw [ht]; exact hP, hS.F ht⟩) hS.2.2 hdg hlocks
theorem g_retv (hx : p.tables.exec = Jvm.exec) (hb : c.code = cc) (hr : meth.sig.returnType = none) (hlocks : meth.locks = false) (hS : va_S A s.heap H locs) (hdg : decode cc pc = .ok (.return_, 1)) (hoc : none = oc) (hP : va_P G.1 vwCl B'.flatten H) :
    W p l e R s m args below meth c H locs 0 0 (gQ G below args s oc B' A) (F0 m pc ls []) :=
  W.vret hx hb hr (fun t ht _ => ⟨by rw [hoc], by rw [ht]; exact hP, hS.F ht⟩) hS.2.2 hdg hlocks
end GRET
section GCALL
variable {p : Program} {l : Launch} {e : Env} {R : Room} {s : State} {m : MethodId} {args : Array Value} {below : List Frame} {meth : Method} {c : Code} {H : Heap} {locs : List Loc} {cells slots : Nat} {Q : State → Prop}
variable {pc : Nat} {ls : Array Slot} {rest st0 : List Value} {A : Nat → Prop} {H0 : Heap} {G : gG} {B Bc Bc' : List va_W} {oc : Option Value}
theorem g_end (hr : va_Run p l e R s m args below meth c H locs cells slots 0 0 (F0 m pc ls st0) rest (fun st o t => o = .returned oc ∧ va_P G.1 vwCl Bc'.flatten t.heap ∧ va_F (va_A Bc.flatten H.size) st t) (va_A Bc.flatten H.size))
    (ha : Bc'.map (List.map Prod.fst) = Bc.map (List.map Prod.fst)) (hP : va_P G.1 vwCl B.flatten H) (hD : va_D A B.flatten) (hS : va_S A H0 H locs) (hA : ∀ q : Nat, H0.size ≤ q → A q) (is : List Nat) (his : is.map (fun i => B[i]?) = Bc.map some) (hn : va_nd is = true)
    (kk : ∀ (H1 : Heap) (locs1 : List Loc), va_P G.1 vwCl (gPut B is Bc').flatten H1 → va_D A (gPut B is Bc').flatten → va_S A H0 H1 locs1 → W p l e R s m args below meth c H1 locs1 cells slots Q (F0 m (pc + 3) ls (oc.toList ++ rest))) : W p l e R s m args below meth c H locs cells slots Q (F0 m pc ls st0) := by
  intro T hT X
  obtain ⟨v, st₀, t, T', L, h0, X', hL, e1, e2, ⟨hv, hPt, hz, hk⟩, st⟩ := hr T hT X
  cases hv
  rw [h0] at hz hk
  have hfree : ∀ q : Nat, va_A Bc.flatten H.size q → A q := by
    intro q hq
    rw [g_A_mem] at hq
    rcases hq with hq | hq
    · rw [g_nodup] at hD
      obtain ⟨x, h1, h2⟩ := List.mem_map.mp hq
      obtain ⟨b, hb, hxb⟩ := List.mem_flatten.mp h1
      obtain ⟨k, hkb⟩ := List.getElem?_of_mem hb
      have h7 : (is.map (fun i => B[i]?))[k]? = some (some b) := by rw [his, List.getElem?_map, hkb]; rfl
      rw [List.getElem?_map] at h7
      cases hi : is[k]? with
      | none => rw [hi] at h7; cases h7
      | some i =>
        rw [hi] at h7
        rw [← h2]
        exact hD.2 x (List.mem_flatten.mpr ⟨b, List.mem_of_getElem? (Option.some.inj h7), hxb⟩)
    · exact hA q (Nat.le_trans hS.1 hq)
  obtain ⟨hP1, hD1⟩ := g_join (H1 := T'.heap) hP hD is his hn ha (fun q h1 h2 => by rw [e1]; exact hk q h1 h2) (by rw [e1]; exact hPt)
  obtain ⟨t2, a1, b1⟩ := kk T'.heap (locs ++ L) hP1 hD1
    ⟨Nat.le_trans hS.1 (by rw [e1]; exact hz), fun q h1 h2 => by rw [e1, hk q (Nat.lt_of_lt_of_le h1 hS.1) (fun z => h2 (hfree q z))]; exact hS.2.1 q h1 h2, fun q hq => by
      rcases List.mem_append.mp hq with h | h
      · exact hS.2.2 q h
      · exact hfree _ (hL q h)⟩ T' rfl X'
  exact ⟨t2, st t2 a1, b1⟩
theorem g_pre {s U : State} {H : Heap} {A : Nat → Prop} (hK : gK G s) (hP : va_P G.1 vwCl B.flatten H) (hD : va_D A B.flatten) (is : List Nat) (his : is.map (fun i => B[i]?) = Bc.map some) (hn : va_nd is = true) (hU : U.heap = H) (hW : s.WarmedH U.vm) :
    U.heap.size = H.size ∧ va_P G.1 vwCl Bc.flatten U.heap ∧ gK G U ∧ va_D (fun _ => True) Bc.flatten := by
  have hsub : ∀ b ∈ Bc, b ∈ B := by
    intro b hb
    obtain ⟨k, hkb⟩ := List.getElem?_of_mem hb
    have h7 : (is.map (fun i => B[i]?))[k]? = some (some b) := by rw [his, List.getElem?_map, hkb]; rfl
    rw [List.getElem?_map] at h7
    cases hi : is[k]? with
    | none => rw [hi] at h7; cases h7
    | some i => rw [hi] at h7; exact List.mem_of_getElem? (Option.some.inj h7)
  refine ⟨by rw [hU], ?_, hK.warm hW, ?_⟩
  · rw [hU]
    rw [g_iff] at hP ⊢
    intro q hq
    obtain ⟨b, hb, hqb⟩ := List.mem_flatten.mp hq
    exact hP q (List.mem_flatten.mpr ⟨b, hsub b hb, hqb⟩)
  · rw [g_nodup] at hD ⊢
    refine ⟨?_, fun _ _ => trivial⟩
    have hD1 := hD.1
    rw [List.map_flatten, List.nodup_iff_pairwise_ne, List.pairwise_flatten] at hD1 ⊢
    refine ⟨fun l hl => ?_, ?_⟩
    · obtain ⟨b, hb, e⟩ := List.mem_map.mp hl
      exact hD1.1 l (List.mem_map.mpr ⟨b, hsub b hb, e⟩)
    · have hpw := hD1.2
      rw [List.pairwise_iff_getElem] at hpw ⊢
      intro i j hi hj hij x hx y hy
      rw [List.length_map] at hi hj
      rw [List.getElem_map] at hx hy
      have key : ∀ (k : Nat) (hk : k < Bc.length), ∃ (i2 : Nat) (h2 : i2 < B.length), is[k]? = some i2 ∧ B[i2] = Bc[k] := by
        intro k hk
        have h7 : (is.map (fun i => B[i]?))[k]? = some (some Bc[k]) := by rw [his, List.getElem?_map, List.getElem?_eq_getElem hk]; rfl
        rw [List.getElem?_map] at h7
        cases hi : is[k]? with
        | none => rw [hi] at h7; cases h7
        | some i2 =>
          rw [hi] at h7
          obtain ⟨l2, e2⟩ := List.getElem?_eq_some_iff.mp (Option.some.inj h7)
          exact ⟨i2, l2, rfl, e2⟩
      obtain ⟨i2, l2, a2, e2⟩ := key i hi
      obtain ⟨j2, k2, b2, f2⟩ := key j hj
      have hne : i2 ≠ j2 := fun e => Nat.ne_of_lt hij (va_nd_inj is hn i j i2 a2 (by rw [b2, e]))
      rcases Nat.lt_or_gt_of_ne hne with hlt | hlt
      · exact hpw i2 j2 (by simpa using l2) (by simpa using k2) hlt x (by rw [List.getElem_map, e2]; exact hx) y (by rw [List.getElem_map, f2]; exact hy)
      · exact fun e => hpw j2 i2 (by simpa using k2) (by simpa using l2) hlt y (by rw [List.getElem_map, f2]; exact hy) x (by rw [List.getElem_map, e2]; exact hx) e.symm
variable {y : MethodName} {bytes cc : ByteArray} {maxL nL n index fr lo ci q0 : Nat} {ret : Option FieldType} {ws ws' : List Cond} {Ts : List Cond} {own host : String} {b : Addr} {As : List Value} {cq : vw_C} {fs : List Value}
theorem g_callV (hC : CT l G y ws fr lo (.ref b :: As) Bc oc Bc') (hx : p.tables.exec = Jvm.exec) (hb : c.code = cc) (hml : c.maxLocals = nL) (hown : s.vm.findClass own = some m.cls) (hts : ∀ w ∈ Ts, w.before args s = true) (hK : gK G s)
    (hP : va_P G.1 vwCl B.flatten H) (hD : va_D A B.flatten) (hS : va_S A H0 H locs) (hA : ∀ q : Nat, H0.size ≤ q → A q)
    (hT : GoodIn Ts (wsV own index cq.1 y ws)) (hw : ws = Cond.code y bytes maxL ret :: ws') (hd : y.cls = cq.1 ∧ y.cls ≠ "java/lang/invoke/MethodHandle" ∧ y.cls ≠ "java/lang/invoke/VarHandle" ∧ (parseMethodDescriptor y.desc).map (fun d => d.parameters.length) = some n) (hlen : As.length = n)
    (hR : fr + 1 ≤ R.frames ∧ 8 + (maxL + 11) + lo ≤ R.locals) (is : List Nat) (his : is.map (fun i => B[i]?) = Bc.map some) (hn : va_nd is = true) (q0 : Nat) (hrecv : B.flatten[q0]? = some (b, .inr (ci, fs))) (hci : vwCl[ci]? = some cq)
    (hsize : ls.size = nL) (hstack : st0 = As.reverse ++ .ref b :: rest) (hcat : (rest.map fun v => v.category).sum ≤ 8) (hf : cells ≤ R.cells ∧ slots ≤ R.slots) (hdg : decode cc pc = .ok (.invokevirtual index, 3))
    (kk : ∀ (H1 : Heap) (locs1 : List Loc), va_P G.1 vwCl (gPut B is Bc').flatten H1 → va_D A (gPut B is Bc').flatten → va_S A H0 H1 locs1 → W p l e R s m args below meth c H1 locs1 cells slots Q (F0 m (pc + 3) ls (oc.toList ++ rest))) : W p l e R s m args below meth c H locs cells slots Q (F0 m pc ls st0) := by
  refine g_end (va_runV (C := cq.1) (As := As) (rest := rest) ⟨hx, hb, hml, hown, hts⟩ (hC.2 H.size) (cwV n hts hT hw rfl rfl hd hR) ⟨fun a U g mk q => ?_, va_recv hK.1 hP hci hrecv, fun U hU hW => ⟨rfl, g_pre hK hP hD is his hn hU hW⟩⟩ rfl hlen hsize hstack (lv_room hcat) hdg hf) hC.1 hP hD hS hA is his hn kk
  obtain ⟨q0, q1, qP, qK, qD⟩ := q
  exact ⟨q0, q1, qP, qK.calling g mk a, qD⟩
theorem g_callS (hC : CT l G y ws fr lo As Bc oc Bc') (hx : p.tables.exec = Jvm.exec) (hb : c.code = cc) (hml : c.maxLocals = nL) (hown : s.vm.findClass own = some m.cls) (hts : ∀ w ∈ Ts, w.before args s = true) (hK : gK G s)
    (hP : va_P G.1 vwCl B.flatten H) (hD : va_D A B.flatten) (hS : va_S A H0 H locs) (hA : ∀ q : Nat, H0.size ≤ q → A q)
    (hT : GoodIn Ts (va_wsS own index y ws)) (hw : ws = Cond.code y bytes maxL ret :: ws') (hd : y.cls ≠ "java/lang/invoke/MethodHandle" ∧ y.cls ≠ "java/lang/invoke/VarHandle" ∧ (parseMethodDescriptor y.desc).map (fun d => d.parameters.length) = some n) (hlen : As.length = n)
    (hR : fr + 1 ≤ R.frames ∧ 8 + (maxL + 11) + lo ≤ R.locals) (is : List Nat) (his : is.map (fun i => B[i]?) = Bc.map some) (hn : va_nd is = true)
    (hsize : ls.size = nL) (hstack : st0 = As.reverse ++ rest) (hcat : (rest.map fun v => v.category).sum ≤ 8) (hf : cells ≤ R.cells ∧ slots ≤ R.slots) (hdg : decode cc pc = .ok (.invokestatic index, 3))
    (kk : ∀ (H1 : Heap) (locs1 : List Loc), va_P G.1 vwCl (gPut B is Bc').flatten H1 → va_D A (gPut B is Bc').flatten → va_S A H0 H1 locs1 → W p l e R s m args below meth c H1 locs1 cells slots Q (F0 m (pc + 3) ls (oc.toList ++ rest))) : W p l e R s m args below meth c H locs cells slots Q (F0 m pc ls st0) := by
  refine g_end (va_runS (As := As) (rest := rest) ⟨hx, hb, hml, hown, hts⟩ (hC.2 H.size) (va_cwS n hts hT hw rfl rfl hd hR) ⟨fun a U g mk q => ?_, fun U hU hW => ⟨rfl, g_pre hK hP hD is his hn hU hW⟩⟩ rfl hlen hsize hstack (lv_room hcat) hdg hf) hC.1 hP hD hS hA is his hn kk
  obtain ⟨q0, q1, qP, qK, qD⟩ := q
  exact ⟨q0, q1, qP, qK.calling g mk a, qD⟩
theorem g_callN (hC : CT l G y ws fr lo As Bc oc Bc') (hx : p.tables.exec = Jvm.exec) (hb : c.code = cc) (hml : c.maxLocals = nL) (hown : s.vm.findClass own = some m.cls) (hts : ∀ w ∈ Ts, w.before args s = true) (hK : gK G s)
    (hP : va_P G.1 vwCl B.flatten H) (hD : va_D A B.flatten) (hS : va_S A H0 H locs) (hA : ∀ q : Nat, H0.size ≤ q → A q)
    (hT : GoodIn Ts ws) (hw : ws = Cond.code y bytes maxL ret :: ws') (hnw : .methodLinkNest own index y host ∈ gNW) (hini : (Cond.initialized y.cls) ∈ Ts) (hst : (Cond.static y) ∈ Ts) (hd : y.cls ≠ "java/lang/invoke/MethodHandle" ∧ y.cls ≠ "java/lang/invoke/VarHandle" ∧ (parseMethodDescriptor y.desc).map (fun d => d.parameters.length) = some n) (hlen : As.length = n)
    (hR : fr + 1 ≤ R.frames ∧ 8 + (maxL + 11) + lo ≤ R.locals) (is : List Nat) (his : is.map (fun i => B[i]?) = Bc.map some) (hn : va_nd is = true)
    (hsize : ls.size = nL) (hstack : st0 = As.reverse ++ rest) (hcat : (rest.map fun v => v.category).sum ≤ 8) (hf : cells ≤ R.cells ∧ slots ≤ R.slots) (hdg : decode cc pc = .ok (.invokestatic index, 3))
    (kk : ∀ (H1 : Heap) (locs1 : List Loc), va_P G.1 vwCl (gPut B is Bc').flatten H1 → va_D A (gPut B is Bc').flatten → va_S A H0 H1 locs1 → W p l e R s m args below meth c H1 locs1 cells slots Q (F0 m (pc + 3) ls (oc.toList ++ rest))) : W p l e R s m args below meth c H locs cells slots Q (F0 m pc ls st0) := by
  refine g_end (va_runSN (host := host) (As := As) (rest := rest) ⟨hx, hb, hml, hown, hts⟩ (hC.2 H.size) ⟨va_cnB n hts hT hw rfl rfl (hK.2 _ hnw) (hts _ hini) hd hR, hts _ hst, trivial⟩ ⟨fun a U g mk q => ?_, fun U hU hW => ⟨rfl, g_pre hK hP hD is his hn hU hW⟩⟩ rfl hlen hsize hstack (lv_room hcat) hdg hf) hC.1 hP hD hS hA is his hn kk
  obtain ⟨q0, q1, qP, qK, qD⟩ := q
  exact ⟨q0, q1, qP, qK.calling g mk a, qD⟩
end GCALL
/-! THE BLOCKS -/
/-- a row of a record put anew -/
def sF (b : Nat → Nat → Int32) (r : Nat) (f : Nat → Int32) : Nat → Nat → Int32 := fun k => if k = r then f else b k
abbrev bwI (G : gG) (a n : Nat) (f : Nat → Int32) : Nat × va_E := (a, .inl (G.2.1, n, .inl f))
/-- an int array alone -/
def AW (G : gG) (a n : Nat) (f : Nat → Int32) : va_W := [bwI G a n f]
def BW (G : gG) (a : Nat → Nat) (b : Nat → Nat → Int32) : va_W := [(a 0, .inr (0, [.int (b 0 0), .ref (a 1), .ref (a 2), .ref (a 3), .ref (a 4), .ref (a 5), .ref (a 6), .ref (a 7)])), bwI G (a 1) 6 (b 1), bwI G (a 2) 6 (b 2), bwI G (a 3) 6 (b 3), bwI G (a 4) 6 (b 4), bwI G (a 5) 6 (b 5), bwI G (a 6) 6 (b 6), bwI G (a 7) 6 (b 7)]
def LW (G : gG) (a : Nat → Nat) (g : Nat → Nat → Int32) : va_W := [(a 0, .inr (2, [.int (g 0 0), .int (g 0 1), .ref (a 1), .ref (a 2), .ref (a 3)])), bwI G (a 1) 10 (g 1), bwI G (a 2) 10 (g 2), bwI G (a 3) 10 (g 3)]
def PW (G : gG) (a : Nat → Nat) (p : Nat → Nat → Int32) : va_W := [(a 0, .inr (3, [.int (p 0 0), .ref (a 1), .ref (a 2), .ref (a 3), .ref (a 4)])), bwI G (a 1) 5 (p 1), bwI G (a 2) 5 (p 2), bwI G (a 3) 5 (p 3), bwI G (a 4) 5 (p 4)]
/-- the State itself: mode, stage, lasted, tick, pausedTicks, wasPaused, timesDone, timesAtFault -/
def OW (_ : gG) (a : Nat → Nat) (o : Nat → Int32) : va_W := [(a 0, .inr (4, [.ref (a 1), .ref (a 2), .ref (a 10), .ref (a 15), .int (o 0), .int (o 1), .int (o 2), .int (o 3), .int (o 4), .int (o 5), .int (o 6), .int (o 7)]))]
/-- a text: length and place; its characters -/
def TW (G : gG) (a : Nat → Nat) (t : Nat → Nat → Int32) : va_W := [(a 0, .inr (5, [.int (t 0 0), .int (t 0 1), .ref (a 1)])), (a 1, .inl (G.2.2.1, 60, .inl (t 1)))]
/-! NAMES FOR VALUES -/
def gL {α : Type} {β : Sort _} (x : α) (f : α → β) : β := f x
theorem g_let {α β : Type} {R : β} {x : α} {f : α → β} (h : R = gL x f) : ∃ z, z = x ∧ R = f z := ⟨x, rfl, h⟩
theorem g_let1 {α : Type} {x : α} {g : α → Prop} (h : gL x g) : ∃ z, z = x ∧ g z := ⟨x, rfl, h⟩
theorem g_let2 {α β : Type} {R : β} {x : α} {f : α → β} {g : α → Prop} (h : R = gL x f) (h2 : gL x g) : ∃ z, z = x ∧ R = f z ∧ g z := ⟨x, rfl, h, h2⟩
def gmax (x y : Int32) : Int32 := if x < y then y else x
def gmin (x y : Int32) : Int32 := if y < x then y else x
def gz (v : Int32) : Prop := v = 0 ∨ v = 1
theorem gz.narrow {v : Int32} (h : gz v) : narrow .boolean (.int v) = .int v := by rcases h with rfl | rfl <;> rfl
theorem gz.fits {v : Int32} (h : gz v) : fits .boolean (.int v) = true := by rcases h with rfl | rfl <;> rfl
theorem g_out {x : Int32} (n : Nat) {lo hi : Int} (h : ∀ k : Nat, k < n → ¬ x = Int32.ofNat k) (hlo : lo = 0 := by decide) (hhi : hi + 1 = (n : Int) := by decide) (hn : n < 1000 := by decide) : x.toInt < lo ∨ hi < x.toInt := by
  rcases Int.lt_or_le x.toInt lo with h1 | h1
  · exact Or.inl h1
  · rcases Int.lt_or_le hi x.toInt with h2 | h2
    · exact Or.inr h2
    · refine absurd ?_ (h x.toInt.toNat (by omega))
      refine Int32.toInt_inj.mp ?_
      rw [Int32.toInt_ofNat_of_lt (by omega)]
      omega
theorem g_ne {x a : Int32} {k : Int} (h : ¬ x = a) (e : a.toInt = k) : ¬ k = x.toInt := fun q => h (Int32.toInt_inj.mp (q.symm.trans e.symm))
theorem g_lk2 {x a1 a2 : Int32} {k1 o1 k2 o2 d : Int} (h1 : ¬ x = a1) (h2 : ¬ x = a2) (e1 : a1.toInt = k1 := by decide) (e2 : a2.toInt = k2 := by decide) : Op.lookupswitch.offset [(k1, o1), (k2, o2)] d x.toInt = d := by
  rw [Op.lookupswitch.offset_cons, if_neg (g_ne h1 e1), Op.lookupswitch.offset_cons, if_neg (g_ne h2 e2), Op.lookupswitch.offset_nil]
theorem g_lk3 {x a1 a2 a3 : Int32} {k1 o1 k2 o2 k3 o3 d : Int} (h1 : ¬ x = a1) (h2 : ¬ x = a2) (h3 : ¬ x = a3) (e1 : a1.toInt = k1 := by decide) (e2 : a2.toInt = k2 := by decide) (e3 : a3.toInt = k3 := by decide) : Op.lookupswitch.offset [(k1, o1), (k2, o2), (k3, o3)] d x.toInt = d := by
  rw [Op.lookupswitch.offset_cons, if_neg (g_ne h1 e1), Op.lookupswitch.offset_cons, if_neg (g_ne h2 e2), Op.lookupswitch.offset_cons, if_neg (g_ne h3 e3), Op.lookupswitch.offset_nil]
section GROW
variable {p : Program} {l : Launch} {e : Env} {R : Room} {s : State} {m : MethodId} {args : Array Value} {below : List Frame} {meth : Method} {c : Code} {H : Heap} {locs : List Loc} {cells slots : Nat} {Q : State → Prop}
variable {cc : ByteArray} {pc : Nat} {ls : Array Slot} {rest : List Value} {A : Nat → Prop} {a : Nat} {H0 : Heap} {G : gG} {B : List va_W}
theorem g_topE {x y : Int32} (h : x = y) (k : W p l e R s m args below meth c H locs cells slots Q (F0 m pc ls (.int y :: rest))) : W p l e R s m args below meth c H locs cells slots Q (F0 m pc ls (.int x :: rest)) := by rw [h]; exact k
theorem g_ld (hx : p.tables.exec = Jvm.exec) (hb : c.code = cc) (hK : gK G s) (hP : va_P G.1 vwCl B.flatten H) (q0 : Nat) {n : Nat} {f : Nat → Int32} (ha : B.flatten[q0]? = some (bwI G a n f)) {i : Int32} {k : Nat} (hk : i.toNatClampNeg = k) (hin : vp_in i n) {v : Int32} (hv : f k = v) (hdg : decode cc pc = .ok (.iaload, 1))
    (kk : W p l e R s m args below meth c H locs cells slots Q (F0 m (pc + 1) ls (.int v :: rest))) : W p l e R s m args below meth c H locs cells slots Q (F0 m pc ls (.int i :: .ref a :: rest)) := by
  refine va_iald hx hb hK.1 hP q0 0 ha rfl hin hdg ?_
  rw [hk, hv]; exact kk
theorem g_ldc (hx : p.tables.exec = Jvm.exec) (hb : c.code = cc) (hK : gK G s) (hP : va_P G.1 vwCl B.flatten H) (q0 : Nat) {n : Nat} {f : Nat → Int32} (ha : B.flatten[q0]? = some (a, .inl (G.2.2.1, n, .inl f))) {i : Int32} {k : Nat} (hk : i.toNatClampNeg = k) (hin : vp_in i n) {v : Int32} (hv : f k = v) (hdg : decode cc pc = .ok (.caload, 1))
    (kk : W p l e R s m args below meth c H locs cells slots Q (F0 m (pc + 1) ls (.int v :: rest))) : W p l e R s m args below meth c H locs cells slots Q (F0 m pc ls (.int i :: .ref a :: rest)) := by
  refine va_cald hx hb hK.1 hP q0 1 ha rfl hin hdg ?_
  rw [hk, hv]; exact kk
theorem g_st (hx : p.tables.exec = Jvm.exec) (hb : c.code = cc) (hK : gK G s) (hP : va_P G.1 vwCl B.flatten H) (hD : va_D A B.flatten) (hS : va_S A H0 H locs) (q0 : Nat) {n : Nat} {f : Nat → Int32} (ha : B.flatten[q0]? = some (bwI G a n f)) {i x : Int32} {k : Nat} (hk : i.toNatClampNeg = k) (hin : vp_in i n) {B2 : List va_W} (hB : B.flatten.set q0 (bwI G a n (upd f k x)) = B2.flatten) (hdg : decode cc pc = .ok (.iastore, 1))
    (kk : ∀ (H1 : Heap) (locs1 : List Loc), va_P G.1 vwCl B2.flatten H1 → va_D A B2.flatten → va_S A H0 H1 locs1 → W p l e R s m args below meth c H1 locs1 cells slots Q (F0 m (pc + 1) ls rest)) : W p l e R s m args below meth c H locs cells slots Q (F0 m pc ls (.int x :: .int i :: .ref a :: rest)) := by
  refine va_iast hx hb hK.1 hP hD hS q0 0 ha rfl hin hdg ?_
  rw [hk]
  show ∀ (H1 : Heap) (locs1 : List Loc), va_P G.1 vwCl (B.flatten.set q0 (bwI G a n (upd f k x))) H1 → va_D A (B.flatten.set q0 (bwI G a n (upd f k x))) → _
  rw [hB]; exact kk
theorem g_stc (hx : p.tables.exec = Jvm.exec) (hb : c.code = cc) (hK : gK G s) (hP : va_P G.1 vwCl B.flatten H) (hD : va_D A B.flatten) (hS : va_S A H0 H locs) (q0 : Nat) {n : Nat} {f : Nat → Int32} (ha : B.flatten[q0]? = some (a, .inl (G.2.2.1, n, .inl f))) {i x : Int32} {k : Nat} (hk : i.toNatClampNeg = k) (hin : vp_in i n) {B2 : List va_W} (hB : B.flatten.set q0 (a, .inl (G.2.2.1, n, .inl (upd f k (vp_nar .char x)))) = B2.flatten) (hdg : decode cc pc = .ok (.castore, 1))
    (kk : ∀ (H1 : Heap) (locs1 : List Loc), va_P G.1 vwCl B2.flatten H1 → va_D A B2.flatten → va_S A H0 H1 locs1 → W p l e R s m args below meth c H1 locs1 cells slots Q (F0 m (pc + 1) ls rest)) : W p l e R s m args below meth c H locs cells slots Q (F0 m pc ls (.int x :: .int i :: .ref a :: rest)) := by
  refine va_cast hx hb hK.1 hP hD hS q0 1 ha rfl hin hdg ?_
  rw [hk, hB]; exact kk
theorem g_get (hx : p.tables.exec = Jvm.exec) (hb : c.code = cc) {own C : String} {T : u_T} {N ci index : Nat} {Ts : List Cond} (hts : ∀ w ∈ Ts, w.before args s = true) (hin : ∀ w ∈ u_ws C T N, w ∈ Ts) (hown : s.vm.findClass own = some m.cls) (hK : gK G s) (hP : va_P G.1 vwCl B.flatten H) (q0 : Nat) {fs : List Value} (he : B.flatten[q0]? = some (a, .inr (ci, fs))) (hc : vwCl[ci]? = some (C, T, N)) (k : Nat) (hk : k < N) (hlink : (Cond.fieldLink own index (T k).1 (T k).2.1 (T k).2.2.1).before args s = true) {v : Value} (hv : fs[k]? = some v) (hdg : decode cc pc = .ok (.getfield index, 3))
    (kk : W p l e R s m args below meth c H locs cells slots Q (F0 m (pc + 3) ls (v :: rest))) : W p l e R s m args below meth c H locs cells slots Q (F0 m pc ls (.ref a :: rest)) :=
  va_get hx hb hts hin hown hK.1 hP q0 he hc k hk hlink (fun _ h => h) hv hdg kk
theorem g_put (hx : p.tables.exec = Jvm.exec) (hb : c.code = cc) {own C : String} {T : u_T} {N ci index : Nat} {Ts : List Cond} (hts : ∀ w ∈ Ts, w.before args s = true) (hin : ∀ w ∈ u_ws C T N, w ∈ Ts) (ty0 : Nat → FieldType) (hty : ∀ k, k < N → parseFieldDescriptor (T k).2.2.1 = some (ty0 k)) (hnm : ∀ a, a < N → ∀ b, b < N → a ≠ b → (T a).2.1 ≠ (T b).2.1) (hown : s.vm.findClass own = some m.cls) (hK : gK G s) (hP : va_P G.1 vwCl B.flatten H) (hD : va_D A B.flatten) (hS : va_S A H0 H locs) (q0 : Nat) {fs : List Value} (he : B.flatten[q0]? = some (a, .inr (ci, fs))) (hc : vwCl[ci]? = some (C, T, N)) (k : Nat) (hk : k < N) (hlink : (Cond.fieldLink own index (T k).1 (T k).2.1 (T k).2.2.1).before args s = true) (hfin : (T k).2.2.2 = false) {ty : FieldType} {v : Value} (hd : parseFieldDescriptor (T k).2.2.1 = some ty) (hn : narrow ty v = v) (hfit : fits ty v = true) (hl : k < fs.length) {B2 : List va_W} (hB : B.flatten.set q0 (a, .inr (ci, fs.set k v)) = B2.flatten) (hdg : decode cc pc = .ok (.putfield index, 3))
    (kk : ∀ (H1 : Heap) (locs1 : List Loc), va_P G.1 vwCl B2.flatten H1 → va_D A B2.flatten → va_S A H0 H1 locs1 → W p l e R s m args below meth c H1 locs1 cells slots Q (F0 m (pc + 3) ls rest)) : W p l e R s m args below meth c H locs cells slots Q (F0 m pc ls (v :: .ref a :: rest)) := by
  refine va_put hx hb hts hin ty0 hty hnm hown hK.1 hP hD hS q0 he hc k hk hlink (fun _ h => h) hfin hd hn hfit hl hdg ?_
  rw [hB]; exact kk
theorem g_arrV {cA : ClassId} {N : Nat} {f f1 : Nat → Int32} (h : ∀ j, j < N → f1 j = f j) : vp_cell cA (N, .inl f1) = vp_cell cA (N, .inl f) := by
  show arrV cA N (fun j => .int (f1 j)) = arrV cA N (fun j => .int (f j))
  unfold arrV
  congr 2
  funext j
  show Value.int (f1 j.val) = Value.int (f j.val)
  rw [h j.val j.isLt]
theorem g_P_cell {D : va_G} {cl : List vw_C} {ws : va_W} {q a N : Nat} {cA : ClassId} {f f1 : Nat → Int32} {H : Heap} (h : ∀ j, j < N → f1 j = f j) (hP : va_P D cl (ws.set q (a, .inl (cA, N, .inl f1))) H) : va_P D cl (ws.set q (a, .inl (cA, N, .inl f))) H := by
  intro k x hk
  rw [List.getElem?_set] at hk
  split at hk
  · next hq =>
    subst hq
    split at hk
    · next hl =>
      cases hk
      have h1 := hP q (a, .inl (cA, N, .inl f1)) (by rw [List.getElem?_set, if_pos rfl, if_pos hl])
      show H[a]? = some (vp_cell cA (N, .inl f))
      rw [← g_arrV h]
      exact h1
    · cases hk
  · next hq => exact hP k x (by rw [List.getElem?_set, if_neg hq]; exact hk)
theorem g_copy (hx : p.tables.exec = Jvm.exec) (hb : c.code = cc) (hml : c.maxLocals = ls.size) {own : String} {index : Nat} (hown : s.vm.findClass own = some m.cls) (hlink : (Cond.methodLink own index arraycopyName).before args s = true) (hnat : (Cond.native arraycopyName).before args s = true) (hstat : (Cond.static arraycopyName).before args s = true) (hini : (Cond.initialized "java/lang/System").before args s = true)
    (hK : gK G s) (hP : va_P G.1 vwCl B.flatten H) (hD : va_D A B.flatten) (hS : va_S A H0 H locs) (q0 q1 : Nat) {a0 N : Nat} {f g : Nat → Int32} (ha0 : B.flatten[q0]? = some (bwI G a0 N f)) (ha1 : B.flatten[q1]? = some (bwI G a N g)) {n : Int32} (h3 : ¬ n < 0) (h4 : n.toNatClampNeg = N) {B2 : List va_W} (hB : B.flatten.set q1 (bwI G a N f) = B2.flatten)
    (hframes : 1 ≤ R.frames) (hlocals : (rest.map fun v => v.category).sum + 18 ≤ R.locals) (hdg : decode cc pc = .ok (.invokestatic index, 3))
    (kk : ∀ (H1 : Heap) (locs1 : List Loc), va_P G.1 vwCl B2.flatten H1 → va_D A B2.flatten → va_S A H0 H1 locs1 → W p l e R s m args below meth c H1 locs1 cells slots Q (F0 m (pc + 3) ls rest)) : W p l e R s m args below meth c H locs cells slots Q (F0 m pc ls (.int n :: .int 0 :: .ref a :: .int 0 :: .ref a0 :: rest)) := by
  have z : (0 : Int32).toNatClampNeg = 0 := by decide
  have hw : nativeFrameWords "java/lang/System" "arraycopy" 5 + 11 = 18 := by decide +kernel
  refine va_copyi (ty := .int) hx hb hml hown hlink hnat hstat hini hK.1 hP hD hS q0 q1 0 0 ha0 ha1 rfl rfl rfl (by decide) (by decide) h3 (by rw [z, h4]; omega) (by rw [z, h4]; omega) (fun _ _ => rfl) hframes (by rw [hw]; exact hlocals) hdg ?_
  intro H1 locs1 hP1 hD1 hS1
  rw [h4, z] at hP1 hD1
  have hP2 := g_P_cell (f := f) (fun j hj => by unfold va_cpy; rw [if_pos ⟨Nat.zero_le _, by omega⟩]; congr 1; omega) hP1
  refine kk H1 locs1 ?_ ?_ hS1
  · rw [← hB]; exact hP2
  · rw [← hB]
    refine g_D_fst ?_ hD1
    rw [List.map_set, List.map_set]
end GROW
/-- the reference itself: states, isFilled, length, at, number, reads -/
def MO (_ : gG) (a : Nat → Nat) (o : Nat → Int32) : va_W := [(a 0, .inr (7, [.ref (a 1), .ref (a 2), .ref (a 3), .int (o 0), .ref (a 4), .int (o 1), .ref (a 5), .int (o 2), .int (o 3), .int (o 4), .ref (a 6), .int (o 5)]))]
/-- its text -/
def CX (G : gG) (a : Nat) (f : Nat → Int32) : va_W := [(a, .inl (G.2.2.1, 60, .inl f))]
