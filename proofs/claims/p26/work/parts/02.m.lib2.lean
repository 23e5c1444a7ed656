/-! THE HISTORY's BLOCKS; contracts over larger worlds; the tables of settings -/
def k4 (q0 q1 q2 q3 : Nat) : Nat → Option Nat := fun j => if j = 0 then some q0 else if j = 1 then some q1 else if j = 2 then some q2 else if j = 3 then some q3 else none
theorem k4_0 {q0 q1 q2 q3 v : Nat} : va_up (k4 q0 q1 q2 q3) 0 (some v) = k4 v q1 q2 q3 := by funext j; simp only [va_up, k4]; split <;> rfl
theorem k4_1 {q0 q1 q2 q3 v : Nat} : va_up (k4 q0 q1 q2 q3) 1 (some v) = k4 q0 v q2 q3 := by
  funext j; simp only [va_up, k4]
  by_cases h : j = 1
  · subst h; rfl
  · simp [h]
theorem k4_2 {q0 q1 q2 q3 v : Nat} : va_up (k4 q0 q1 q2 q3) 2 (some v) = k4 q0 q1 v q3 := by
  funext j; simp only [va_up, k4]
  by_cases h : j = 2
  · subst h; rfl
  · simp [h]
theorem k4_3 {q0 q1 q2 q3 v : Nat} : va_up (k4 q0 q1 q2 q3) 3 (some v) = k4 q0 q1 q2 v := by
  funext j; simp only [va_up, k4]
  by_cases h : j = 3
  · subst h; rfl
  · simp [h]
abbrev bwQ (G : gG) (a n : Nat) (f : Nat → Option Nat) : Nat × va_E := (a, .inl (G.2.2.2.1, n, .inr (.inr (.inr (.inr f)))))
def HW (G : gG) (a : Nat → Nat) (n : Int32) (f : Nat → Option Nat) : va_W := [(a 0, .inr (1, [.int n, .ref (a 1)])), bwQ G (a 1) 4 f]
/-- ChargeStages itself: whether there is a snapshot -/
def CW (_ : gG) (a : Nat → Nat) (o : Nat → Int32) : va_W := [(a 0, .inr (6, [.ref (a 1), .ref (a 20), .ref (a 39), .int (o 0), .ref (a 58), .ref (a 136), .ref (a 138)]))]
/-- what a State holds -/
abbrev SVal : Type := (Nat → Int32) × (Nat → Int32) × (Nat → Nat → Int32) × (Nat → Nat → Int32) × (Nat → Nat → Int32)
/-- what the history holds: how many states, how far its row has turned, the states in the order of the row -/
abbrev HVal : Type := Nat × Nat × (Nat → SVal)
def svB (G : gG) (a : Nat → Nat) (v : SVal) : List va_W := [OW G a v.1, AW G (a 1) 9 v.2.1, BW G (fun k => a (k + 2)) v.2.2.1, PW G (fun k => a (k + 10)) v.2.2.2.1, LW G (fun k => a (k + 15)) v.2.2.2.2]
def hgA (a : Nat → Nat) (r j : Nat) : Nat := a (2 + 19 * ((j + r) % 4))
def HGWn (G : gG) (a : Nat → Nat) (n r : Nat) (hv : Nat → SVal) : List va_W := HW G a (nI n) (k4 (hgA a r 0) (hgA a r 1) (hgA a r 2) (hgA a r 3)) :: (svB G (fun k => a (k + 2)) (hv ((4 - r) % 4)) ++ svB G (fun k => a (k + 21)) (hv ((5 - r) % 4)) ++ svB G (fun k => a (k + 40)) (hv ((6 - r) % 4)) ++ svB G (fun k => a (k + 59)) (hv ((7 - r) % 4)))
def HGW (G : gG) (a : Nat → Nat) (hh : HVal) : va_W := (HGWn G a hh.1 hh.2.1 hh.2.2).flatten
section GROW2
variable {p : Program} {l : Launch} {e : Env} {R : Room} {s : State} {m : MethodId} {args : Array Value} {below : List Frame} {meth : Method} {c : Code} {H : Heap} {locs : List Loc} {cells slots : Nat} {Q : State → Prop}
variable {cc : ByteArray} {pc : Nat} {ls : Array Slot} {rest : List Value} {A : Nat → Prop} {a : Nat} {H0 : Heap} {G : gG} {B : List va_W}
theorem g_aldq (hx : p.tables.exec = Jvm.exec) (hb : c.code = cc) (hK : gK G s) (hP : va_P G.1 vwCl B.flatten H) (q0 : Nat) {n : Nat} {f : Nat → Option Nat} (ha : B.flatten[q0]? = some (bwQ G a n f)) {i : Int32} {k : Nat} (hk : i.toNatClampNeg = k) (hin : vp_in i n) {v : Nat} (hv : f k = some v) (hdg : decode cc pc = .ok (.aaload, 1))
    (kk : W p l e R s m args below meth c H locs cells slots Q (F0 m (pc + 1) ls (.ref v :: rest))) : W p l e R s m args below meth c H locs cells slots Q (F0 m pc ls (.int i :: .ref a :: rest)) := by
  refine va_aldq hx hb hK.1 hP q0 2 ha rfl hin hdg ?_
  rw [hk, hv]; exact kk
theorem g_astq (hx : p.tables.exec = Jvm.exec) (hb : c.code = cc) (hK : gK G s) (hP : va_P G.1 vwCl B.flatten H) (hD : va_D A B.flatten) (hS : va_S A H0 H locs) (q0 qk : Nat) {n v : Nat} {f : Nat → Option Nat} {vs : List Value} (ha : B.flatten[q0]? = some (bwQ G a n f)) (hv : B.flatten[qk]? = some (v, .inr (4, vs))) {i : Int32} {k : Nat} (hk : i.toNatClampNeg = k) (hin : vp_in i n) {B2 : List va_W} (hB : B.flatten.set q0 (bwQ G a n (va_up f k (some v))) = B2.flatten) (hdg : decode cc pc = .ok (.aastore, 1))
    (kk : ∀ (H1 : Heap) (locs1 : List Loc), va_P G.1 vwCl B2.flatten H1 → va_D A B2.flatten → va_S A H0 H1 locs1 → W p l e R s m args below meth c H1 locs1 cells slots Q (F0 m (pc + 1) ls rest)) : W p l e R s m args below meth c H locs cells slots Q (F0 m pc ls (.ref v :: .int i :: .ref a :: rest)) := by
  refine va_astq (r := (RX4, TX4, 12)) hx hb hK.1 hP hD hS q0 2 qk 4 ha rfl hv rfl hin hdg ?_
  rw [hk]
  show ∀ (H1 : Heap) (locs1 : List Loc), va_P G.1 vwCl (B.flatten.set q0 (bwQ G a n (va_up f k (some v)))) H1 → va_D A (B.flatten.set q0 (bwQ G a n (va_up f k (some v)))) → _
  rw [hB]; exact kk
end GROW2
theorem gPut_sub {B Bc : List va_W} {is : List Nat} (his : is.map (fun i => B[i]?) = Bc.map some) : ∀ b ∈ Bc, b ∈ B := by
  intro b hb
  obtain ⟨k, hkb⟩ := List.getElem?_of_mem hb
  have h7 : (is.map (fun i => B[i]?))[k]? = some (some b) := by rw [his, List.getElem?_map, hkb]; rfl
  rw [List.getElem?_map] at h7
  cases hi : is[k]? with
  | none => rw [hi] at h7; cases h7
  | some i => rw [hi] at h7; exact List.mem_of_getElem? (Option.some.inj h7)
theorem g_sub {B Bc : List va_W} {D : va_G} {H : Heap} (hP : va_P D vwCl B.flatten H) (hD : va_D (fun _ => True) B.flatten) (is : List Nat) (his : is.map (fun i => B[i]?) = Bc.map some) (hn : va_nd is = true) : va_P D vwCl Bc.flatten H ∧ va_D (fun _ => True) Bc.flatten := by
  have hsub := gPut_sub his
  refine ⟨?_, ?_⟩
  · rw [g_iff] at hP ⊢
    intro q hq
    obtain ⟨b, hb, hqb⟩ := List.mem_flatten.mp hq
    exact hP q (List.mem_flatten.mpr ⟨b, hsub b hb, hqb⟩)
  · rw [g_nodup] at hD ⊢
    refine ⟨?_, fun _ _ => trivial⟩
    have hD1 := hD.1
    rw [List.map_flatten, List.nodup_iff_pairwise_ne, List.pairwise_flatten] at hD1 ⊢
    refine ⟨fun l hl => ?_, ?_⟩
    · obtain ⟨b, hb, e⟩ := List.mem_map.mp hl
      exact hD1.1 l (List.mem_map.mpr ⟨b, hsub b hb, e⟩)
    · have hpw := hD1.2
      rw [List.pairwise_iff_getElem] at hpw ⊢
      intro i j hi hj hij x hx y hy
      rw [List.length_map] at hi hj
      rw [List.getElem_map] at hx hy
      have key : ∀ (k : Nat) (hk : k < Bc.length), ∃ (i2 : Nat) (h2 : i2 < B.length), is[k]? = some i2 ∧ B[i2] = Bc[k] := by
        intro k hk
        have h7 : (is.map (fun i => B[i]?))[k]? = some (some Bc[k]) := by rw [his, List.getElem?_map, List.getElem?_eq_getElem hk]; rfl
        rw [List.getElem?_map] at h7
        cases hi : is[k]? with
        | none => rw [hi] at h7; cases h7
        | some i2 =>
          rw [hi] at h7
          obtain ⟨l2, e2⟩ := List.getElem?_eq_some_iff.mp (Option.some.inj h7)
          exact ⟨i2, l2, rfl, e2⟩
      obtain ⟨i2, l2, a2, e2⟩ := key i hi
      obtain ⟨j2, k2, b2, f2⟩ := key j hj
      have hne : i2 ≠ j2 := fun e => Nat.ne_of_lt hij (va_nd_inj is hn i j i2 a2 (by rw [b2, e]))
      rcases Nat.lt_or_gt_of_ne hne with hlt | hlt
      · exact hpw i2 j2 (by simpa using l2) (by simpa using k2) hlt x (by rw [List.getElem_map, e2]; exact hx) y (by rw [List.getElem_map, f2]; exact hy)
      · exact fun e => hpw j2 i2 (by simpa using k2) (by simpa using l2) hlt y (by rw [List.getElem_map, f2]; exact hy) x (by rw [List.getElem_map, e2]; exact hx) e.symm
/-- the frame rule: a contract in a larger world -/
theorem CT.frame {l : Launch} {G : gG} {y : MethodName} {ws : List Cond} {fr lo : Nat} {av : List Value} {Bc Bc' : List va_W} {oc : Option Value} (hC : CT l G y ws fr lo av Bc oc Bc') (B : List va_W) (is : List Nat) (his : is.map (fun i => B[i]?) = Bc.map some) (hn : va_nd is = true) : CT l G y ws fr lo av B oc (gPut B is Bc') := by
  have hsub := gPut_sub his
  have hA : ∀ (sz q : Nat), va_A Bc.flatten sz q → va_A B.flatten sz q := by
    intro sz q h
    rw [g_A_mem] at h ⊢
    rcases h with h | h
    · left
      obtain ⟨x, h1, h2⟩ := List.mem_map.mp h
      obtain ⟨b, hb, hxb⟩ := List.mem_flatten.mp h1
      exact List.mem_map.mpr ⟨x, List.mem_flatten.mpr ⟨b, hsub b hb, hxb⟩, h2⟩
    · exact Or.inr h
  refine ⟨gPut_fst is Bc Bc' B his hn hC.1, fun sz => ?_⟩
  have hM := hC.2 sz
  intro p e ha hc hk s m args below hf happ hP hKt
  obtain ⟨hv, hsz, hPb, hK, hDb⟩ := hP
  obtain ⟨hPc, hDc⟩ := g_sub hPb hDb is his hn
  obtain ⟨n, o, h1, h2, h3, ⟨ho, hPt, hF⟩, L, hL1, hL2⟩ := hM p e ha hc hk s m args below hf happ ⟨hv, hsz, hPc, hK, hDc⟩ hKt
  refine ⟨n, o, h1, h2, h3, ⟨ho, ?_, hF.1, fun q g1 g2 => hF.2 q g1 (fun h => g2 (hA sz q h))⟩, L, hL1, fun q hq => hA sz _ (hL2 q hq)⟩
  exact (g_join (A0 := fun _ => True) hPb hDb is his hn hC.1 (fun q g1 g2 => hF.2 q g1 (by rw [hsz] at g2; exact g2)) hPt).1
theorem CT.eqv {l : Launch} {G : gG} {y : MethodName} {ws : List Cond} {fr lo : Nat} {av : List Value} {B B' B2 B2' : List va_W} {oc : Option Value} (hC : CT l G y ws fr lo av B oc B') (h1 : B.flatten = B2.flatten) (h2 : B'.flatten = B2'.flatten) (h3 : B2'.map (List.map Prod.fst) = B2.map (List.map Prod.fst)) : CT l G y ws fr lo av B2 oc B2' := by
  refine ⟨h3, fun sz => ?_⟩
  have h := hC.2 sz
  rw [h1, h2] at h
  exact h
/-! the tables of settings: static rows that nobody writes -/
def cLeast (j : Nat) : Int32 := [100, 0, 50, -30, 0, -30, -30, 0, 0].getD j 0
def cMost (j : Nat) : Int32 := [5000, 200, 100, 80, 10, 80, 80, 500, 50].getD j 0
def cFirst (j : Nat) : Int32 := [1000, 100, 90, 25, 3, 0, 45, 20, 0].getD j 0
def gZ (z : Nat × Nat × Nat) (A : Nat → Prop) (U : State) : Prop := va_Z RX6 "SETTING_LEAST" "[I" (.ref z.1) A U U.heap ∧ va_Z RX6 "SETTING_MOST" "[I" (.ref z.2.1) A U U.heap ∧ va_Z RX6 "SETTING_FIRST" "[I" (.ref z.2.2) A U U.heap ∧
  va_T .int z.1 9 (fun j => .int (cLeast j)) A U U.heap ∧ va_T .int z.2.1 9 (fun j => .int (cMost j)) A U U.heap ∧ va_T .int z.2.2 9 (fun j => .int (cFirst j)) A U U.heap
def CTZ (z : Nat × Nat × Nat) (l : Launch) (G : gG) (y : MethodName) (ws : List Cond) (fr lo : Nat) (av : List Value) (B : List va_W) (oc : Option Value) (B' : List va_W) : Prop :=
  B'.map (List.map Prod.fst) = B.map (List.map Prod.fst) ∧ ∀ sz : Nat, Met l y ws { frames := fr, cells := 0, slots := 0, locals := lo }
    (va_Pc av (fun U => U.heap.size = sz ∧ va_P G.1 vwCl B.flatten U.heap ∧ gK G U ∧ va_D (fun _ => True) B.flatten ∧ gZ z (va_A B.flatten sz) U))
    (fun _ st o t => o = .returned oc ∧ va_P G.1 vwCl B'.flatten t.heap ∧ va_F (va_A B.flatten sz) st t) 0 0 (va_A B.flatten sz)
set_option maxHeartbeats 1000000 in
theorem CTZ.of {z : Nat × Nat × Nat} {l : Launch} {G : gG} {y : MethodName} {ws ws' : List Cond} {fr lo maxL : Nat} {cc : ByteArray} {ret : Option FieldType} {av : List Value} {B B' : List va_W} {oc : Option Value}
    (hy : plainFor y = true) (hw : ws = .code y cc maxL ret :: ws') (hadr : B'.map (List.map Prod.fst) = B.map (List.map Prod.fst)) (hlen : (lg_sl av).length ≤ maxL)
    (body : ∀ (p : Program) (e : Env) (s : State) (m : MethodId) (below : List Frame) (meth : Method) (c : Code) (A : Nat → Prop) (ls : Array Slot), p.tables.exec = Jvm.exec → c.code = cc → c.maxLocals = maxL → meth.sig.returnType = ret →
      (∀ w ∈ ws, w.before av.toArray s = true) → s.vm.findClass y.cls = some m.cls → meth.locks = false → gK G s → va_P G.1 vwCl B.flatten s.heap → va_D A B.flatten → (∀ q : Nat, s.heap.size ≤ q → A q) → va_S A s.heap s.heap [] → lv_has ls maxL (lv_args 0 av) → gZ z A s →
      W p l e { frames := fr, cells := 0, slots := 0, locals := lo } s m av.toArray below meth c s.heap [] 0 0 (gQ G below av.toArray s oc B' A) (F0 m 0 ls [])) : CTZ z l G y ws fr lo av B oc B' := by
  refine ⟨hadr, fun sz => g_ofW (cc := cc) (maxL := maxL) (ret := ret) hy hw ?_⟩
  intro p e s m args below meth c s₁ Bd hml hv
  obtain ⟨rfl, hsz, hP, hK, hD0, hZ⟩ := hv
  subst hsz
  have hl := lv_entry av (n := maxL) hlen
  rw [lg_entry_eq]
  exact body p e s m below meth c _ _ Bd.exec Bd.bytes hml Bd.returns (atoms_spec (ws := ws) Bd.pre) (findClass_of_methodNamed Bd.named) Bd.notSynchronized hK hP (hD0.self (sz := s.heap.size)) (fun q h => Or.inr h) va_S.rf hl hZ
