/-! THE DRAWN NUMBERS: whatever they are, drawn ends and changes nothing -/
def f_drawn (L : Nat) (xs : Nat → Int32) (k : Int32) : Int32 := if nI L = 0 then 7919 * k + 3 else ((xs ((k - k / nI L * nI L).toNatClampNeg) >>> ((k - k / 7 * 7) &&& 31)) ^^^ (k / nI L * 31)) ^^^ (k * 2654435)
theorem va_T_of_X {b L : Nat} {xs : Nat → Int32} {A : Nat → Prop} {U : State} {H : Heap} (h : va_X b L xs U H) (hA : ¬ A b) : va_T .int b L (fun j => .int (xs j)) A U H := by
  obtain ⟨scr, h1, h2, h3, h4, h5⟩ := h
  exact ⟨scr, h1, h2, h3, Nat.le_of_eq h4.symm, by rw [h4], h5, hA⟩
def CD (l : Launch) (sb L : Nat) (xs : Nat → Int32) (k : Int32) : Prop :=
  ∀ sz : Nat, Met l yL_drawn wsL_drawn { frames := 0, cells := 0, slots := 0, locals := 0 } (va_Pc [.ref sb, .int k] (fun U => U.heap.size = sz ∧ va_T .int sb L (fun j => .int (xs j)) (fun q => sz ≤ q) U U.heap))
    (fun _ st o t => o = .returned (some (.int (f_drawn L xs k))) ∧ va_F (fun q => sz ≤ q) st t) 0 0 (fun q => sz ≤ q)
set_option maxHeartbeats 1000000 in
theorem c_drawn (l : Launch) {sb L : Nat} {xs : Nat → Int32} {k : Int32} (hin : ¬ nI L = 0 → vp_in (k - k / nI L * nI L) L) : CD l sb L xs k := by
  intro sz
  refine g_ofW (cc := cL_drawn) (maxL := 2) (ret := some .int) (plainFor_of_name (by decide +kernel)) rfl ?_
  intro p e s m args below meth c s₁ Bd hml hv
  obtain ⟨rfl, hsz, hT⟩ := hv
  subst hsz
  have hl := lv_entry [.ref sb, .int k] (n := 2) (Nat.le_of_ble_eq_true rfl)
  rw [lg_entry_eq]
  generalize (lg_sl ([.ref sb, .int k]) ++ List.replicate (2 - (lg_sl ([.ref sb, .int k])).length) Slot.unset).toArray = ls at hl ⊢
  have hl : lv_has ls 2 [(0, .ref sb), (1, .int k)] := hl
  have hx := Bd.exec
  have hb := Bd.bytes
  have hr := Bd.returns
  have hts := atoms_spec (ws := wsL_drawn) Bd.pre
  have hown : s.vm.findClass RL = some m.cls := findClass_of_methodNamed Bd.named
  have hlocks := Bd.notSynchronized
  have hS : va_S (fun q : Nat => s.heap.size ≤ q) s.heap s.heap [] := va_S.rf
  refine lv_aload_n hx hb dL_drawn_0 rfl (lv_at hl 0 rfl) ?_
  refine va_tlen (v := nI L) hx hb hT hS rfl dL_drawn_1 ?_
  refine lv_if_ne (tgt := 15) hx hb dL_drawn_2 (by decide) (fun c0 => ?_) (fun c0 => ?_)
  · refine lv_aload_n hx hb dL_drawn_15 rfl (lv_at hl 0 rfl) ?_
    refine lv_iload_n hx hb dL_drawn_16 rfl (lv_at hl 1 rfl) ?_
    refine lv_aload_n hx hb dL_drawn_17 rfl (lv_at hl 0 rfl) ?_
    refine va_tlen (v := nI L) hx hb hT hS rfl dL_drawn_18 ?_
    refine lv_irem hx hb dL_drawn_19 c0 ?_
    refine va_ti (v := .int (xs ((k - k / nI L * nI L).toNatClampNeg))) hx hb hT hS (hin c0) rfl dL_drawn_20 ?_
    refine lv_iload_n hx hb dL_drawn_21 rfl (lv_at hl 1 rfl) ?_
    refine lv_bipush (v := 7) hx hb dL_drawn_22 (by decide) ?_
    refine lv_irem hx hb dL_drawn_24 (by decide) ?_
    refine lv_ishr hx hb dL_drawn_25 ?_
    refine lv_iload_n hx hb dL_drawn_26 rfl (lv_at hl 1 rfl) ?_
    refine lv_aload_n hx hb dL_drawn_27 rfl (lv_at hl 0 rfl) ?_
    refine va_tlen (v := nI L) hx hb hT hS rfl dL_drawn_28 ?_
    refine lv_idiv hx hb dL_drawn_29 c0 ?_
    refine lv_bipush (v := 31) hx hb dL_drawn_30 (by decide) ?_
    refine lv_imul hx hb dL_drawn_32 ?_
    refine lv_ixor hx hb dL_drawn_33 ?_
    refine lv_iload_n hx hb dL_drawn_34 rfl (lv_at hl 1 rfl) ?_
    refine lv_ldc (v := 2654435) hx hb hown (hts (.constant RL 8 2654435) (by decide +kernel)) dL_drawn_35 ?_
    refine lv_imul hx hb dL_drawn_37 ?_
    refine lv_ixor hx hb dL_drawn_38 ?_
    exact W.iret hx hb hr (fun t ht _ => ⟨by rw [f_drawn, if_neg c0], hS.F ht⟩) hS.2.2 dL_drawn_39 hlocks
  · refine lv_sipush (v := 7919) hx hb dL_drawn_5 (by decide) ?_
    refine lv_iload_n hx hb dL_drawn_8 rfl (lv_at hl 1 rfl) ?_
    refine lv_imul hx hb dL_drawn_9 ?_
    refine lv_iconst (v := 3) hx hb dL_drawn_10 (by decide) ?_
    refine lv_iadd hx hb dL_drawn_11 ?_
    refine lv_goto (tgt := 39) hx hb dL_drawn_12 (by decide) ?_
    exact W.iret hx hb hr (fun t ht _ => ⟨by rw [f_drawn, if_pos c0], hS.F ht⟩) hS.2.2 dL_drawn_39 hlocks
section GCALLD
variable {p : Program} {l : Launch} {e : Env} {R : Room} {s : State} {m : MethodId} {args : Array Value} {below : List Frame} {meth : Method} {c : Code} {H : Heap} {locs : List Loc} {cells slots : Nat} {Q : State → Prop}
variable {pc : Nat} {ls : Array Slot} {rest : List Value} {A : Nat → Prop} {G : gG} {B : List va_W} {cc : ByteArray} {nL index : Nat} {Ts : List Cond} {own : String}
theorem g_callD {sb L : Nat} {xs : Nat → Int32} {k : Int32} (hC : CD l sb L xs k) (hT0 : va_T .int sb L (fun j => .int (xs j)) A s s.heap) (hx : p.tables.exec = Jvm.exec) (hb : c.code = cc) (hml : c.maxLocals = nL) (hown : s.vm.findClass own = some m.cls) (hts : ∀ w ∈ Ts, w.before args s = true)
    (hP : va_P G.1 vwCl B.flatten H) (hS : va_S A s.heap H locs) (hA : ∀ q : Nat, s.heap.size ≤ q → A q)
    (hT : GoodIn Ts (va_wsS own index yL_drawn wsL_drawn)) (hR : 1 ≤ R.frames ∧ 21 ≤ R.locals)
    (hsize : ls.size = nL) (hcat : (rest.map fun v => v.category).sum ≤ 8) (hf : cells ≤ R.cells ∧ slots ≤ R.slots) (hdg : decode cc pc = .ok (.invokestatic index, 3))
    (kk : ∀ (H1 : Heap) (locs1 : List Loc), va_P G.1 vwCl B.flatten H1 → va_S A s.heap H1 locs1 → W p l e R s m args below meth c H1 locs1 cells slots Q (F0 m (pc + 3) ls (.int (f_drawn L xs k) :: rest))) : W p l e R s m args below meth c H locs cells slots Q (F0 m pc ls (.int k :: .ref sb :: rest)) := by
  have hr := va_runS (p := p) (l := l) (e := e) (R := R) (below := below) (meth := meth) (H := H) (locs := locs) (cells := cells) (slots := slots) (g := F0 m pc ls (.int k :: .ref sb :: rest)) (As := [.ref sb, .int k]) (rest := rest) ⟨hx, hb, hml, hown, hts⟩ (hC H.size) (va_cwS 2 hts hT rfl rfl rfl (by decide +kernel) hR) ⟨fun a U g mk q => by
      obtain ⟨q0, q1, qT⟩ := q
      exact ⟨q0, q1, va_T.moved (u := U) (U := U.calling g mk a) (Vm.Alike.refl U.vm) qT⟩, fun U hU hW => ⟨rfl, by rw [hU], by
      subst hU
      exact ((hT0.kept hS.2.1).narrow (fun q hq => hA q (Nat.le_trans hS.1 hq))).moved hW.alike⟩⟩ rfl rfl hsize rfl (lv_room hcat) hdg hf
  intro T hTH X
  obtain ⟨v', st₀, t, T', L', h0, X', hL, e1, e2, ⟨hv, hz, hk⟩, st⟩ := hr T hTH X
  cases hv
  rw [h0] at hz hk
  obtain ⟨t2, a1, b1⟩ := kk T'.heap (locs ++ L') (by
      rw [g_iff] at hP ⊢
      intro q hq
      have hat := hP q hq
      refine hat.kept ?_
      rw [e1]
      exact hk q.1 hat.lt (Nat.not_le.mpr hat.lt))
    ⟨Nat.le_trans hS.1 (by rw [e1]; exact hz), fun q h1 h2 => by rw [e1, hk q (Nat.lt_of_lt_of_le h1 hS.1) (Nat.not_le.mpr (Nat.lt_of_lt_of_le h1 hS.1))]; exact hS.2.1 q h1 h2, fun q hq => by
      rcases List.mem_append.mp hq with h | h
      · exact hS.2.2 q h
      · exact hA _ (Nat.le_trans hS.1 (hL q h))⟩ T' rfl X'
  exact ⟨t2, st t2 a1, b1⟩
end GCALLD
