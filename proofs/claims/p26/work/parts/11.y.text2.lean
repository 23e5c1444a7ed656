/-! PURE: reading a stage -/
def rT (m tx fr : (Nat → Int32)) (v1 : Int32) : Int32 × (Nat → Int32) × (Nat → Int32) := (gL (f_X7_takes m tx 47) (fun (R22 : Int32 × (Nat → Int32)) => (if R22.1 = 0 then (1, (upd R22.2 5 ((R22.2 5) + 1)), fr) else (gL (f_X7_takesNumber R22.2 tx 49) (fun (R25 : Int32 × (Nat → Int32)) => (if R25.1 = 0 then (0, R25.2, fr) else (gL (upd fr ((v1 + 3).toNatClampNeg) (R25.2 4)) (fun (z28 : (Nat → Int32)) => (1, (upd R25.2 5 ((R25.2 5) + 1)), z28)))))))))
def okT (m tx : (Nat → Int32)) (v1 : Int32) : Prop := (ok_X7_takes m tx 47) ∧ (gL (f_X7_takes m tx 47) (fun (R22 : Int32 × (Nat → Int32)) => ((R22.1 = 0 → True) ∧ (¬ R22.1 = 0 → (ok_X7_takesNumber R22.2 tx 49) ∧ (gL (f_X7_takesNumber R22.2 tx 49) (fun (R25 : Int32 × (Nat → Int32)) => ((R25.1 = 0 → True) ∧ (¬ R25.1 = 0 → (vp_in (v1 + 3) 20) ∧ True))))))))
def rRest (m tx fr : (Nat → Int32)) (v1 : Int32) : Int32 × (Nat → Int32) × (Nat → Int32) := (gL (f_X7_takesNumber m tx 48) (fun (R11 : Int32 × (Nat → Int32)) => (if R11.1 = 0 then (0, R11.2, fr) else (gL (upd fr ((v1).toNatClampNeg) 2) (fun (z14 : (Nat → Int32)) => (gL (upd z14 ((v1 + 1).toNatClampNeg) (R11.2 4)) (fun (z16 : (Nat → Int32)) => (gL (upd z16 ((v1 + 2).toNatClampNeg) 0) (fun (z18 : (Nat → Int32)) => (gL (upd z18 ((v1 + 3).toNatClampNeg) 0) (fun (z20 : (Nat → Int32)) => (rT R11.2 tx z20 v1))))))))))))
def okRest (m tx fr : (Nat → Int32)) (v1 : Int32) : Prop := (ok_X7_takesNumber m tx 48) ∧ (gL (f_X7_takesNumber m tx 48) (fun (R11 : Int32 × (Nat → Int32)) => ((R11.1 = 0 → True) ∧ (¬ R11.1 = 0 → (vp_in v1 20) ∧ (gL (upd fr ((v1).toNatClampNeg) 2) (fun (z14 : (Nat → Int32)) => (vp_in (v1 + 1) 20) ∧ (gL (upd z14 ((v1 + 1).toNatClampNeg) (R11.2 4)) (fun (z16 : (Nat → Int32)) => (vp_in (v1 + 2) 20) ∧ (gL (upd z16 ((v1 + 2).toNatClampNeg) 0) (fun (z18 : (Nat → Int32)) => (vp_in (v1 + 3) 20) ∧ (gL (upd z18 ((v1 + 3).toNatClampNeg) 0) (fun (z20 : (Nat → Int32)) => okT R11.2 tx v1))))))))))))
def rPair (m tx fr : (Nat → Int32)) (v1 kd : Int32) : Int32 × (Nat → Int32) × (Nat → Int32) := (gL (f_X7_takesNumber m tx 48) (fun (R11 : Int32 × (Nat → Int32)) => (if R11.1 = 0 then (0, R11.2, fr) else (gL (upd fr ((v1).toNatClampNeg) kd) (fun (z14 : (Nat → Int32)) => (gL (upd z14 ((v1 + 1).toNatClampNeg) (R11.2 4)) (fun (z16 : (Nat → Int32)) => (gL (upd z16 ((v1 + 2).toNatClampNeg) 0) (fun (z18 : (Nat → Int32)) => (gL (upd z18 ((v1 + 3).toNatClampNeg) 0) (fun (z20 : (Nat → Int32)) => (gL (f_X7_takes R11.2 tx 58) (fun (R41 : Int32 × (Nat → Int32)) => (if R41.1 = 0 then (0, R41.2, z20) else (gL (f_X7_takesNumber R41.2 tx 48) (fun (R44 : Int32 × (Nat → Int32)) => (if R44.1 = 0 then (0, R44.2, z20) else (gL (upd z20 ((v1 + 2).toNatClampNeg) (R44.2 4)) (fun (z47 : (Nat → Int32)) => (rT R44.2 tx z47 v1))))))))))))))))))))
def okPair (m tx fr : (Nat → Int32)) (v1 kd : Int32) : Prop := (ok_X7_takesNumber m tx 48) ∧ (gL (f_X7_takesNumber m tx 48) (fun (R11 : Int32 × (Nat → Int32)) => ((R11.1 = 0 → True) ∧ (¬ R11.1 = 0 → (vp_in v1 20) ∧ (gL (upd fr ((v1).toNatClampNeg) kd) (fun (z14 : (Nat → Int32)) => (vp_in (v1 + 1) 20) ∧ (gL (upd z14 ((v1 + 1).toNatClampNeg) (R11.2 4)) (fun (z16 : (Nat → Int32)) => (vp_in (v1 + 2) 20) ∧ (gL (upd z16 ((v1 + 2).toNatClampNeg) 0) (fun (z18 : (Nat → Int32)) => (vp_in (v1 + 3) 20) ∧ (gL (upd z18 ((v1 + 3).toNatClampNeg) 0) (fun (z20 : (Nat → Int32)) => (ok_X7_takes R11.2 tx 58) ∧ (gL (f_X7_takes R11.2 tx 58) (fun (R41 : Int32 × (Nat → Int32)) => ((R41.1 = 0 → True) ∧ (¬ R41.1 = 0 → (ok_X7_takesNumber R41.2 tx 48) ∧ (gL (f_X7_takesNumber R41.2 tx 48) (fun (R44 : Int32 × (Nat → Int32)) => ((R44.1 = 0 → True) ∧ (¬ R44.1 = 0 → (vp_in (v1 + 2) 20) ∧ (gL (upd z20 ((v1 + 2).toNatClampNeg) (R44.2 4)) (fun (z47 : (Nat → Int32)) => okT R44.2 tx v1))))))))))))))))))))))

theorem rStage_eq (o tx fr : Nat → Int32) : f_X7_takesStage o tx fr = (gL ((4 * (o 5))) (fun (v1 : Int32) => (gL (f_X7_takes o tx 99) (fun (R2 : Int32 × (Nat → Int32)) => (if R2.1 = 0 then (gL (f_X7_takes R2.2 tx 118) (fun (R5 : Int32 × (Nat → Int32)) => (if R5.1 = 0 then (gL (f_X7_takes R5.2 tx 114) (fun (R8 : Int32 × (Nat → Int32)) => (if R8.1 = 0 then (0, R8.2, fr) else rRest R8.2 tx fr v1))) else rPair R5.2 tx fr v1 1))) else rPair R2.2 tx fr v1 0))))) := rfl
theorem okStage_eq (o tx fr : Nat → Int32) : ok_X7_takesStage o tx fr = (gL ((4 * (o 5))) (fun (v1 : Int32) => (ok_X7_takes o tx 99) ∧ (gL (f_X7_takes o tx 99) (fun (R2 : Int32 × (Nat → Int32)) => ((R2.1 = 0 → (ok_X7_takes R2.2 tx 118) ∧ (gL (f_X7_takes R2.2 tx 118) (fun (R5 : Int32 × (Nat → Int32)) => ((R5.1 = 0 → (ok_X7_takes R5.2 tx 114) ∧ (gL (f_X7_takes R5.2 tx 114) (fun (R8 : Int32 × (Nat → Int32)) => ((R8.1 = 0 → True) ∧ (¬ R8.1 = 0 → okRest R8.2 tx fr v1))))) ∧ (¬ R5.1 = 0 → okPair R5.2 tx fr v1 1))))) ∧ (¬ R2.1 = 0 → okPair R2.2 tx fr v1 0)))))) := rfl
def SQ (pf : Nat → Nat → Int32) (fr : Nat → Int32) (K : Nat) : Prop := ∀ j, j < K → (∀ w, w < 4 → pf (1 + w) j = fr (4 * j + w)) ∧ (pf 1 j = 0 ∨ pf 1 j = 1 ∨ pf 1 j = 2)
theorem SQ_upd {pf : Nat → Nat → Int32} {fr : Nat → Int32} {K k w : Nat} (h : SQ pf fr K) (hw : w < 4) (h0 : 0 < w) (x : Int32) : SQ (sF pf (1 + w) (upd (pf (1 + w)) k x)) (upd fr (4 * k + w) x) K := by
  intro j hj
  refine ⟨fun w' hw' => ?_, ?_⟩
  · rw [q_sF, q_up]
    by_cases e : w' = w
    · subst e
      rw [if_pos rfl, q_up]
      by_cases e2 : j = k
      · rw [if_pos e2, if_pos (by omega)]
      · rw [if_neg e2, if_neg (by omega)]; exact (h j hj).1 w' hw'
    · rw [if_neg (by omega), if_neg (by omega)]; exact (h j hj).1 w' hw'
  · have : sF pf (1 + w) (upd (pf (1 + w)) k x) 1 j = pf 1 j := by rw [q_sF, if_neg (by omega)]
    rw [this]
    exact (h j hj).2
def addP (pf : Nat → Nat → Int32) (k : Nat) (kd : Int32) : Nat → Nat → Int32 := sF (sF (sF (sF (sF pf 0 (upd (pf 0) 0 (nI (k + 1)))) 1 (upd (pf 1) k kd)) 2 (upd (pf 2) k 0)) 3 (upd (pf 3) k 0)) 4 (upd (pf 4) k 0)
theorem p_add {pf : Nat → Nat → Int32} {k : Nat} (kd : Int32) (hk : k < 5) (h : pf 0 0 = nI k) : f_X3_addStage pf kd = (1, addP pf k kd) ∧ ok_X3_addStage pf kd := by
  have hc : nI k < 5 := nI_lt (b := 5) hk (by omega)
  have cc : (nI k).toNatClampNeg = k := q_c (by omega)
  have hv : vp_in (nI k) 5 := vp_in_nI (by omega) (by omega)
  unfold f_X3_addStage ok_X3_addStage
  rw [h]
  refine ⟨?_, fun _ => ⟨hv, hv, hv, hv, trivial⟩, fun _ => trivial⟩
  rw [if_pos hc, cc, q_gLp, q_gLp, q_gLp, q_gLp, q_p1]
  rfl
def setR (fr : Nat → Int32) (k : Nat) (kd x : Int32) : Nat → Int32 := upd (upd (upd (upd fr (4 * k) kd) (4 * k + 1) x) (4 * k + 2) 0) (4 * k + 3) 0
theorem p_setR {pf : Nat → Nat → Int32} {fr : Nat → Int32} {k : Nat} (kd x : Int32) (hkd : kd = 0 ∨ kd = 1 ∨ kd = 2) (h : SQ pf fr k) : SQ (sF (addP pf k kd) 2 (upd (addP pf k kd 2) k x)) (setR fr k kd x) (k + 1) := by
  intro j hj
  have eo : j ≠ k → ∀ w, w < 4 → setR fr k kd x (4 * j + w) = fr (4 * j + w) := fun e w hw => by
    unfold setR
    rw [q_up, if_neg (by omega), q_up, if_neg (by omega), q_up, if_neg (by omega), q_up, if_neg (by omega)]
  by_cases e : j = k
  · subst e
    refine ⟨fun w hw => ?_, ?_⟩
    · rcases (show w = 0 ∨ w = 1 ∨ w = 2 ∨ w = 3 by omega) with rfl | rfl | rfl | rfl
      · show upd (pf 1) j kd j = _
        unfold setR
        rw [q_up, if_pos rfl, q_up, if_neg (by omega), q_up, if_neg (by omega), q_up, if_neg (by omega), q_up, if_pos (by omega)]
      · show upd (upd (pf 2) j 0) j x j = _
        unfold setR
        rw [q_up, if_pos rfl, q_up, if_neg (by omega), q_up, if_neg (by omega), q_up, if_pos (by omega)]
      · show upd (pf 3) j 0 j = _
        unfold setR
        rw [q_up, if_pos rfl, q_up, if_neg (by omega), q_up, if_pos (by omega)]
      · show upd (pf 4) j 0 j = _
        unfold setR
        rw [q_up, if_pos rfl, q_up, if_pos (by omega)]
    · show upd (pf 1) j kd j = 0 ∨ upd (pf 1) j kd j = 1 ∨ upd (pf 1) j kd j = 2
      rw [q_up, if_pos rfl]
      exact hkd
  · have hj' : j < k := by omega
    obtain ⟨h1, h2⟩ := h j hj'
    refine ⟨fun w hw => ?_, ?_⟩
    · rw [eo e w hw, ← h1 w hw]
      rcases (show w = 0 ∨ w = 1 ∨ w = 2 ∨ w = 3 by omega) with rfl | rfl | rfl | rfl
      · show upd (pf 1) k kd j = pf 1 j
        rw [q_up, if_neg e]
      · show upd (upd (pf 2) k 0) k x j = pf 2 j
        rw [q_up, if_neg e, q_up, if_neg e]
      · show upd (pf 3) k 0 j = pf 3 j
        rw [q_up, if_neg e]
      · show upd (pf 4) k 0 j = pf 4 j
        rw [q_up, if_neg e]
    · show upd (pf 1) k kd j = 0 ∨ upd (pf 1) k kd j = 1 ∨ upd (pf 1) k kd j = 2
      rw [q_up, if_neg e]
      exact h2
def MY (m m' : Nat → Int32) : Prop := m' 0 = m 0 ∧ m' 1 = m 1 ∧ m' 2 = m 2
theorem MX.y {a b : Nat → Int32} (h : MX a b) : MY a b := ⟨h.1, h.2.1, h.2.2.1⟩
theorem MY.trans {a b c : Nat → Int32} (h1 : MY a b) (h2 : MY b c) : MY a c := ⟨h2.1.trans h1.1, h2.2.1.trans h1.2.1, h2.2.2.trans h1.2.2⟩
def RES (m tx : Nat → Int32) (n k : Nat) (S : Int32 × (Nat → Nat → Int32) × (Nat → Nat → Int32)) (R : Int32 × (Nat → Int32) × (Nat → Int32)) : Prop := ∃ p', TR S.2.1 R.2.1 tx n p' ∧ MY m R.2.1 ∧ ((S.1 = 0 ∧ R.1 = 0) ∨ (S.1 = 1 ∧ R.1 = 1 ∧ S.2.2 0 0 = nI (k + 1) ∧ R.2.1 5 = nI (k + 1) ∧ SQ S.2.2 R.2.2 (k + 1)))
theorem RES.pre {m m' tx : Nat → Int32} {n k : Nat} {S : Int32 × (Nat → Nat → Int32) × (Nat → Nat → Int32)} {R : Int32 × (Nat → Int32) × (Nat → Int32)} (h1 : MY m m') (h : RES m' tx n k S R) : RES m tx n k S R := by
  obtain ⟨p', a, b, c⟩ := h
  exact ⟨p', a, h1.trans b, c⟩
theorem RES.wrap {m tx : Nat → Int32} {n k : Nat} {S : Int32 × (Nat → Nat → Int32) × (Nat → Nat → Int32)} {R : Int32 × (Nat → Int32) × (Nat → Int32)} (h : RES m tx n k S R) : RES m tx n k (if S.1 = 0 then (0, S.2.1, S.2.2) else (1, S.2.1, S.2.2)) R := by
  obtain ⟨p', a, b, c⟩ := h
  rcases c with ⟨c1, c2⟩ | ⟨c1, c2, c3, c4, c5⟩
  · rw [if_pos c1]; exact ⟨p', a, b, Or.inl ⟨rfl, c2⟩⟩
  · rw [if_neg (q_1no c1)]; exact ⟨p', a, b, Or.inr ⟨rfl, c2, c3, c4, c5⟩⟩
theorem q_v1 (k i : Nat) (hk : 4 * k + i < 20) : (nI (4 * k) + nI i : Int32).toNatClampNeg = 4 * k + i ∧ vp_in (nI (4 * k) + nI i) 20 := by
  rw [nI_add, q_c (by omega)]
  exact ⟨rfl, vp_in_nI (by omega) (by omega)⟩
theorem TR_5 {t : Nat → Nat → Int32} {m tx : Nat → Int32} {n p : Nat} (h : TR t m tx n p) (x : Int32) : TR t (upd m 5 x) tx n p := h
/-- the timer, both sides -/
theorem p_timer {t pf : Nat → Nat → Int32} {m tx fr : Nat → Int32} {n p k : Nat} (hk : k < 5) (h : TR t m tx n p) (hq : SQ pf fr (k + 1)) (h5 : m 5 = nI k) (hp : pf 0 0 = nI (k + 1)) : ok_X5_readTimer t (nI k) ∧ okT m tx (nI (4 * k)) ∧ RES m tx n k (f_X5_readTimer t pf (nI k)) (rT m tx fr (nI (4 * k))) := by
  obtain ⟨a1, a2, a3, p1, a4, a5⟩ := p_acc 47 h
  obtain ⟨i1, i2⟩ := q_v1 k 3 (by omega)
  have i1' : (nI (4 * k) + 3 : Int32).toNatClampNeg = 4 * k + 3 := i1
  have i2' : vp_in (nI (4 * k) + 3) 20 := i2
  have hv : vp_in (nI k) 5 := vp_in_nI (by omega) (by omega)
  have cc : (nI k).toNatClampNeg = k := q_c (by omega)
  obtain ⟨b1, b2, b3, p2, b4, b5⟩ := p_num (a := 49) (by decide) a4
  have e5 : (f_X7_takes m tx 47).2 5 = nI k := a3.2.2.2.trans h5
  have e5' : (f_X7_takesNumber (f_X7_takes m tx 47).2 tx 49).2 5 = nI k := b3.2.2.2.trans e5
  refine ⟨?_, ?_, ?_⟩
  · unfold ok_X5_readTimer; exact ⟨a1, fun _ => trivial, fun _ => ⟨b1, hv, trivial⟩⟩
  · unfold okT; exact ⟨a2, fun _ => trivial, fun _ => ⟨b2, fun _ => trivial, fun _ => ⟨i2', trivial⟩⟩⟩
  · rcases a5 with ⟨c1, c2⟩ | ⟨c1, c2⟩
    · have v5 : f_X5_readTimer t pf (nI k) = (1, (f_X5_accepts t 47).2, pf) := by unfold f_X5_readTimer; rw [q_gLp, if_pos c1]
      have v7 : rT m tx fr (nI (4 * k)) = (1, upd (f_X7_takes m tx 47).2 5 (nI (k + 1)), fr) := by unfold rT; rw [q_gLp, if_pos c2, e5, q_p1]
      rw [v5, v7]
      exact ⟨p1, TR_5 a4 _, ⟨a3.1, a3.2.1, a3.2.2.1⟩, Or.inr ⟨rfl, rfl, hp, rfl, hq⟩⟩
    · have c1' := q_1no c1
      have c2' := q_1no c2
      rcases b5 with ⟨d1, d2⟩ | ⟨d1, d2, d3⟩
      · have v5 : f_X5_readTimer t pf (nI k) = (0, (f_X5_readNumber (f_X5_accepts t 47).2 49).2, sF pf 4 (upd (pf 4) k (f_X5_readNumber (f_X5_accepts t 47).2 49).1)) := by unfold f_X5_readTimer; rw [q_gLp, if_neg c1', q_gLp, q_gLp, q_gLp, if_pos d1, cc]
        have v7 : rT m tx fr (nI (4 * k)) = (0, (f_X7_takesNumber (f_X7_takes m tx 47).2 tx 49).2, fr) := by unfold rT; rw [q_gLp, if_neg c2', q_gLp, if_pos d2]
        rw [v5, v7]
        exact ⟨p2, b4, (a3.trans b3).y, Or.inl ⟨rfl, rfl⟩⟩
      · have d2' := q_1no d2
        have v5 : f_X5_readTimer t pf (nI k) = (1, (f_X5_readNumber (f_X5_accepts t 47).2 49).2, sF pf 4 (upd (pf 4) k (f_X5_readNumber (f_X5_accepts t 47).2 49).1)) := by unfold f_X5_readTimer; rw [q_gLp, if_neg c1', q_gLp, q_gLp, q_gLp, if_neg d1, cc]
        have v7 : rT m tx fr (nI (4 * k)) = (1, upd (f_X7_takesNumber (f_X7_takes m tx 47).2 tx 49).2 5 (nI (k + 1)), upd fr (4 * k + 3) (f_X5_readNumber (f_X5_accepts t 47).2 49).1) := by unfold rT; rw [q_gLp, if_neg c2', q_gLp, if_neg d2', q_gLp, e5', q_p1, i1', d3]
        rw [v5, v7]
        exact ⟨p2, TR_5 b4 _, (a3.trans b3).y, Or.inr ⟨rfl, rfl, hp, rfl, SQ_upd (w := 3) hq (by omega) (by omega) _⟩⟩
/-- a first number, both sides -/
theorem p_first {t pf : Nat → Nat → Int32} {m tx : Nat → Int32} {n p k : Nat} (hk : k < 5) (h : TR t m tx n p) : ok_X5_readFirst t (nI k) ∧ ok_X7_takesNumber m tx 48 ∧ MX m (f_X7_takesNumber m tx 48).2 ∧ ∃ p', TR (f_X5_readFirst t pf (nI k)).2.1 (f_X7_takesNumber m tx 48).2 tx n p' ∧ (((f_X5_readFirst t pf (nI k)).1 = 0 ∧ (f_X7_takesNumber m tx 48).1 = 0) ∨ ((f_X5_readFirst t pf (nI k)).1 = 1 ∧ (f_X7_takesNumber m tx 48).1 = 1 ∧ (f_X5_readFirst t pf (nI k)).2.2 = sF pf 2 (upd (pf 2) k ((f_X7_takesNumber m tx 48).2 4)))) := by
  have hv : vp_in (nI k) 5 := vp_in_nI (by omega) (by omega)
  have cc : (nI k).toNatClampNeg = k := q_c (by omega)
  obtain ⟨b1, b2, b3, p2, b4, b5⟩ := p_num (a := 48) (Int32.le_refl _) h
  refine ⟨?_, b2, b3, p2, ?_⟩
  · unfold ok_X5_readFirst; exact ⟨b1, hv, trivial⟩
  · rcases b5 with ⟨d1, d2⟩ | ⟨d1, d2, d3⟩
    · have v5 : f_X5_readFirst t pf (nI k) = (0, (f_X5_readNumber t 48).2, sF pf 2 (upd (pf 2) k (f_X5_readNumber t 48).1)) := by unfold f_X5_readFirst; rw [q_gLp, q_gLp, q_gLp, if_pos d1, cc]
      rw [v5]
      exact ⟨b4, Or.inl ⟨rfl, d2⟩⟩
    · have v5 : f_X5_readFirst t pf (nI k) = (1, (f_X5_readNumber t 48).2, sF pf 2 (upd (pf 2) k (f_X5_readNumber t 48).1)) := by unfold f_X5_readFirst; rw [q_gLp, q_gLp, q_gLp, if_neg d1, cc]
      rw [v5, d3]
      exact ⟨b4, Or.inr ⟨rfl, d2, rfl⟩⟩
theorem p_rest {t pf : Nat → Nat → Int32} {m tx fr : Nat → Int32} {n p k : Nat} (hk : k < 5) (h : TR t m tx n p) (hq : SQ pf fr k) (h5 : m 5 = nI k) :
    ok_X5_readFirst t (nI k) ∧ (∀ S, S = f_X5_readFirst t (addP pf k 2) (nI k) → ¬ S.1 = 0 → ok_X5_readTimer S.2.1 (nI k)) ∧ okRest m tx fr (nI (4 * k)) ∧
      RES m tx n k (gL (f_X5_readFirst t (addP pf k 2) (nI k)) (fun (R14 : Int32 × (Nat → Nat → Int32) × (Nat → Nat → Int32)) => (if R14.1 = 0 then (0, R14.2.1, R14.2.2) else (gL (f_X5_readTimer R14.2.1 R14.2.2 (nI k)) (fun (R17 : Int32 × (Nat → Nat → Int32) × (Nat → Nat → Int32)) => (if R17.1 = 0 then (0, R17.2.1, R17.2.2) else (1, R17.2.1, R17.2.2))))))) (rRest m tx fr (nI (4 * k))) := by
  obtain ⟨a1, a2, a3, p1, a4, a5⟩ := p_first (pf := addP pf k 2) hk h
  obtain ⟨i0, j0⟩ := q_v1 k 0 (by omega)
  have i0' : (nI (4 * k) : Int32).toNatClampNeg = 4 * k := q_c (by omega)
  have j0' : vp_in (nI (4 * k)) 20 := vp_in_nI (by omega) (by omega)
  obtain ⟨i1, j1⟩ := q_v1 k 1 (by omega)
  obtain ⟨i2, j2⟩ := q_v1 k 2 (by omega)
  obtain ⟨i3, j3⟩ := q_v1 k 3 (by omega)
  have i1' : (nI (4 * k) + 1 : Int32).toNatClampNeg = 4 * k + 1 := i1
  have i2' : (nI (4 * k) + 2 : Int32).toNatClampNeg = 4 * k + 2 := i2
  have i3' : (nI (4 * k) + 3 : Int32).toNatClampNeg = 4 * k + 3 := i3
  have j1' : vp_in (nI (4 * k) + 1) 20 := j1
  have j2' : vp_in (nI (4 * k) + 2) 20 := j2
  have j3' : vp_in (nI (4 * k) + 3) 20 := j3
  have e5 : (f_X7_takesNumber m tx 48).2 5 = nI k := a3.2.2.2.trans h5
  have okk : (¬ (f_X7_takesNumber m tx 48).1 = 0 → okT (f_X7_takesNumber m tx 48).2 tx (nI (4 * k))) → okRest m tx fr (nI (4 * k)) := by
    intro q
    unfold okRest
    exact ⟨a2, fun _ => trivial, fun q2 => ⟨j0', j1', j2', j3', q q2⟩⟩
  rcases a5 with ⟨c1, c2⟩ | ⟨c1, c2, c3⟩
  · have v7 : rRest m tx fr (nI (4 * k)) = (0, (f_X7_takesNumber m tx 48).2, fr) := by unfold rRest; rw [q_gLp, if_pos c2]
    refine ⟨a1, fun S hS q => absurd (by rw [hS]; exact c1) q, okk (fun q => absurd c2 q), ?_⟩
    rw [q_gLp, if_pos c1, v7]
    exact ⟨p1, a4, a3.y, Or.inl ⟨rfl, rfl⟩⟩
  · have c1' := q_1no c1
    have c2' := q_1no c2
    have hs := p_setR (k := k) 2 ((f_X7_takesNumber m tx 48).2 4) (Or.inr (Or.inr rfl)) hq
    rw [← c3] at hs
    have hp0 : (f_X5_readFirst t (addP pf k 2) (nI k)).2.2 0 0 = nI (k + 1) := by rw [c3]; rfl
    obtain ⟨t1, t2, t3⟩ := p_timer hk a4 hs e5 hp0
    have v7 : rRest m tx fr (nI (4 * k)) = rT (f_X7_takesNumber m tx 48).2 tx (setR fr k 2 ((f_X7_takesNumber m tx 48).2 4)) (nI (4 * k)) := by unfold rRest; rw [q_gLp, if_neg c2', i0', i1', i2', i3', q_gLp, q_gLp, q_gLp, q_gLp]; rfl
    refine ⟨a1, fun S hS _ => by rw [hS]; exact t1, okk (fun _ => t2), ?_⟩
    rw [q_gLp, if_neg c1', q_gLp, v7]
    exact RES.pre a3.y t3.wrap
theorem p_pairC {t pf : Nat → Nat → Int32} {m tx fr : Nat → Int32} {n p k : Nat} {kd : Int32} (hkd : kd = 0 ∨ kd = 1 ∨ kd = 2) (hk : k < 5) (h : TR t m tx n p) (hq : SQ pf fr k) (h5 : m 5 = nI k)
    (F1 : Int32 × (Nat → Nat → Int32) × (Nat → Nat → Int32)) (N1 : Int32 × (Nat → Int32)) (A1 : Int32 × (Nat → Nat → Int32)) (K1 : Int32 × (Nat → Int32)) (D1 : Int32 × (Nat → Nat → Int32)) (N2 : Int32 × (Nat → Int32))
    (hF1 : f_X5_readFirst t (addP pf k kd) (nI k) = F1) (hN1 : f_X7_takesNumber m tx 48 = N1) (hA1 : f_X5_accepts F1.2.1 58 = A1) (hK1 : f_X7_takes N1.2 tx 58 = K1) (hD1 : f_X5_readNumber A1.2 48 = D1) (hN2 : f_X7_takesNumber K1.2 tx 48 = N2) :
    ok_X5_readPair t (addP pf k kd) (nI k) ∧ (∀ S, S = f_X5_readPair t (addP pf k kd) (nI k) → ¬ S.1 = 0 → ok_X5_readTimer S.2.1 (nI k)) ∧ okPair m tx fr (nI (4 * k)) kd ∧
      RES m tx n k (gL (f_X5_readPair t (addP pf k kd) (nI k)) (fun (R14 : Int32 × (Nat → Nat → Int32) × (Nat → Nat → Int32)) => (if R14.1 = 0 then (0, R14.2.1, R14.2.2) else (gL (f_X5_readTimer R14.2.1 R14.2.2 (nI k)) (fun (R17 : Int32 × (Nat → Nat → Int32) × (Nat → Nat → Int32)) => (if R17.1 = 0 then (0, R17.2.1, R17.2.2) else (1, R17.2.1, R17.2.2))))))) (rPair m tx fr (nI (4 * k)) kd) := by
  obtain ⟨a1, a2, a3, p1, a4, a5⟩ := p_first (pf := addP pf k kd) hk h
  rw [hN1] at a3
  rw [hN1, hF1] at a4 a5
  have hv : vp_in (nI k) 5 := vp_in_nI (by omega) (by omega)
  have cc : (nI k).toNatClampNeg = k := q_c (by omega)
  have i0' : (nI (4 * k) : Int32).toNatClampNeg = 4 * k := q_c (by omega)
  have j0' : vp_in (nI (4 * k)) 20 := vp_in_nI (by omega) (by omega)
  obtain ⟨i1, j1⟩ := q_v1 k 1 (by omega)
  obtain ⟨i2, j2⟩ := q_v1 k 2 (by omega)
  obtain ⟨i3, j3⟩ := q_v1 k 3 (by omega)
  have i1' : (nI (4 * k) + 1 : Int32).toNatClampNeg = 4 * k + 1 := i1
  have i2' : (nI (4 * k) + 2 : Int32).toNatClampNeg = 4 * k + 2 := i2
  have i3' : (nI (4 * k) + 3 : Int32).toNatClampNeg = 4 * k + 3 := i3
  have j1' : vp_in (nI (4 * k) + 1) 20 := j1
  have j2' : vp_in (nI (4 * k) + 2) 20 := j2
  have j3' : vp_in (nI (4 * k) + 3) 20 := j3
  have e5 : N1.2 5 = nI k := a3.2.2.2.trans h5
  obtain ⟨b1, b2, b3, p2, b4, b5⟩ := p_acc 58 a4
  rw [hK1] at b3
  rw [hA1, hK1] at b4 b5
  obtain ⟨n1, n2, n3, p3, n4, n5⟩ := p_num (a := 48) (Int32.le_refl _) b4
  rw [hN2] at n3
  rw [hD1, hN2] at n4 n5
  have e5' : N2.2 5 = nI k := n3.2.2.2.trans (b3.2.2.2.trans e5)
  obtain ⟨Z, hZ⟩ : ∃ Z, Z = setR fr k kd (N1.2 4) := ⟨_, rfl⟩
  have okk : (okT N2.2 tx (nI (4 * k)) ∨ N1.1 = 0 ∨ K1.1 = 0 ∨ N2.1 = 0) → okPair m tx fr (nI (4 * k)) kd := by
    intro q
    unfold okPair
    refine ⟨a2, ?_⟩
    rw [hN1]
    refine g_gLe (fun R11 e11 => ⟨fun _ => trivial, fun q2 => ⟨j0', g_gLe (fun z14 e14 => ⟨j1', g_gLe (fun z16 e16 => ⟨j2', g_gLe (fun z18 e18 => ⟨j3', g_gLe (fun z20 e20 => ?_)⟩)⟩)⟩)⟩⟩)
    subst e11
    refine ⟨b2, ?_⟩
    rw [hK1]
    refine g_gLe (fun R41 e41 => ⟨fun _ => trivial, fun q3 => ?_⟩)
    subst e41
    refine ⟨n2, ?_⟩
    rw [hN2]
    refine g_gLe (fun R44 e44 => ⟨fun _ => trivial, fun q4 => ⟨j2', g_gLe (fun z47 e47 => ?_)⟩⟩)
    subst e44
    rcases q with q | q | q | q
    · exact q
    · exact absurd q q2
    · exact absurd q q3
    · exact absurd q q4
  have okp : ok_X5_readPair t (addP pf k kd) (nI k) := by
    unfold ok_X5_readPair
    refine ⟨a1, ?_⟩
    rw [hF1]
    refine g_gLe (fun R1 e1 => ⟨fun _ => trivial, fun _ => ?_⟩)
    subst e1
    refine ⟨b1, ?_⟩
    rw [hA1]
    refine g_gLe (fun R4 e4 => ⟨fun _ => trivial, fun _ => ?_⟩)
    subst e4
    exact ⟨n1, g_gLe (fun R7 e7 => g_gLe (fun v9 e9 => ⟨hv, trivial⟩))⟩
  have fin : ∀ V5 V7, f_X5_readPair t (addP pf k kd) (nI k) = V5 → rPair m tx fr (nI (4 * k)) kd = V7 → V5.1 = 0 → RES m tx n k (0, V5.2.1, V5.2.2) V7 → (okPair m tx fr (nI (4 * k)) kd) → ok_X5_readPair t (addP pf k kd) (nI k) ∧ (∀ S, S = f_X5_readPair t (addP pf k kd) (nI k) → ¬ S.1 = 0 → ok_X5_readTimer S.2.1 (nI k)) ∧ okPair m tx fr (nI (4 * k)) kd ∧
      RES m tx n k (gL (f_X5_readPair t (addP pf k kd) (nI k)) (fun (R14 : Int32 × (Nat → Nat → Int32) × (Nat → Nat → Int32)) => (if R14.1 = 0 then (0, R14.2.1, R14.2.2) else (gL (f_X5_readTimer R14.2.1 R14.2.2 (nI k)) (fun (R17 : Int32 × (Nat → Nat → Int32) × (Nat → Nat → Int32)) => (if R17.1 = 0 then (0, R17.2.1, R17.2.2) else (1, R17.2.1, R17.2.2))))))) (rPair m tx fr (nI (4 * k)) kd) := by
    intro V5 V7 e5 e7 e0 hr hok
    refine ⟨okp, fun S hS q => absurd (by rw [hS, e5]; exact e0) q, hok, ?_⟩
    rw [e5, e7, q_gLp, if_pos e0]
    exact hr
  rcases a5 with ⟨c1, c2⟩ | ⟨c1, c2, c3⟩
  · have v5 : f_X5_readPair t (addP pf k kd) (nI k) = (0, F1.2.1, F1.2.2) := by unfold f_X5_readPair; rw [q_gLp, hF1, if_pos c1]
    have v7 : rPair m tx fr (nI (4 * k)) kd = (0, N1.2, fr) := by unfold rPair; rw [q_gLp, hN1, if_pos c2]
    exact fin _ _ v5 v7 rfl ⟨p1, a4, a3.y, Or.inl ⟨rfl, rfl⟩⟩ (okk (Or.inr (Or.inl c2)))
  · have c1' := q_1no c1
    have c2' := q_1no c2
    have hs := p_setR (k := k) kd (N1.2 4) hkd hq
    rw [← c3, ← hZ] at hs
    have hp0 : F1.2.2 0 0 = nI (k + 1) := by rw [c3]; rfl
    have v7s : rPair m tx fr (nI (4 * k)) kd = (gL (f_X7_takes N1.2 tx 58) (fun (R41 : Int32 × (Nat → Int32)) => (if R41.1 = 0 then (0, R41.2, Z) else (gL (f_X7_takesNumber R41.2 tx 48) (fun (R44 : Int32 × (Nat → Int32)) => (if R44.1 = 0 then (0, R44.2, Z) else (gL (upd Z (4 * k + 2) (R44.2 4)) (fun (z47 : (Nat → Int32)) => (rT R44.2 tx z47 (nI (4 * k))))))))))) := by
      unfold rPair
      rw [q_gLp, hN1, if_neg c2', i0', i1', i2', i3', q_gLp, q_gLp, q_gLp, q_gLp, hZ]
      rfl
    rw [hK1] at v7s
    rcases b5 with ⟨d1, d2⟩ | ⟨d1, d2⟩
    · have v5 : f_X5_readPair t (addP pf k kd) (nI k) = (0, A1.2, F1.2.2) := by unfold f_X5_readPair; rw [q_gLp, hF1, if_neg c1', q_gLp, hA1, if_pos d1]
      have v7 : rPair m tx fr (nI (4 * k)) kd = (0, K1.2, Z) := by rw [v7s, q_gLp, if_pos d2]
      exact fin _ _ v5 v7 rfl ⟨p2, b4, (a3.trans b3).y, Or.inl ⟨rfl, rfl⟩⟩ (okk (Or.inr (Or.inr (Or.inl d2))))
    · have d1' := q_1no d1
      have d2' := q_1no d2
      rcases n5 with ⟨f1, f2⟩ | ⟨f1, f2, f3⟩
      · have v5 : f_X5_readPair t (addP pf k kd) (nI k) = (0, D1.2, sF F1.2.2 3 (upd (F1.2.2 3) k D1.1)) := by unfold f_X5_readPair; rw [q_gLp, hF1, if_neg c1', q_gLp, hA1, if_neg d1', q_gLp, hD1, q_gLp, q_gLp, if_pos f1, cc]
        have v7 : rPair m tx fr (nI (4 * k)) kd = (0, N2.2, Z) := by rw [v7s, q_gLp, if_neg d2', q_gLp, hN2, if_pos f2]
        exact fin _ _ v5 v7 rfl ⟨p3, n4, ((a3.trans b3).trans n3).y, Or.inl ⟨rfl, rfl⟩⟩ (okk (Or.inr (Or.inr (Or.inr f2))))
      · have f2' := q_1no f2
        have v5 : f_X5_readPair t (addP pf k kd) (nI k) = (1, D1.2, sF F1.2.2 3 (upd (F1.2.2 3) k D1.1)) := by unfold f_X5_readPair; rw [q_gLp, hF1, if_neg c1', q_gLp, hA1, if_neg d1', q_gLp, hD1, q_gLp, q_gLp, if_neg f1, cc]
        have v7 : rPair m tx fr (nI (4 * k)) kd = rT N2.2 tx (upd Z (4 * k + 2) D1.1) (nI (4 * k)) := by rw [v7s, q_gLp, if_neg d2', q_gLp, hN2, if_neg f2', q_gLp, f3]
        have hp1 : (sF F1.2.2 3 (upd (F1.2.2 3) k D1.1)) 0 0 = nI (k + 1) := hp0
        obtain ⟨t1, t2, t3⟩ := p_timer hk n4 (SQ_upd (w := 2) (k := k) hs (by omega) (by omega) D1.1) e5' hp1
        refine ⟨okp, fun S hS _ => by rw [hS, v5]; exact t1, okk (Or.inl t2), ?_⟩
        rw [v5, v7, q_gLp, if_neg n10, q_gLp]
        exact RES.pre ((a3.trans b3).trans n3).y t3.wrap
theorem p_pair {t pf : Nat → Nat → Int32} {m tx fr : Nat → Int32} {n p k : Nat} {kd : Int32} (hkd : kd = 0 ∨ kd = 1 ∨ kd = 2) (hk : k < 5) (h : TR t m tx n p) (hq : SQ pf fr k) (h5 : m 5 = nI k) :
    ok_X5_readPair t (addP pf k kd) (nI k) ∧ (∀ S, S = f_X5_readPair t (addP pf k kd) (nI k) → ¬ S.1 = 0 → ok_X5_readTimer S.2.1 (nI k)) ∧ okPair m tx fr (nI (4 * k)) kd ∧
      RES m tx n k (gL (f_X5_readPair t (addP pf k kd) (nI k)) (fun (R14 : Int32 × (Nat → Nat → Int32) × (Nat → Nat → Int32)) => (if R14.1 = 0 then (0, R14.2.1, R14.2.2) else (gL (f_X5_readTimer R14.2.1 R14.2.2 (nI k)) (fun (R17 : Int32 × (Nat → Nat → Int32) × (Nat → Nat → Int32)) => (if R17.1 = 0 then (0, R17.2.1, R17.2.2) else (1, R17.2.1, R17.2.2))))))) (rPair m tx fr (nI (4 * k)) kd) :=
  p_pairC hkd hk h hq h5 _ _ _ _ _ _ rfl rfl rfl rfl rfl rfl
