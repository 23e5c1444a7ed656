/-! what holds of the class's cells: they are related to some rows of the reference (a ghost beside them) -/
def Iv (cx : (Nat → Int32)) (o : (Nat → Int32)) (st : (Nat → Int32)) (b : (Nat → Nat → Int32)) (pf : (Nat → Nat → Int32)) (g : (Nat → Nat → Int32)) (so : (Nat → Int32)) (sst : (Nat → Int32)) (sb : (Nat → Nat → Int32)) (sp : (Nat → Nat → Int32)) (sg : (Nat → Nat → Int32)) (hh : HVal) (t : (Nat → Nat → Int32)) : Prop := ∃ (mo : Nat → Int32) (f : Nat → Int32) (fw : Nat → Int32) (fs : Nat → Int32) (tx : Nat → Int32), Rel cx o st b pf g so sst sb sp sg hh t mo f fw fs tx
theorem iv_battery (cx : (Nat → Int32)) (o : (Nat → Int32)) (st : (Nat → Int32)) (b : (Nat → Nat → Int32)) (pf : (Nat → Nat → Int32)) (g : (Nat → Nat → Int32)) (so : (Nat → Int32)) (sst : (Nat → Int32)) (sb : (Nat → Nat → Int32)) (sp : (Nat → Nat → Int32)) (sg : (Nat → Nat → Int32)) (hh : HVal) (t : (Nat → Nat → Int32)) (a1 : Int32) (h : Iv cx o st b pf g so sst sb sp sg hh t) : ok_X6_battery o st b pf g hh a1 ∧ Iv cx ((f_X6_battery o st b pf g hh a1).2.1) st ((f_X6_battery o st b pf g hh a1).2.2.1) pf g so sst sb sp sg ((f_X6_battery o st b pf g hh a1).2.2.2) t := by
  obtain ⟨mo, f, fw, fs, tx, h⟩ := h
  have q := pu_battery cx o st b pf g so sst sb sp sg hh t mo f fw fs tx a1 h
  exact ⟨q.1, _, _, _, _, _, q.2.2.2⟩
theorem iv_setCharge (cx : (Nat → Int32)) (o : (Nat → Int32)) (st : (Nat → Int32)) (b : (Nat → Nat → Int32)) (pf : (Nat → Nat → Int32)) (g : (Nat → Nat → Int32)) (so : (Nat → Int32)) (sst : (Nat → Int32)) (sb : (Nat → Nat → Int32)) (sp : (Nat → Nat → Int32)) (sg : (Nat → Nat → Int32)) (hh : HVal) (t : (Nat → Nat → Int32)) (a1 : Int32) (a2 : Int32) (h : Iv cx o st b pf g so sst sb sp sg hh t) : ok_X6_setCharge o st b pf g hh a1 a2 ∧ Iv cx o st ((f_X6_setCharge o st b pf g hh a1 a2).2.1) pf g so sst sb sp sg ((f_X6_setCharge o st b pf g hh a1 a2).2.2) t := by
  obtain ⟨mo, f, fw, fs, tx, h⟩ := h
  have q := pu_setCharge cx o st b pf g so sst sb sp sg hh t mo f fw fs tx a1 a2 h
  exact ⟨q.1, _, _, _, _, _, q.2.2.2⟩
theorem iv_use (cx : (Nat → Int32)) (o : (Nat → Int32)) (st : (Nat → Int32)) (b : (Nat → Nat → Int32)) (pf : (Nat → Nat → Int32)) (g : (Nat → Nat → Int32)) (so : (Nat → Int32)) (sst : (Nat → Int32)) (sb : (Nat → Nat → Int32)) (sp : (Nat → Nat → Int32)) (sg : (Nat → Nat → Int32)) (hh : HVal) (t : (Nat → Nat → Int32)) (a1 : Int32) (h : Iv cx o st b pf g so sst sb sp sg hh t) : ok_X6_use o st b pf g hh a1 ∧ Iv cx o st ((f_X6_use o st b pf g hh a1).2.1) pf g so sst sb sp sg ((f_X6_use o st b pf g hh a1).2.2) t := by
  obtain ⟨mo, f, fw, fs, tx, h⟩ := h
  have q := pu_use cx o st b pf g so sst sb sp sg hh t mo f fw fs tx a1 h
  exact ⟨q.1, _, _, _, _, _, q.2.2.2⟩
theorem iv_set (cx : (Nat → Int32)) (o : (Nat → Int32)) (st : (Nat → Int32)) (b : (Nat → Nat → Int32)) (pf : (Nat → Nat → Int32)) (g : (Nat → Nat → Int32)) (so : (Nat → Int32)) (sst : (Nat → Int32)) (sb : (Nat → Nat → Int32)) (sp : (Nat → Nat → Int32)) (sg : (Nat → Nat → Int32)) (hh : HVal) (t : (Nat → Nat → Int32)) (a1 : Int32) (a2 : Int32) (h : Iv cx o st b pf g so sst sb sp sg hh t) : ok_X6_set o st b pf g hh a1 a2 ∧ Iv cx o ((f_X6_set o st b pf g hh a1 a2).2.1) b pf g so sst sb sp sg ((f_X6_set o st b pf g hh a1 a2).2.2) t := by
  obtain ⟨mo, f, fw, fs, tx, h⟩ := h
  have q := pu_set cx o st b pf g so sst sb sp sg hh t mo f fw fs tx a1 a2 h
  exact ⟨q.1, _, _, _, _, _, q.2.2.2⟩
theorem iv_readProfile (cx : (Nat → Int32)) (o : (Nat → Int32)) (st : (Nat → Int32)) (b : (Nat → Nat → Int32)) (pf : (Nat → Nat → Int32)) (g : (Nat → Nat → Int32)) (so : (Nat → Int32)) (sst : (Nat → Int32)) (sb : (Nat → Nat → Int32)) (sp : (Nat → Nat → Int32)) (sg : (Nat → Nat → Int32)) (hh : HVal) (t : (Nat → Nat → Int32)) (dr : (Nat → Nat → Int32)) (h : Iv cx o st b pf g so sst sb sp sg hh t) : ok_X6_readProfile o hh t dr ∧ Iv cx o st b ((f_X6_readProfile o st b pf g hh t dr).2.1) g so sst sb sp sg ((f_X6_readProfile o st b pf g hh t dr).2.2.1) ((f_X6_readProfile o st b pf g hh t dr).2.2.2.1) := by
  obtain ⟨mo, f, fw, fs, tx, h⟩ := h
  have q := pu_readProfile cx o st b pf g so sst sb sp sg hh t dr mo f fw fs tx n1 h
  exact ⟨q.1, _, _, _, _, _, q.2.2.2⟩
theorem iv_start (cx : (Nat → Int32)) (o : (Nat → Int32)) (st : (Nat → Int32)) (b : (Nat → Nat → Int32)) (pf : (Nat → Nat → Int32)) (g : (Nat → Nat → Int32)) (so : (Nat → Int32)) (sst : (Nat → Int32)) (sb : (Nat → Nat → Int32)) (sp : (Nat → Nat → Int32)) (sg : (Nat → Nat → Int32)) (hh : HVal) (t : (Nat → Nat → Int32)) (h : Iv cx o st b pf g so sst sb sp sg hh t) : ok_X6_start o st b pf g hh ∧ Iv cx ((f_X6_start o st b pf g hh).2.1) st b pf ((f_X6_start o st b pf g hh).2.2.1) so sst sb sp sg ((f_X6_start o st b pf g hh).2.2.2) t := by
  obtain ⟨mo, f, fw, fs, tx, h⟩ := h
  have q := pu_start cx o st b pf g so sst sb sp sg hh t mo f fw fs tx h
  exact ⟨q.1, _, _, _, _, _, q.2.2.2⟩
theorem iv_stop (cx : (Nat → Int32)) (o : (Nat → Int32)) (st : (Nat → Int32)) (b : (Nat → Nat → Int32)) (pf : (Nat → Nat → Int32)) (g : (Nat → Nat → Int32)) (so : (Nat → Int32)) (sst : (Nat → Int32)) (sb : (Nat → Nat → Int32)) (sp : (Nat → Nat → Int32)) (sg : (Nat → Nat → Int32)) (hh : HVal) (t : (Nat → Nat → Int32)) (h : Iv cx o st b pf g so sst sb sp sg hh t) : ok_X6_stop o hh ∧ Iv cx ((f_X6_stop o st b pf g hh).2.1) st b pf g so sst sb sp sg ((f_X6_stop o st b pf g hh).2.2) t := by
  obtain ⟨mo, f, fw, fs, tx, h⟩ := h
  have q := pu_stop cx o st b pf g so sst sb sp sg hh t mo f fw fs tx h
  exact ⟨q.1, _, _, _, _, _, q.2.2.2⟩
theorem iv_pass (cx : (Nat → Int32)) (o : (Nat → Int32)) (st : (Nat → Int32)) (b : (Nat → Nat → Int32)) (pf : (Nat → Nat → Int32)) (g : (Nat → Nat → Int32)) (so : (Nat → Int32)) (sst : (Nat → Int32)) (sb : (Nat → Nat → Int32)) (sp : (Nat → Nat → Int32)) (sg : (Nat → Nat → Int32)) (hh : HVal) (t : (Nat → Nat → Int32)) (a1 : Int32) (h : Iv cx o st b pf g so sst sb sp sg hh t) : ok_X6_pass o st b pf g hh a1 ∧ Iv cx ((f_X6_pass o st b pf g hh a1).2.1) st ((f_X6_pass o st b pf g hh a1).2.2.1) pf ((f_X6_pass o st b pf g hh a1).2.2.2.1) so sst sb sp sg ((f_X6_pass o st b pf g hh a1).2.2.2.2) t := by
  obtain ⟨mo, f, fw, fs, tx, h⟩ := h
  have q := pu_pass cx o st b pf g so sst sb sp sg hh t mo f fw fs tx a1 h
  exact ⟨q.1, _, _, _, _, _, q.2.2.2⟩
theorem iv_type (cx : (Nat → Int32)) (o : (Nat → Int32)) (st : (Nat → Int32)) (b : (Nat → Nat → Int32)) (pf : (Nat → Nat → Int32)) (g : (Nat → Nat → Int32)) (so : (Nat → Int32)) (sst : (Nat → Int32)) (sb : (Nat → Nat → Int32)) (sp : (Nat → Nat → Int32)) (sg : (Nat → Nat → Int32)) (hh : HVal) (t : (Nat → Nat → Int32)) (ch : Int32) (h : Iv cx o st b pf g so sst sb sp sg hh t) : ok_X6_type t ∧ Iv cx o st b pf g so sst sb sp sg hh ((f_X6_type t ch).2) := by
  obtain ⟨mo, f, fw, fs, tx, h⟩ := h
  have q := pu_type cx o st b pf g so sst sb sp sg hh t mo f fw fs tx ch h
  exact ⟨q.1, _, _, _, _, _, q.2.2.2⟩
theorem iv_clearText (cx : (Nat → Int32)) (o : (Nat → Int32)) (st : (Nat → Int32)) (b : (Nat → Nat → Int32)) (pf : (Nat → Nat → Int32)) (g : (Nat → Nat → Int32)) (so : (Nat → Int32)) (sst : (Nat → Int32)) (sb : (Nat → Nat → Int32)) (sp : (Nat → Nat → Int32)) (sg : (Nat → Nat → Int32)) (hh : HVal) (t : (Nat → Nat → Int32)) (h : Iv cx o st b pf g so sst sb sp sg hh t) : Iv cx o st b pf g so sst sb sp sg hh ((f_X6_clearText t).2) := by
  obtain ⟨mo, f, fw, fs, tx, h⟩ := h
  have q := pu_clearText cx o st b pf g so sst sb sp sg hh t mo f fw fs tx h
  exact ⟨_, _, _, _, _, q.2⟩
theorem iv_undo (cx : (Nat → Int32)) (o : (Nat → Int32)) (st : (Nat → Int32)) (b : (Nat → Nat → Int32)) (pf : (Nat → Nat → Int32)) (g : (Nat → Nat → Int32)) (so : (Nat → Int32)) (sst : (Nat → Int32)) (sb : (Nat → Nat → Int32)) (sp : (Nat → Nat → Int32)) (sg : (Nat → Nat → Int32)) (hh : HVal) (t : (Nat → Nat → Int32)) (h : Iv cx o st b pf g so sst sb sp sg hh t) : ok_X6_undo hh ∧ Iv cx ((f_X6_undo o st b pf g hh).2.1) ((f_X6_undo o st b pf g hh).2.2.1) ((f_X6_undo o st b pf g hh).2.2.2.1) ((f_X6_undo o st b pf g hh).2.2.2.2.1) ((f_X6_undo o st b pf g hh).2.2.2.2.2.1) so sst sb sp sg ((f_X6_undo o st b pf g hh).2.2.2.2.2.2) t := by
  obtain ⟨mo, f, fw, fs, tx, h⟩ := h
  have q := pu_undo cx o st b pf g so sst sb sp sg hh t mo f fw fs tx h
  exact ⟨q.1, _, _, _, _, _, q.2.2.2⟩
theorem iv_keep (cx : (Nat → Int32)) (o : (Nat → Int32)) (st : (Nat → Int32)) (b : (Nat → Nat → Int32)) (pf : (Nat → Nat → Int32)) (g : (Nat → Nat → Int32)) (so : (Nat → Int32)) (sst : (Nat → Int32)) (sb : (Nat → Nat → Int32)) (sp : (Nat → Nat → Int32)) (sg : (Nat → Nat → Int32)) (hh : HVal) (t : (Nat → Nat → Int32)) (h : Iv cx o st b pf g so sst sb sp sg hh t) : ok_X6_keep o ∧ Iv ((f_X6_keep cx o st b pf g).2.1) o st b pf g ((f_X6_keep cx o st b pf g).2.2.1) ((f_X6_keep cx o st b pf g).2.2.2.1) ((f_X6_keep cx o st b pf g).2.2.2.2.1) ((f_X6_keep cx o st b pf g).2.2.2.2.2.1) ((f_X6_keep cx o st b pf g).2.2.2.2.2.2) hh t := by
  obtain ⟨mo, f, fw, fs, tx, h⟩ := h
  have q := pu_keep cx o st b pf g so sst sb sp sg hh t mo f fw fs tx h
  exact ⟨q.1, _, _, _, _, _, q.2.2.2⟩
theorem iv_restore (cx : (Nat → Int32)) (o : (Nat → Int32)) (st : (Nat → Int32)) (b : (Nat → Nat → Int32)) (pf : (Nat → Nat → Int32)) (g : (Nat → Nat → Int32)) (so : (Nat → Int32)) (sst : (Nat → Int32)) (sb : (Nat → Nat → Int32)) (sp : (Nat → Nat → Int32)) (sg : (Nat → Nat → Int32)) (hh : HVal) (t : (Nat → Nat → Int32)) (h : Iv cx o st b pf g so sst sb sp sg hh t) : ok_X6_restore cx o st b pf g so hh ∧ Iv cx ((f_X6_restore cx o st b pf g so sst sb sp sg hh).2.1) ((f_X6_restore cx o st b pf g so sst sb sp sg hh).2.2.1) ((f_X6_restore cx o st b pf g so sst sb sp sg hh).2.2.2.1) ((f_X6_restore cx o st b pf g so sst sb sp sg hh).2.2.2.2.1) ((f_X6_restore cx o st b pf g so sst sb sp sg hh).2.2.2.2.2.1) so sst sb sp sg ((f_X6_restore cx o st b pf g so sst sb sp sg hh).2.2.2.2.2.2) t := by
  obtain ⟨mo, f, fw, fs, tx, h⟩ := h
  have q := pu_restore cx o st b pf g so sst sb sp sg hh t mo f fw fs tx h
  exact ⟨q.1, _, _, _, _, _, q.2.2.2⟩
theorem iv_cell (cx : (Nat → Int32)) (o : (Nat → Int32)) (st : (Nat → Int32)) (b : (Nat → Nat → Int32)) (pf : (Nat → Nat → Int32)) (g : (Nat → Nat → Int32)) (so : (Nat → Int32)) (sst : (Nat → Int32)) (sb : (Nat → Nat → Int32)) (sp : (Nat → Nat → Int32)) (sg : (Nat → Nat → Int32)) (hh : HVal) (t : (Nat → Nat → Int32)) (a1 : Int32) (a2 : Int32) (h : Iv cx o st b pf g so sst sb sp sg hh t) : ok_X6_cell st b a1 a2 ∧ Iv cx o st b pf g so sst sb sp sg hh t := by
  obtain ⟨mo, f, fw, fs, tx, h⟩ := h
  have q := pu_cell cx o st b pf g so sst sb sp sg hh t mo f fw fs tx a1 a2 h
  exact ⟨q.1, _, _, _, _, _, q.2.2.2⟩
theorem iv_setting (cx : (Nat → Int32)) (o : (Nat → Int32)) (st : (Nat → Int32)) (b : (Nat → Nat → Int32)) (pf : (Nat → Nat → Int32)) (g : (Nat → Nat → Int32)) (so : (Nat → Int32)) (sst : (Nat → Int32)) (sb : (Nat → Nat → Int32)) (sp : (Nat → Nat → Int32)) (sg : (Nat → Nat → Int32)) (hh : HVal) (t : (Nat → Nat → Int32)) (a1 : Int32) (h : Iv cx o st b pf g so sst sb sp sg hh t) : ok_X6_setting a1 ∧ Iv cx o st b pf g so sst sb sp sg hh t := by
  obtain ⟨mo, f, fw, fs, tx, h⟩ := h
  have q := pu_setting cx o st b pf g so sst sb sp sg hh t mo f fw fs tx a1 h
  exact ⟨q.1, _, _, _, _, _, q.2.2.2⟩
theorem iv_stage (cx : (Nat → Int32)) (o : (Nat → Int32)) (st : (Nat → Int32)) (b : (Nat → Nat → Int32)) (pf : (Nat → Nat → Int32)) (g : (Nat → Nat → Int32)) (so : (Nat → Int32)) (sst : (Nat → Int32)) (sb : (Nat → Nat → Int32)) (sp : (Nat → Nat → Int32)) (sg : (Nat → Nat → Int32)) (hh : HVal) (t : (Nat → Nat → Int32)) (a1 : Int32) (a2 : Int32) (h : Iv cx o st b pf g so sst sb sp sg hh t) : ok_X6_stage pf a1 a2 ∧ Iv cx o st b pf g so sst sb sp sg hh t := by
  obtain ⟨mo, f, fw, fs, tx, h⟩ := h
  have q := pu_stage cx o st b pf g so sst sb sp sg hh t mo f fw fs tx a1 a2 h
  exact ⟨q.1, _, _, _, _, _, q.2.2.2⟩
theorem iv_voltage (cx : (Nat → Int32)) (o : (Nat → Int32)) (st : (Nat → Int32)) (b : (Nat → Nat → Int32)) (pf : (Nat → Nat → Int32)) (g : (Nat → Nat → Int32)) (so : (Nat → Int32)) (sst : (Nat → Int32)) (sb : (Nat → Nat → Int32)) (sp : (Nat → Nat → Int32)) (sg : (Nat → Nat → Int32)) (hh : HVal) (t : (Nat → Nat → Int32)) (a1 : Int32) (h : Iv cx o st b pf g so sst sb sp sg hh t) : ok_X6_voltage st b a1 ∧ Iv cx o st b pf g so sst sb sp sg hh t := by
  obtain ⟨mo, f, fw, fs, tx, h⟩ := h
  have q := pu_voltage cx o st b pf g so sst sb sp sg hh t mo f fw fs tx a1 h
  exact ⟨q.1, _, _, _, _, _, q.2.2.2⟩
theorem iv_current (cx : (Nat → Int32)) (o : (Nat → Int32)) (st : (Nat → Int32)) (b : (Nat → Nat → Int32)) (pf : (Nat → Nat → Int32)) (g : (Nat → Nat → Int32)) (so : (Nat → Int32)) (sst : (Nat → Int32)) (sb : (Nat → Nat → Int32)) (sp : (Nat → Nat → Int32)) (sg : (Nat → Nat → Int32)) (hh : HVal) (t : (Nat → Nat → Int32)) (h : Iv cx o st b pf g so sst sb sp sg hh t) : ok_X6_current o st b pf ∧ Iv cx o st b pf g so sst sb sp sg hh t := by
  obtain ⟨mo, f, fw, fs, tx, h⟩ := h
  have q := pu_current cx o st b pf g so sst sb sp sg hh t mo f fw fs tx h
  exact ⟨q.1, _, _, _, _, _, q.2.2.2⟩
theorem iv_doneIn (cx : (Nat → Int32)) (o : (Nat → Int32)) (st : (Nat → Int32)) (b : (Nat → Nat → Int32)) (pf : (Nat → Nat → Int32)) (g : (Nat → Nat → Int32)) (fo : (Nat → Int32)) (fst : (Nat → Int32)) (fb : (Nat → Nat → Int32)) (fp : (Nat → Nat → Int32)) (fg : (Nat → Nat → Int32)) (so : (Nat → Int32)) (sst : (Nat → Int32)) (sb : (Nat → Nat → Int32)) (sp : (Nat → Nat → Int32)) (sg : (Nat → Nat → Int32)) (hh : HVal) (t : (Nat → Nat → Int32)) (h : Iv cx o st b pf g so sst sb sp sg hh t) : ok_X6_doneIn o st b pf g ∧ Iv cx o st b pf g so sst sb sp sg hh t := by
  obtain ⟨mo, f, fw, fs, tx, h⟩ := h
  have q := pu_doneIn cx o st b pf g fo fst fb fp fg so sst sb sp sg hh t mo f n1 fw fs tx h
  exact ⟨q.1, _, _, _, _, _, q.2.2.2⟩
theorem iv_chargeIn (cx : (Nat → Int32)) (o : (Nat → Int32)) (st : (Nat → Int32)) (b : (Nat → Nat → Int32)) (pf : (Nat → Nat → Int32)) (g : (Nat → Nat → Int32)) (fo : (Nat → Int32)) (fst : (Nat → Int32)) (fb : (Nat → Nat → Int32)) (fp : (Nat → Nat → Int32)) (fg : (Nat → Nat → Int32)) (so : (Nat → Int32)) (sst : (Nat → Int32)) (sb : (Nat → Nat → Int32)) (sp : (Nat → Nat → Int32)) (sg : (Nat → Nat → Int32)) (hh : HVal) (t : (Nat → Nat → Int32)) (a1 : Int32) (a2 : Int32) (h : Iv cx o st b pf g so sst sb sp sg hh t) : ok_X6_chargeIn o st b pf g a1 a2 ∧ Iv cx o st b pf g so sst sb sp sg hh t := by
  obtain ⟨mo, f, fw, fs, tx, h⟩ := h
  have q := pu_chargeIn cx o st b pf g fo fst fb fp fg so sst sb sp sg hh t mo f n1 fw fs tx a1 a2 h
  exact ⟨q.1, _, _, _, _, _, q.2.2.2⟩
theorem iv_warmest (cx : (Nat → Int32)) (o : (Nat → Int32)) (st : (Nat → Int32)) (b : (Nat → Nat → Int32)) (pf : (Nat → Nat → Int32)) (g : (Nat → Nat → Int32)) (fo : (Nat → Int32)) (fst : (Nat → Int32)) (fb : (Nat → Nat → Int32)) (fp : (Nat → Nat → Int32)) (fg : (Nat → Nat → Int32)) (so : (Nat → Int32)) (sst : (Nat → Int32)) (sb : (Nat → Nat → Int32)) (sp : (Nat → Nat → Int32)) (sg : (Nat → Nat → Int32)) (hh : HVal) (t : (Nat → Nat → Int32)) (h : Iv cx o st b pf g so sst sb sp sg hh t) : ok_X6_warmest o st b pf g fo fst fb fp fg ∧ Iv cx o st b pf g so sst sb sp sg hh t := by
  obtain ⟨mo, f, fw, fs, tx, h⟩ := h
  have q := pu_warmest cx o st b pf g fo fst fb fp fg so sst sb sp sg hh t mo f n1 fw fs tx h
  exact ⟨q.1, _, _, _, _, _, q.2.2.2⟩
theorem iv_event (cx : (Nat → Int32)) (o : (Nat → Int32)) (st : (Nat → Int32)) (b : (Nat → Nat → Int32)) (pf : (Nat → Nat → Int32)) (g : (Nat → Nat → Int32)) (so : (Nat → Int32)) (sst : (Nat → Int32)) (sb : (Nat → Nat → Int32)) (sp : (Nat → Nat → Int32)) (sg : (Nat → Nat → Int32)) (hh : HVal) (t : (Nat → Nat → Int32)) (a1 : Int32) (a2 : Int32) (h : Iv cx o st b pf g so sst sb sp sg hh t) : ok_X6_event g a1 a2 ∧ Iv cx o st b pf g so sst sb sp sg hh t := by
  obtain ⟨mo, f, fw, fs, tx, h⟩ := h
  have q := pu_event cx o st b pf g so sst sb sp sg hh t mo f fw fs tx a1 a2 h
  exact ⟨q.1, _, _, _, _, _, q.2.2.2⟩
theorem iv_count (cx : (Nat → Int32)) (o : (Nat → Int32)) (st : (Nat → Int32)) (b : (Nat → Nat → Int32)) (pf : (Nat → Nat → Int32)) (g : (Nat → Nat → Int32)) (so : (Nat → Int32)) (sst : (Nat → Int32)) (sb : (Nat → Nat → Int32)) (sp : (Nat → Nat → Int32)) (sg : (Nat → Nat → Int32)) (hh : HVal) (t : (Nat → Nat → Int32)) (a1 : Int32) (h : Iv cx o st b pf g so sst sb sp sg hh t) : ok_X6_count b a1 ∧ Iv cx o st b pf g so sst sb sp sg hh t := by
  obtain ⟨mo, f, fw, fs, tx, h⟩ := h
  have q := pu_count cx o st b pf g so sst sb sp sg hh t mo f fw fs tx a1 h
  exact ⟨q.1, _, _, _, _, _, q.2.2.2⟩
theorem iv_init : Iv n1 n1 cFirst nB n2 n2 n1 n1 nB n2 n2 (0, 0, fun _ => nS) n2 := ⟨_, _, _, _, _, pu_init⟩
