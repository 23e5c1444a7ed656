def rok_battery (o : (Nat → Int32)) (st : (Nat → Int32)) (b : (Nat → Nat → Int32)) (pf : (Nat → Nat → Int32)) (g : (Nat → Nat → Int32)) (hh : HVal) (p1 : Int32) : Prop := ok_X6_battery o st b pf g hh p1 ∧ (p1 < 1 ∨ 6 < p1)
theorem re_battery (o : (Nat → Int32)) (st : (Nat → Int32)) (b : (Nat → Nat → Int32)) (pf : (Nat → Nat → Int32)) (g : (Nat → Nat → Int32)) (hh : HVal) (p1 : Int32) (h : p1 < 1 ∨ 6 < p1) : f_X6_battery o st b pf g hh p1 = ((-2), o, b, hh) := by
  unfold f_X6_battery
  rcases h with h | h
  · rw [if_pos h]
  · by_cases c : p1 < 1
    · rw [if_pos c]
    · rw [if_neg c, if_neg (Int32.not_le.mpr h)]
theorem cr_battery (l : Launch) (G : gG) (x : Nat → Nat) (cx : (Nat → Int32)) (o : (Nat → Int32)) (st : (Nat → Int32)) (b : (Nat → Nat → Int32)) (pf : (Nat → Nat → Int32)) (g : (Nat → Nat → Int32)) (hh : HVal) (p1 : Int32) (hok : rok_battery o st b pf g hh p1) : CT l G yX6_battery wsX6_battery 4 81 [.ref (x 0), .int p1] [CW G x cx, OW G (fun k => x (k + 1)) o, AW G (x 2) 9 st, BW G (fun k => x (k + 3)) b, PW G (fun k => x (k + 11)) pf, LW G (fun k => x (k + 16)) g, HGW G (fun k => x (k + 58)) hh] (some (.int (-2))) [CW G x cx, OW G (fun k => x (k + 1)) o, AW G (x 2) 9 st, BW G (fun k => x (k + 3)) b, PW G (fun k => x (k + 11)) pf, LW G (fun k => x (k + 16)) g, HGW G (fun k => x (k + 58)) hh] := by
  exact c_X6_battery l G x cx o st b pf g hh p1 _ (re_battery o st b pf g hh p1 hok.2).symm hok.1
def rok_setChargeU (o : (Nat → Int32)) (st : (Nat → Int32)) (b : (Nat → Nat → Int32)) (pf : (Nat → Nat → Int32)) (g : (Nat → Nat → Int32)) (hh : HVal) (p1 : Int32) (p2 : Int32) : Prop := ok_X6_setCharge o st b pf g hh p1 p2 ∧ (p1 < 0 ∨ b 0 0 ≤ p1)
theorem re_setChargeU (o : (Nat → Int32)) (st : (Nat → Int32)) (b : (Nat → Nat → Int32)) (pf : (Nat → Nat → Int32)) (g : (Nat → Nat → Int32)) (hh : HVal) (p1 : Int32) (p2 : Int32) (h : p1 < 0 ∨ b 0 0 ≤ p1) : f_X6_setCharge o st b pf g hh p1 p2 = ((-1), b, hh) := by
  have e : f_X0_has b p1 = 0 := by
    unfold f_X0_has
    rcases h with h | h
    · rw [if_pos h]
    · by_cases c : p1 < 0
      · rw [if_pos c]
      · rw [if_neg c, if_pos h]
  unfold f_X6_setCharge
  rw [e, q_gLp, if_pos rfl]
theorem cr_setChargeU (l : Launch) (G : gG) (x : Nat → Nat) (cx : (Nat → Int32)) (o : (Nat → Int32)) (st : (Nat → Int32)) (b : (Nat → Nat → Int32)) (pf : (Nat → Nat → Int32)) (g : (Nat → Nat → Int32)) (hh : HVal) (p1 : Int32) (p2 : Int32) (hok : rok_setChargeU o st b pf g hh p1 p2) : CT l G yX6_setCharge wsX6_setCharge 4 81 [.ref (x 0), .int p1, .int p2] [CW G x cx, OW G (fun k => x (k + 1)) o, AW G (x 2) 9 st, BW G (fun k => x (k + 3)) b, PW G (fun k => x (k + 11)) pf, LW G (fun k => x (k + 16)) g, HGW G (fun k => x (k + 58)) hh] (some (.int (-1))) [CW G x cx, OW G (fun k => x (k + 1)) o, AW G (x 2) 9 st, BW G (fun k => x (k + 3)) b, PW G (fun k => x (k + 11)) pf, LW G (fun k => x (k + 16)) g, HGW G (fun k => x (k + 58)) hh] := by
  exact c_X6_setCharge l G x cx o st b pf g hh p1 p2 _ (re_setChargeU o st b pf g hh p1 p2 hok.2).symm hok.1
def rok_setChargeB (o : (Nat → Int32)) (st : (Nat → Int32)) (b : (Nat → Nat → Int32)) (pf : (Nat → Nat → Int32)) (g : (Nat → Nat → Int32)) (hh : HVal) (p1 : Int32) (p2 : Int32) : Prop := ok_X6_setCharge o st b pf g hh p1 p2 ∧ ((¬ p1 < 0 ∧ ¬ b 0 0 ≤ p1) ∧ (p2 < 0 ∨ st 0 < p2))
theorem re_setChargeB (o : (Nat → Int32)) (st : (Nat → Int32)) (b : (Nat → Nat → Int32)) (pf : (Nat → Nat → Int32)) (g : (Nat → Nat → Int32)) (hh : HVal) (p1 : Int32) (p2 : Int32) (h : (¬ p1 < 0 ∧ ¬ b 0 0 ≤ p1) ∧ (p2 < 0 ∨ st 0 < p2)) : f_X6_setCharge o st b pf g hh p1 p2 = ((-2), b, hh) := by
  have e : f_X0_has b p1 = 1 := by
    unfold f_X0_has
    rw [if_neg h.1.1, if_neg h.1.2]
  unfold f_X6_setCharge
  rw [e, q_gLp, if_neg (by decide)]
  rcases h.2 with h | h
  · rw [if_pos h]
  · by_cases c : p2 < 0
    · rw [if_pos c]
    · rw [if_neg c, if_neg (Int32.not_le.mpr h)]
theorem cr_setChargeB (l : Launch) (G : gG) (x : Nat → Nat) (cx : (Nat → Int32)) (o : (Nat → Int32)) (st : (Nat → Int32)) (b : (Nat → Nat → Int32)) (pf : (Nat → Nat → Int32)) (g : (Nat → Nat → Int32)) (hh : HVal) (p1 : Int32) (p2 : Int32) (hok : rok_setChargeB o st b pf g hh p1 p2) : CT l G yX6_setCharge wsX6_setCharge 4 81 [.ref (x 0), .int p1, .int p2] [CW G x cx, OW G (fun k => x (k + 1)) o, AW G (x 2) 9 st, BW G (fun k => x (k + 3)) b, PW G (fun k => x (k + 11)) pf, LW G (fun k => x (k + 16)) g, HGW G (fun k => x (k + 58)) hh] (some (.int (-2))) [CW G x cx, OW G (fun k => x (k + 1)) o, AW G (x 2) 9 st, BW G (fun k => x (k + 3)) b, PW G (fun k => x (k + 11)) pf, LW G (fun k => x (k + 16)) g, HGW G (fun k => x (k + 58)) hh] := by
  exact c_X6_setCharge l G x cx o st b pf g hh p1 p2 _ (re_setChargeB o st b pf g hh p1 p2 hok.2).symm hok.1
def rok_use (o : (Nat → Int32)) (st : (Nat → Int32)) (b : (Nat → Nat → Int32)) (pf : (Nat → Nat → Int32)) (g : (Nat → Nat → Int32)) (hh : HVal) (p1 : Int32) : Prop := ok_X6_use o st b pf g hh p1 ∧ (p1 < 1 ∨ 5000 < p1)
theorem re_use (o : (Nat → Int32)) (st : (Nat → Int32)) (b : (Nat → Nat → Int32)) (pf : (Nat → Nat → Int32)) (g : (Nat → Nat → Int32)) (hh : HVal) (p1 : Int32) (h : p1 < 1 ∨ 5000 < p1) : f_X6_use o st b pf g hh p1 = ((-2), b, hh) := by
  unfold f_X6_use
  rcases h with h | h
  · rw [if_pos h]
  · by_cases c : p1 < 1
    · rw [if_pos c]
    · rw [if_neg c, if_neg (Int32.not_le.mpr h)]
theorem cr_use (l : Launch) (G : gG) (x : Nat → Nat) (cx : (Nat → Int32)) (o : (Nat → Int32)) (st : (Nat → Int32)) (b : (Nat → Nat → Int32)) (pf : (Nat → Nat → Int32)) (g : (Nat → Nat → Int32)) (hh : HVal) (p1 : Int32) (hok : rok_use o st b pf g hh p1) : CT l G yX6_use wsX6_use 4 81 [.ref (x 0), .int p1] [CW G x cx, OW G (fun k => x (k + 1)) o, AW G (x 2) 9 st, BW G (fun k => x (k + 3)) b, PW G (fun k => x (k + 11)) pf, LW G (fun k => x (k + 16)) g, HGW G (fun k => x (k + 58)) hh] (some (.int (-2))) [CW G x cx, OW G (fun k => x (k + 1)) o, AW G (x 2) 9 st, BW G (fun k => x (k + 3)) b, PW G (fun k => x (k + 11)) pf, LW G (fun k => x (k + 16)) g, HGW G (fun k => x (k + 58)) hh] := by
  exact c_X6_use l G x cx o st b pf g hh p1 _ (re_use o st b pf g hh p1 hok.2).symm hok.1
def rok_setU (o : (Nat → Int32)) (st : (Nat → Int32)) (b : (Nat → Nat → Int32)) (pf : (Nat → Nat → Int32)) (g : (Nat → Nat → Int32)) (hh : HVal) (p1 : Int32) (p2 : Int32) : Prop := ok_X6_set o st b pf g hh p1 p2 ∧ (p1 < 0 ∨ 9 ≤ p1)
theorem re_setU (o : (Nat → Int32)) (st : (Nat → Int32)) (b : (Nat → Nat → Int32)) (pf : (Nat → Nat → Int32)) (g : (Nat → Nat → Int32)) (hh : HVal) (p1 : Int32) (p2 : Int32) (h : p1 < 0 ∨ 9 ≤ p1) : f_X6_set o st b pf g hh p1 p2 = ((-1), st, hh) := by
  have e : f_X6_isSetting p1 = 0 := by
    unfold f_X6_isSetting
    rcases h with h | h
    · rw [if_pos h]
    · by_cases c : p1 < 0
      · rw [if_pos c]
      · rw [if_neg c, if_pos h]
  unfold f_X6_set
  rw [e, q_gLp, if_pos rfl]
theorem cr_setU (l : Launch) (G : gG) (z : Nat × Nat × Nat) (x : Nat → Nat) (cx : (Nat → Int32)) (o : (Nat → Int32)) (st : (Nat → Int32)) (b : (Nat → Nat → Int32)) (pf : (Nat → Nat → Int32)) (g : (Nat → Nat → Int32)) (hh : HVal) (p1 : Int32) (p2 : Int32) (hok : rok_setU o st b pf g hh p1 p2) : CTZ z l G yX6_set wsX6_set 4 81 [.ref (x 0), .int p1, .int p2] [CW G x cx, OW G (fun k => x (k + 1)) o, AW G (x 2) 9 st, BW G (fun k => x (k + 3)) b, PW G (fun k => x (k + 11)) pf, LW G (fun k => x (k + 16)) g, HGW G (fun k => x (k + 58)) hh] (some (.int (-1))) [CW G x cx, OW G (fun k => x (k + 1)) o, AW G (x 2) 9 st, BW G (fun k => x (k + 3)) b, PW G (fun k => x (k + 11)) pf, LW G (fun k => x (k + 16)) g, HGW G (fun k => x (k + 58)) hh] := by
  exact c_X6_set l G z x cx o st b pf g hh p1 p2 _ (re_setU o st b pf g hh p1 p2 hok.2).symm hok.1
def rok_setB (o : (Nat → Int32)) (st : (Nat → Int32)) (b : (Nat → Nat → Int32)) (pf : (Nat → Nat → Int32)) (g : (Nat → Nat → Int32)) (hh : HVal) (p1 : Int32) (p2 : Int32) : Prop := ok_X6_set o st b pf g hh p1 p2 ∧ ((¬ p1 < 0 ∧ ¬ 9 ≤ p1) ∧ (p2 < cLeast p1.toNatClampNeg ∨ cMost p1.toNatClampNeg < p2))
theorem re_setB (o : (Nat → Int32)) (st : (Nat → Int32)) (b : (Nat → Nat → Int32)) (pf : (Nat → Nat → Int32)) (g : (Nat → Nat → Int32)) (hh : HVal) (p1 : Int32) (p2 : Int32) (h : (¬ p1 < 0 ∧ ¬ 9 ≤ p1) ∧ (p2 < cLeast p1.toNatClampNeg ∨ cMost p1.toNatClampNeg < p2)) : f_X6_set o st b pf g hh p1 p2 = ((-2), st, hh) := by
  have e : f_X6_isSetting p1 = 1 := by
    unfold f_X6_isSetting
    rw [if_neg h.1.1, if_neg h.1.2]
  unfold f_X6_set
  rw [e, q_gLp, if_neg (by decide)]
  rcases h.2 with h | h
  · rw [if_pos h]
  · by_cases c : p2 < cLeast p1.toNatClampNeg
    · rw [if_pos c]
    · rw [if_neg c, if_neg (Int32.not_le.mpr h)]
theorem cr_setB (l : Launch) (G : gG) (z : Nat × Nat × Nat) (x : Nat → Nat) (cx : (Nat → Int32)) (o : (Nat → Int32)) (st : (Nat → Int32)) (b : (Nat → Nat → Int32)) (pf : (Nat → Nat → Int32)) (g : (Nat → Nat → Int32)) (hh : HVal) (p1 : Int32) (p2 : Int32) (hok : rok_setB o st b pf g hh p1 p2) : CTZ z l G yX6_set wsX6_set 4 81 [.ref (x 0), .int p1, .int p2] [CW G x cx, OW G (fun k => x (k + 1)) o, AW G (x 2) 9 st, BW G (fun k => x (k + 3)) b, PW G (fun k => x (k + 11)) pf, LW G (fun k => x (k + 16)) g, HGW G (fun k => x (k + 58)) hh] (some (.int (-2))) [CW G x cx, OW G (fun k => x (k + 1)) o, AW G (x 2) 9 st, BW G (fun k => x (k + 3)) b, PW G (fun k => x (k + 11)) pf, LW G (fun k => x (k + 16)) g, HGW G (fun k => x (k + 58)) hh] := by
  exact c_X6_set l G z x cx o st b pf g hh p1 p2 _ (re_setB o st b pf g hh p1 p2 hok.2).symm hok.1
def rok_setN (o : (Nat → Int32)) (st : (Nat → Int32)) (b : (Nat → Nat → Int32)) (pf : (Nat → Nat → Int32)) (g : (Nat → Nat → Int32)) (hh : HVal) (p1 : Int32) (p2 : Int32) : Prop := ok_X6_set o st b pf g hh p1 p2 ∧ ((¬ p1 < 0 ∧ ¬ 9 ≤ p1) ∧ ¬ p2 < cLeast p1.toNatClampNeg ∧ p2 ≤ cMost p1.toNatClampNeg ∧ ¬ f_X4_allows st b p1 p2 = 0 ∧ st p1.toNatClampNeg = p2)
theorem re_setN (o : (Nat → Int32)) (st : (Nat → Int32)) (b : (Nat → Nat → Int32)) (pf : (Nat → Nat → Int32)) (g : (Nat → Nat → Int32)) (hh : HVal) (p1 : Int32) (p2 : Int32) (h : (¬ p1 < 0 ∧ ¬ 9 ≤ p1) ∧ ¬ p2 < cLeast p1.toNatClampNeg ∧ p2 ≤ cMost p1.toNatClampNeg ∧ ¬ f_X4_allows st b p1 p2 = 0 ∧ st p1.toNatClampNeg = p2) : f_X6_set o st b pf g hh p1 p2 = ((-5), st, hh) := by
  have e : f_X6_isSetting p1 = 1 := by
    unfold f_X6_isSetting
    rw [if_neg h.1.1, if_neg h.1.2]
  unfold f_X6_set
  rw [e, q_gLp, if_neg (by decide), if_neg h.2.1, if_pos h.2.2.1, q_gLp, if_neg h.2.2.2.1, q_gLp, if_pos h.2.2.2.2]
theorem cr_setN (l : Launch) (G : gG) (z : Nat × Nat × Nat) (x : Nat → Nat) (cx : (Nat → Int32)) (o : (Nat → Int32)) (st : (Nat → Int32)) (b : (Nat → Nat → Int32)) (pf : (Nat → Nat → Int32)) (g : (Nat → Nat → Int32)) (hh : HVal) (p1 : Int32) (p2 : Int32) (hok : rok_setN o st b pf g hh p1 p2) : CTZ z l G yX6_set wsX6_set 4 81 [.ref (x 0), .int p1, .int p2] [CW G x cx, OW G (fun k => x (k + 1)) o, AW G (x 2) 9 st, BW G (fun k => x (k + 3)) b, PW G (fun k => x (k + 11)) pf, LW G (fun k => x (k + 16)) g, HGW G (fun k => x (k + 58)) hh] (some (.int (-5))) [CW G x cx, OW G (fun k => x (k + 1)) o, AW G (x 2) 9 st, BW G (fun k => x (k + 3)) b, PW G (fun k => x (k + 11)) pf, LW G (fun k => x (k + 16)) g, HGW G (fun k => x (k + 58)) hh] := by
  exact c_X6_set l G z x cx o st b pf g hh p1 p2 _ (re_setN o st b pf g hh p1 p2 hok.2).symm hok.1
def rok_pass (o : (Nat → Int32)) (st : (Nat → Int32)) (b : (Nat → Nat → Int32)) (pf : (Nat → Nat → Int32)) (g : (Nat → Nat → Int32)) (hh : HVal) (p1 : Int32) : Prop := ok_X6_pass o st b pf g hh p1 ∧ (p1 < 1 ∨ 200 < p1)
theorem re_pass (o : (Nat → Int32)) (st : (Nat → Int32)) (b : (Nat → Nat → Int32)) (pf : (Nat → Nat → Int32)) (g : (Nat → Nat → Int32)) (hh : HVal) (p1 : Int32) (h : p1 < 1 ∨ 200 < p1) : f_X6_pass o st b pf g hh p1 = ((-2), o, b, g, hh) := by
  unfold f_X6_pass
  rcases h with h | h
  · rw [if_pos h]
  · by_cases c : p1 < 1
    · rw [if_pos c]
    · rw [if_neg c, if_neg (Int32.not_le.mpr h)]
theorem cr_pass (l : Launch) (G : gG) (x : Nat → Nat) (cx : (Nat → Int32)) (o : (Nat → Int32)) (st : (Nat → Int32)) (b : (Nat → Nat → Int32)) (pf : (Nat → Nat → Int32)) (g : (Nat → Nat → Int32)) (hh : HVal) (p1 : Int32) (hok : rok_pass o st b pf g hh p1) : CT l G yX6_pass wsX6_pass 7 142 [.ref (x 0), .int p1] [CW G x cx, OW G (fun k => x (k + 1)) o, AW G (x 2) 9 st, BW G (fun k => x (k + 3)) b, PW G (fun k => x (k + 11)) pf, LW G (fun k => x (k + 16)) g, HGW G (fun k => x (k + 58)) hh] (some (.int (-2))) [CW G x cx, OW G (fun k => x (k + 1)) o, AW G (x 2) 9 st, BW G (fun k => x (k + 3)) b, PW G (fun k => x (k + 11)) pf, LW G (fun k => x (k + 16)) g, HGW G (fun k => x (k + 58)) hh] := by
  exact c_X6_pass l G x cx o st b pf g hh p1 _ (re_pass o st b pf g hh p1 hok.2).symm hok.1
def rok_settingU (p1 : Int32) : Prop := ok_X6_setting p1 ∧ (p1 < 0 ∨ 9 ≤ p1)
theorem re_settingU (st : (Nat → Int32)) (p1 : Int32) (h : p1 < 0 ∨ 9 ≤ p1) : f_X6_setting st p1 = (-1) := by
  have e : f_X6_isSetting p1 = 0 := by
    unfold f_X6_isSetting
    rcases h with h | h
    · rw [if_pos h]
    · by_cases c : p1 < 0
      · rw [if_pos c]
      · rw [if_neg c, if_pos h]
  unfold f_X6_setting
  rw [e, q_gLp, if_pos rfl]
theorem cr_settingU (l : Launch) (G : gG) (x : Nat → Nat) (cx : (Nat → Int32)) (o : (Nat → Int32)) (st : (Nat → Int32)) (b : (Nat → Nat → Int32)) (pf : (Nat → Nat → Int32)) (g : (Nat → Nat → Int32)) (p1 : Int32) (hok : rok_settingU p1) : CT l G yX6_setting wsX6_setting 1 20 [.ref (x 0), .int p1] [CW G x cx, OW G (fun k => x (k + 1)) o, AW G (x 2) 9 st, BW G (fun k => x (k + 3)) b, PW G (fun k => x (k + 11)) pf, LW G (fun k => x (k + 16)) g] (some (.int (-1))) [CW G x cx, OW G (fun k => x (k + 1)) o, AW G (x 2) 9 st, BW G (fun k => x (k + 3)) b, PW G (fun k => x (k + 11)) pf, LW G (fun k => x (k + 16)) g] := by
  exact c_X6_setting l G x cx o st b pf g p1 _ (re_settingU st p1 hok.2).symm hok.1
def rok_settingV (p1 : Int32) : Prop := ok_X6_setting p1 ∧ ((¬ p1 < 0 ∧ ¬ 9 ≤ p1) ∧ True)
theorem re_settingV (st : (Nat → Int32)) (p1 : Int32) (h : (¬ p1 < 0 ∧ ¬ 9 ≤ p1) ∧ True) : f_X6_setting st p1 = (st (p1).toNatClampNeg + 1000) := by
  have e : f_X6_isSetting p1 = 1 := by
    unfold f_X6_isSetting
    rw [if_neg h.1.1, if_neg h.1.2]
  unfold f_X6_setting
  rw [e, q_gLp, if_neg (by decide)]
theorem cr_settingV (l : Launch) (G : gG) (x : Nat → Nat) (cx : (Nat → Int32)) (o : (Nat → Int32)) (st : (Nat → Int32)) (b : (Nat → Nat → Int32)) (pf : (Nat → Nat → Int32)) (g : (Nat → Nat → Int32)) (p1 : Int32) (hok : rok_settingV p1) : CT l G yX6_setting wsX6_setting 1 20 [.ref (x 0), .int p1] [CW G x cx, OW G (fun k => x (k + 1)) o, AW G (x 2) 9 st, BW G (fun k => x (k + 3)) b, PW G (fun k => x (k + 11)) pf, LW G (fun k => x (k + 16)) g] (some (.int (st (p1).toNatClampNeg + 1000))) [CW G x cx, OW G (fun k => x (k + 1)) o, AW G (x 2) 9 st, BW G (fun k => x (k + 3)) b, PW G (fun k => x (k + 11)) pf, LW G (fun k => x (k + 16)) g] := by
  exact c_X6_setting l G x cx o st b pf g p1 _ (re_settingV st p1 hok.2).symm hok.1
def rok_cellU (st : (Nat → Int32)) (b : (Nat → Nat → Int32)) (p1 : Int32) (p2 : Int32) : Prop := ok_X6_cell st b p1 p2 ∧ (p1 < 0 ∨ b 0 0 ≤ p1)
theorem re_cellU (st : (Nat → Int32)) (b : (Nat → Nat → Int32)) (p1 : Int32) (p2 : Int32) (h : p1 < 0 ∨ b 0 0 ≤ p1) : f_X6_cell st b p1 p2 = (-1) := by
  have e : f_X0_has b p1 = 0 := by
    unfold f_X0_has
    rcases h with h | h
    · rw [if_pos h]
    · by_cases c : p1 < 0
      · rw [if_pos c]
      · rw [if_neg c, if_pos h]
  unfold f_X6_cell
  rw [e, q_gLp, if_pos rfl]
theorem cr_cellU (l : Launch) (G : gG) (x : Nat → Nat) (cx : (Nat → Int32)) (o : (Nat → Int32)) (st : (Nat → Int32)) (b : (Nat → Nat → Int32)) (pf : (Nat → Nat → Int32)) (g : (Nat → Nat → Int32)) (p1 : Int32) (p2 : Int32) (hok : rok_cellU st b p1 p2) : CT l G yX6_cell wsX6_cell 1 21 [.ref (x 0), .int p1, .int p2] [CW G x cx, OW G (fun k => x (k + 1)) o, AW G (x 2) 9 st, BW G (fun k => x (k + 3)) b, PW G (fun k => x (k + 11)) pf, LW G (fun k => x (k + 16)) g] (some (.int (-1))) [CW G x cx, OW G (fun k => x (k + 1)) o, AW G (x 2) 9 st, BW G (fun k => x (k + 3)) b, PW G (fun k => x (k + 11)) pf, LW G (fun k => x (k + 16)) g] := by
  exact c_X6_cell l G x cx o st b pf g p1 p2 _ (re_cellU st b p1 p2 hok.2).symm hok.1
def rok_cellB (st : (Nat → Int32)) (b : (Nat → Nat → Int32)) (p1 : Int32) (p2 : Int32) : Prop := ok_X6_cell st b p1 p2 ∧ ((¬ p1 < 0 ∧ ¬ b 0 0 ≤ p1) ∧ (p2 = -1 ∨ p2 = 9))
theorem re_cellB (st : (Nat → Int32)) (b : (Nat → Nat → Int32)) (p1 : Int32) (p2 : Int32) (h : (¬ p1 < 0 ∧ ¬ b 0 0 ≤ p1) ∧ (p2 = -1 ∨ p2 = 9)) : f_X6_cell st b p1 p2 = (-2) := by
  have e : f_X0_has b p1 = 1 := by
    unfold f_X0_has
    rw [if_neg h.1.1, if_neg h.1.2]
  unfold f_X6_cell
  rw [e, q_gLp, if_neg (by decide)]
  rcases h.2 with h | h <;> subst h <;> rw [if_neg (by decide), if_neg (by decide), if_neg (by decide), if_neg (by decide), if_neg (by decide), if_neg (by decide), if_neg (by decide), if_neg (by decide), if_neg (by decide)]
theorem cr_cellB (l : Launch) (G : gG) (x : Nat → Nat) (cx : (Nat → Int32)) (o : (Nat → Int32)) (st : (Nat → Int32)) (b : (Nat → Nat → Int32)) (pf : (Nat → Nat → Int32)) (g : (Nat → Nat → Int32)) (p1 : Int32) (p2 : Int32) (hok : rok_cellB st b p1 p2) : CT l G yX6_cell wsX6_cell 1 21 [.ref (x 0), .int p1, .int p2] [CW G x cx, OW G (fun k => x (k + 1)) o, AW G (x 2) 9 st, BW G (fun k => x (k + 3)) b, PW G (fun k => x (k + 11)) pf, LW G (fun k => x (k + 16)) g] (some (.int (-2))) [CW G x cx, OW G (fun k => x (k + 1)) o, AW G (x 2) 9 st, BW G (fun k => x (k + 3)) b, PW G (fun k => x (k + 11)) pf, LW G (fun k => x (k + 16)) g] := by
  exact c_X6_cell l G x cx o st b pf g p1 p2 _ (re_cellB st b p1 p2 hok.2).symm hok.1
def rok_stageU (pf : (Nat → Nat → Int32)) (p1 : Int32) (p2 : Int32) : Prop := ok_X6_stage pf p1 p2 ∧ (p1 < 0 ∨ pf 0 0 ≤ p1)
theorem re_stageU (st : (Nat → Int32)) (pf : (Nat → Nat → Int32)) (p1 : Int32) (p2 : Int32) (h : p1 < 0 ∨ pf 0 0 ≤ p1) : f_X6_stage st pf p1 p2 = (-1) := by
  have e : f_X3_has pf p1 = 0 := by
    unfold f_X3_has
    rcases h with h | h
    · rw [if_pos h]
    · by_cases c : p1 < 0
      · rw [if_pos c]
      · rw [if_neg c, if_pos h]
  unfold f_X6_stage
  rw [e, q_gLp, if_pos rfl]
theorem cr_stageU (l : Launch) (G : gG) (x : Nat → Nat) (cx : (Nat → Int32)) (o : (Nat → Int32)) (st : (Nat → Int32)) (b : (Nat → Nat → Int32)) (pf : (Nat → Nat → Int32)) (g : (Nat → Nat → Int32)) (p1 : Int32) (p2 : Int32) (hok : rok_stageU pf p1 p2) : CT l G yX6_stage wsX6_stage 2 42 [.ref (x 0), .int p1, .int p2] [CW G x cx, OW G (fun k => x (k + 1)) o, AW G (x 2) 9 st, BW G (fun k => x (k + 3)) b, PW G (fun k => x (k + 11)) pf, LW G (fun k => x (k + 16)) g] (some (.int (-1))) [CW G x cx, OW G (fun k => x (k + 1)) o, AW G (x 2) 9 st, BW G (fun k => x (k + 3)) b, PW G (fun k => x (k + 11)) pf, LW G (fun k => x (k + 16)) g] := by
  exact c_X6_stage l G x cx o st b pf g p1 p2 _ (re_stageU st pf p1 p2 hok.2).symm hok.1
def rok_voltage (st : (Nat → Int32)) (b : (Nat → Nat → Int32)) (p1 : Int32) : Prop := ok_X6_voltage st b p1 ∧ (p1 < 0 ∨ 2000 < p1)
theorem re_voltage (st : (Nat → Int32)) (b : (Nat → Nat → Int32)) (p1 : Int32) (h : p1 < 0 ∨ 2000 < p1) : f_X6_voltage st b p1 = (-2) := by
  unfold f_X6_voltage
  rcases h with h | h
  · rw [if_pos h]
  · by_cases c : p1 < 0
    · rw [if_pos c]
    · rw [if_neg c, if_neg (Int32.not_le.mpr h)]
theorem cr_voltage (l : Launch) (G : gG) (x : Nat → Nat) (cx : (Nat → Int32)) (o : (Nat → Int32)) (st : (Nat → Int32)) (b : (Nat → Nat → Int32)) (pf : (Nat → Nat → Int32)) (g : (Nat → Nat → Int32)) (p1 : Int32) (hok : rok_voltage st b p1) : CT l G yX6_voltage wsX6_voltage 3 56 [.ref (x 0), .int p1] [CW G x cx, OW G (fun k => x (k + 1)) o, AW G (x 2) 9 st, BW G (fun k => x (k + 3)) b, PW G (fun k => x (k + 11)) pf, LW G (fun k => x (k + 16)) g] (some (.int (-2))) [CW G x cx, OW G (fun k => x (k + 1)) o, AW G (x 2) 9 st, BW G (fun k => x (k + 3)) b, PW G (fun k => x (k + 11)) pf, LW G (fun k => x (k + 16)) g] := by
  exact c_X6_voltage l G x cx o st b pf g p1 _ (re_voltage st b p1 hok.2).symm hok.1
def rok_chargeInU (o : (Nat → Int32)) (st : (Nat → Int32)) (b : (Nat → Nat → Int32)) (pf : (Nat → Nat → Int32)) (g : (Nat → Nat → Int32)) (p1 : Int32) (p2 : Int32) : Prop := ok_X6_chargeIn o st b pf g p1 p2 ∧ (p1 < 0 ∨ b 0 0 ≤ p1)
theorem re_chargeInU (o : (Nat → Int32)) (st : (Nat → Int32)) (b : (Nat → Nat → Int32)) (pf : (Nat → Nat → Int32)) (g : (Nat → Nat → Int32)) (fo : (Nat → Int32)) (fst : (Nat → Int32)) (fb : (Nat → Nat → Int32)) (fp : (Nat → Nat → Int32)) (fg : (Nat → Nat → Int32)) (p1 : Int32) (p2 : Int32) (h : p1 < 0 ∨ b 0 0 ≤ p1) : f_X6_chargeIn o st b pf g fo fst fb fp fg p1 p2 = ((-1), fo, fst, fb, fp, fg) := by
  have e : f_X0_has b p1 = 0 := by
    unfold f_X0_has
    rcases h with h | h
    · rw [if_pos h]
    · by_cases c : p1 < 0
      · rw [if_pos c]
      · rw [if_neg c, if_pos h]
  unfold f_X6_chargeIn
  rw [e, q_gLp, if_pos rfl]
theorem cr_chargeInU (l : Launch) (G : gG) (x : Nat → Nat) (cx : (Nat → Int32)) (o : (Nat → Int32)) (st : (Nat → Int32)) (b : (Nat → Nat → Int32)) (pf : (Nat → Nat → Int32)) (g : (Nat → Nat → Int32)) (fo : (Nat → Int32)) (fst : (Nat → Int32)) (fb : (Nat → Nat → Int32)) (fp : (Nat → Nat → Int32)) (fg : (Nat → Nat → Int32)) (p1 : Int32) (p2 : Int32) (hok : rok_chargeInU o st b pf g p1 p2) : CT l G yX6_chargeIn wsX6_chargeIn 7 142 [.ref (x 0), .int p1, .int p2] [CW G x cx, OW G (fun k => x (k + 1)) o, AW G (x 2) 9 st, BW G (fun k => x (k + 3)) b, PW G (fun k => x (k + 11)) pf, LW G (fun k => x (k + 16)) g, OW G (fun k => x (k + 20)) fo, AW G (x 21) 9 fst, BW G (fun k => x (k + 22)) fb, PW G (fun k => x (k + 30)) fp, LW G (fun k => x (k + 35)) fg] (some (.int (-1))) [CW G x cx, OW G (fun k => x (k + 1)) o, AW G (x 2) 9 st, BW G (fun k => x (k + 3)) b, PW G (fun k => x (k + 11)) pf, LW G (fun k => x (k + 16)) g, OW G (fun k => x (k + 20)) fo, AW G (x 21) 9 fst, BW G (fun k => x (k + 22)) fb, PW G (fun k => x (k + 30)) fp, LW G (fun k => x (k + 35)) fg] := by
  exact c_X6_chargeIn l G x cx o st b pf g fo fst fb fp fg p1 p2 _ (re_chargeInU o st b pf g fo fst fb fp fg p1 p2 hok.2).symm hok.1
def rok_chargeInB (o : (Nat → Int32)) (st : (Nat → Int32)) (b : (Nat → Nat → Int32)) (pf : (Nat → Nat → Int32)) (g : (Nat → Nat → Int32)) (p1 : Int32) (p2 : Int32) : Prop := ok_X6_chargeIn o st b pf g p1 p2 ∧ ((¬ p1 < 0 ∧ ¬ b 0 0 ≤ p1) ∧ (p2 < 0 ∨ 200 < p2))
theorem re_chargeInB (o : (Nat → Int32)) (st : (Nat → Int32)) (b : (Nat → Nat → Int32)) (pf : (Nat → Nat → Int32)) (g : (Nat → Nat → Int32)) (fo : (Nat → Int32)) (fst : (Nat → Int32)) (fb : (Nat → Nat → Int32)) (fp : (Nat → Nat → Int32)) (fg : (Nat → Nat → Int32)) (p1 : Int32) (p2 : Int32) (h : (¬ p1 < 0 ∧ ¬ b 0 0 ≤ p1) ∧ (p2 < 0 ∨ 200 < p2)) : f_X6_chargeIn o st b pf g fo fst fb fp fg p1 p2 = ((-2), fo, fst, fb, fp, fg) := by
  have e : f_X0_has b p1 = 1 := by
    unfold f_X0_has
    rw [if_neg h.1.1, if_neg h.1.2]
  unfold f_X6_chargeIn
  rw [e, q_gLp, if_neg (by decide)]
  rcases h.2 with h | h
  · rw [if_pos h]
  · by_cases c : p2 < 0
    · rw [if_pos c]
    · rw [if_neg c, if_neg (Int32.not_le.mpr h)]
theorem cr_chargeInB (l : Launch) (G : gG) (x : Nat → Nat) (cx : (Nat → Int32)) (o : (Nat → Int32)) (st : (Nat → Int32)) (b : (Nat → Nat → Int32)) (pf : (Nat → Nat → Int32)) (g : (Nat → Nat → Int32)) (fo : (Nat → Int32)) (fst : (Nat → Int32)) (fb : (Nat → Nat → Int32)) (fp : (Nat → Nat → Int32)) (fg : (Nat → Nat → Int32)) (p1 : Int32) (p2 : Int32) (hok : rok_chargeInB o st b pf g p1 p2) : CT l G yX6_chargeIn wsX6_chargeIn 7 142 [.ref (x 0), .int p1, .int p2] [CW G x cx, OW G (fun k => x (k + 1)) o, AW G (x 2) 9 st, BW G (fun k => x (k + 3)) b, PW G (fun k => x (k + 11)) pf, LW G (fun k => x (k + 16)) g, OW G (fun k => x (k + 20)) fo, AW G (x 21) 9 fst, BW G (fun k => x (k + 22)) fb, PW G (fun k => x (k + 30)) fp, LW G (fun k => x (k + 35)) fg] (some (.int (-2))) [CW G x cx, OW G (fun k => x (k + 1)) o, AW G (x 2) 9 st, BW G (fun k => x (k + 3)) b, PW G (fun k => x (k + 11)) pf, LW G (fun k => x (k + 16)) g, OW G (fun k => x (k + 20)) fo, AW G (x 21) 9 fst, BW G (fun k => x (k + 22)) fb, PW G (fun k => x (k + 30)) fp, LW G (fun k => x (k + 35)) fg] := by
  exact c_X6_chargeIn l G x cx o st b pf g fo fst fb fp fg p1 p2 _ (re_chargeInB o st b pf g fo fst fb fp fg p1 p2 hok.2).symm hok.1
def rok_eventB (g : (Nat → Nat → Int32)) (p1 : Int32) (p2 : Int32) : Prop := ok_X6_event g p1 p2 ∧ (p1 < 0 ∨ p2 < 0 ∨ 2 < p2)
theorem re_eventB (g : (Nat → Nat → Int32)) (p1 : Int32) (p2 : Int32) (h : p1 < 0 ∨ p2 < 0 ∨ 2 < p2) : f_X6_event g p1 p2 = (-2) := by
  unfold f_X6_event
  by_cases c1 : p1 < 0
  · rw [if_pos c1]
  · by_cases c2 : p2 < 0
    · rw [if_neg c1, if_pos c2]
    · rcases h with h | h | h
      · exact absurd h c1
      · exact absurd h c2
      · rw [if_neg c1, if_neg c2, if_neg (Int32.not_le.mpr h)]
theorem cr_eventB (l : Launch) (G : gG) (x : Nat → Nat) (cx : (Nat → Int32)) (o : (Nat → Int32)) (st : (Nat → Int32)) (b : (Nat → Nat → Int32)) (pf : (Nat → Nat → Int32)) (g : (Nat → Nat → Int32)) (p1 : Int32) (p2 : Int32) (hok : rok_eventB g p1 p2) : CT l G yX6_event wsX6_event 2 43 [.ref (x 0), .int p1, .int p2] [CW G x cx, OW G (fun k => x (k + 1)) o, AW G (x 2) 9 st, BW G (fun k => x (k + 3)) b, PW G (fun k => x (k + 11)) pf, LW G (fun k => x (k + 16)) g] (some (.int (-2))) [CW G x cx, OW G (fun k => x (k + 1)) o, AW G (x 2) 9 st, BW G (fun k => x (k + 3)) b, PW G (fun k => x (k + 11)) pf, LW G (fun k => x (k + 16)) g] := by
  exact c_X6_event l G x cx o st b pf g p1 p2 _ (re_eventB g p1 p2 hok.2).symm hok.1
def rok_eventN (g : (Nat → Nat → Int32)) (p1 : Int32) (p2 : Int32) : Prop := ok_X6_event g p1 p2 ∧ (¬ p1 < 0 ∧ ¬ p2 < 0 ∧ p2 ≤ 2 ∧ ¬ p1 < g 0 0)
theorem re_eventN (g : (Nat → Nat → Int32)) (p1 : Int32) (p2 : Int32) (h : ¬ p1 < 0 ∧ ¬ p2 < 0 ∧ p2 ≤ 2 ∧ ¬ p1 < g 0 0) : f_X6_event g p1 p2 = (-5) := by
  unfold f_X6_event
  rw [if_neg h.1, if_neg h.2.1, if_pos h.2.2.1, if_neg h.2.2.2]
theorem cr_eventN (l : Launch) (G : gG) (x : Nat → Nat) (cx : (Nat → Int32)) (o : (Nat → Int32)) (st : (Nat → Int32)) (b : (Nat → Nat → Int32)) (pf : (Nat → Nat → Int32)) (g : (Nat → Nat → Int32)) (p1 : Int32) (p2 : Int32) (hok : rok_eventN g p1 p2) : CT l G yX6_event wsX6_event 2 43 [.ref (x 0), .int p1, .int p2] [CW G x cx, OW G (fun k => x (k + 1)) o, AW G (x 2) 9 st, BW G (fun k => x (k + 3)) b, PW G (fun k => x (k + 11)) pf, LW G (fun k => x (k + 16)) g] (some (.int (-5))) [CW G x cx, OW G (fun k => x (k + 1)) o, AW G (x 2) 9 st, BW G (fun k => x (k + 3)) b, PW G (fun k => x (k + 11)) pf, LW G (fun k => x (k + 16)) g] := by
  exact c_X6_event l G x cx o st b pf g p1 p2 _ (re_eventN g p1 p2 hok.2).symm hok.1
def rok_warmest (o : (Nat → Int32)) (st : (Nat → Int32)) (b : (Nat → Nat → Int32)) (pf : (Nat → Nat → Int32)) (g : (Nat → Nat → Int32)) (fo : (Nat → Int32)) (fst : (Nat → Int32)) (fb : (Nat → Nat → Int32)) (fp : (Nat → Nat → Int32)) (fg : (Nat → Nat → Int32)) : Prop := ok_X6_warmest o st b pf g fo fst fb fp fg ∧ (¬ o 0 = 1)
theorem re_warmest (o : (Nat → Int32)) (st : (Nat → Int32)) (b : (Nat → Nat → Int32)) (pf : (Nat → Nat → Int32)) (g : (Nat → Nat → Int32)) (fo : (Nat → Int32)) (fst : (Nat → Int32)) (fb : (Nat → Nat → Int32)) (fp : (Nat → Nat → Int32)) (fg : (Nat → Nat → Int32)) (h : ¬ o 0 = 1) : f_X6_warmest o st b pf g fo fst fb fp fg = ((-4), fo, fst, fb, fp, fg) := by
  unfold f_X6_warmest
  rw [if_neg h]
theorem cr_warmest (l : Launch) (G : gG) (x : Nat → Nat) (cx : (Nat → Int32)) (o : (Nat → Int32)) (st : (Nat → Int32)) (b : (Nat → Nat → Int32)) (pf : (Nat → Nat → Int32)) (g : (Nat → Nat → Int32)) (fo : (Nat → Int32)) (fst : (Nat → Int32)) (fb : (Nat → Nat → Int32)) (fp : (Nat → Nat → Int32)) (fg : (Nat → Nat → Int32)) (hok : rok_warmest o st b pf g fo fst fb fp fg) : CT l G yX6_warmest wsX6_warmest 7 142 [.ref (x 0)] [CW G x cx, OW G (fun k => x (k + 1)) o, AW G (x 2) 9 st, BW G (fun k => x (k + 3)) b, PW G (fun k => x (k + 11)) pf, LW G (fun k => x (k + 16)) g, OW G (fun k => x (k + 20)) fo, AW G (x 21) 9 fst, BW G (fun k => x (k + 22)) fb, PW G (fun k => x (k + 30)) fp, LW G (fun k => x (k + 35)) fg] (some (.int (-4))) [CW G x cx, OW G (fun k => x (k + 1)) o, AW G (x 2) 9 st, BW G (fun k => x (k + 3)) b, PW G (fun k => x (k + 11)) pf, LW G (fun k => x (k + 16)) g, OW G (fun k => x (k + 20)) fo, AW G (x 21) 9 fst, BW G (fun k => x (k + 22)) fb, PW G (fun k => x (k + 30)) fp, LW G (fun k => x (k + 35)) fg] := by
  exact c_X6_warmest l G x cx o st b pf g fo fst fb fp fg _ (re_warmest o st b pf g fo fst fb fp fg hok.2).symm hok.1
def rok_stop (o : (Nat → Int32)) (hh : HVal) : Prop := ok_X6_stop o hh ∧ (o 0 = 0)
theorem re_stop (o : (Nat → Int32)) (st : (Nat → Int32)) (b : (Nat → Nat → Int32)) (pf : (Nat → Nat → Int32)) (g : (Nat → Nat → Int32)) (hh : HVal) (h : o 0 = 0) : f_X6_stop o st b pf g hh = ((-5), o, hh) := by
  unfold f_X6_stop
  rw [q_gLp, if_pos h]
theorem cr_stop (l : Launch) (G : gG) (x : Nat → Nat) (cx : (Nat → Int32)) (o : (Nat → Int32)) (st : (Nat → Int32)) (b : (Nat → Nat → Int32)) (pf : (Nat → Nat → Int32)) (g : (Nat → Nat → Int32)) (hh : HVal) (hok : rok_stop o hh) : CT l G yX6_stop wsX6_stop 4 81 [.ref (x 0)] [CW G x cx, OW G (fun k => x (k + 1)) o, AW G (x 2) 9 st, BW G (fun k => x (k + 3)) b, PW G (fun k => x (k + 11)) pf, LW G (fun k => x (k + 16)) g, HGW G (fun k => x (k + 58)) hh] (some (.int (-5))) [CW G x cx, OW G (fun k => x (k + 1)) o, AW G (x 2) 9 st, BW G (fun k => x (k + 3)) b, PW G (fun k => x (k + 11)) pf, LW G (fun k => x (k + 16)) g, HGW G (fun k => x (k + 58)) hh] := by
  exact c_X6_stop l G x cx o st b pf g hh _ (re_stop o st b pf g hh hok.2).symm hok.1
def rok_count0 (b : (Nat → Nat → Int32)) : Prop := ok_X6_count b 0 ∧ (True)
theorem re_count0 (o : (Nat → Int32)) (st : (Nat → Int32)) (b : (Nat → Nat → Int32)) (pf : (Nat → Nat → Int32)) (hh : HVal) (t : (Nat → Nat → Int32)) (h : True) : f_X6_count o st b pf hh t 0 = (o 3) := by
  unfold f_X6_count
  rw [if_pos rfl]
theorem cr_count0 (l : Launch) (G : gG) (x : Nat → Nat) (cx : (Nat → Int32)) (o : (Nat → Int32)) (st : (Nat → Int32)) (b : (Nat → Nat → Int32)) (pf : (Nat → Nat → Int32)) (g : (Nat → Nat → Int32)) (hh : HVal) (t : (Nat → Nat → Int32)) (hok : rok_count0 b) : CT l G yX6_count wsX6_count 2 42 [.ref (x 0), .int 0] [CW G x cx, OW G (fun k => x (k + 1)) o, AW G (x 2) 9 st, BW G (fun k => x (k + 3)) b, PW G (fun k => x (k + 11)) pf, LW G (fun k => x (k + 16)) g, HGW G (fun k => x (k + 58)) hh, TW G (fun k => x (k + 136)) t] (some (.int (o 3))) [CW G x cx, OW G (fun k => x (k + 1)) o, AW G (x 2) 9 st, BW G (fun k => x (k + 3)) b, PW G (fun k => x (k + 11)) pf, LW G (fun k => x (k + 16)) g, HGW G (fun k => x (k + 58)) hh, TW G (fun k => x (k + 136)) t] := by
  exact c_X6_count l G x cx o st b pf g hh t (0) _ (re_count0 o st b pf hh t hok.2).symm hok.1
def rok_count1 (b : (Nat → Nat → Int32)) : Prop := ok_X6_count b 1 ∧ (True)
theorem re_count1 (o : (Nat → Int32)) (st : (Nat → Int32)) (b : (Nat → Nat → Int32)) (pf : (Nat → Nat → Int32)) (hh : HVal) (t : (Nat → Nat → Int32)) (h : True) : f_X6_count o st b pf hh t 1 = (b 0 0) := by
  unfold f_X6_count
  rw [if_neg (by decide), if_pos rfl]
theorem cr_count1 (l : Launch) (G : gG) (x : Nat → Nat) (cx : (Nat → Int32)) (o : (Nat → Int32)) (st : (Nat → Int32)) (b : (Nat → Nat → Int32)) (pf : (Nat → Nat → Int32)) (g : (Nat → Nat → Int32)) (hh : HVal) (t : (Nat → Nat → Int32)) (hok : rok_count1 b) : CT l G yX6_count wsX6_count 2 42 [.ref (x 0), .int 1] [CW G x cx, OW G (fun k => x (k + 1)) o, AW G (x 2) 9 st, BW G (fun k => x (k + 3)) b, PW G (fun k => x (k + 11)) pf, LW G (fun k => x (k + 16)) g, HGW G (fun k => x (k + 58)) hh, TW G (fun k => x (k + 136)) t] (some (.int (b 0 0))) [CW G x cx, OW G (fun k => x (k + 1)) o, AW G (x 2) 9 st, BW G (fun k => x (k + 3)) b, PW G (fun k => x (k + 11)) pf, LW G (fun k => x (k + 16)) g, HGW G (fun k => x (k + 58)) hh, TW G (fun k => x (k + 136)) t] := by
  exact c_X6_count l G x cx o st b pf g hh t (1) _ (re_count1 o st b pf hh t hok.2).symm hok.1
def rok_count2 (b : (Nat → Nat → Int32)) : Prop := ok_X6_count b 2 ∧ (True)
theorem re_count2 (o : (Nat → Int32)) (st : (Nat → Int32)) (b : (Nat → Nat → Int32)) (pf : (Nat → Nat → Int32)) (hh : HVal) (t : (Nat → Nat → Int32)) (h : True) : f_X6_count o st b pf hh t 2 = (pf 0 0) := by
  unfold f_X6_count
  rw [if_neg (by decide), if_neg (by decide), if_pos rfl]
theorem cr_count2 (l : Launch) (G : gG) (x : Nat → Nat) (cx : (Nat → Int32)) (o : (Nat → Int32)) (st : (Nat → Int32)) (b : (Nat → Nat → Int32)) (pf : (Nat → Nat → Int32)) (g : (Nat → Nat → Int32)) (hh : HVal) (t : (Nat → Nat → Int32)) (hok : rok_count2 b) : CT l G yX6_count wsX6_count 2 42 [.ref (x 0), .int 2] [CW G x cx, OW G (fun k => x (k + 1)) o, AW G (x 2) 9 st, BW G (fun k => x (k + 3)) b, PW G (fun k => x (k + 11)) pf, LW G (fun k => x (k + 16)) g, HGW G (fun k => x (k + 58)) hh, TW G (fun k => x (k + 136)) t] (some (.int (pf 0 0))) [CW G x cx, OW G (fun k => x (k + 1)) o, AW G (x 2) 9 st, BW G (fun k => x (k + 3)) b, PW G (fun k => x (k + 11)) pf, LW G (fun k => x (k + 16)) g, HGW G (fun k => x (k + 58)) hh, TW G (fun k => x (k + 136)) t] := by
  exact c_X6_count l G x cx o st b pf g hh t (2) _ (re_count2 o st b pf hh t hok.2).symm hok.1
def rok_count3 (b : (Nat → Nat → Int32)) (o : (Nat → Int32)) : Prop := ok_X6_count b 3 ∧ (o 0 = 0)
theorem re_count3 (o : (Nat → Int32)) (st : (Nat → Int32)) (b : (Nat → Nat → Int32)) (pf : (Nat → Nat → Int32)) (hh : HVal) (t : (Nat → Nat → Int32)) (h : o 0 = 0) : f_X6_count o st b pf hh t 3 = 0 := by
  unfold f_X6_count
  rw [if_neg (by decide), if_neg (by decide), if_neg (by decide), if_pos rfl]
  exact h
theorem cr_count3 (l : Launch) (G : gG) (x : Nat → Nat) (cx : (Nat → Int32)) (o : (Nat → Int32)) (st : (Nat → Int32)) (b : (Nat → Nat → Int32)) (pf : (Nat → Nat → Int32)) (g : (Nat → Nat → Int32)) (hh : HVal) (t : (Nat → Nat → Int32)) (hok : rok_count3 b o) : CT l G yX6_count wsX6_count 2 42 [.ref (x 0), .int 3] [CW G x cx, OW G (fun k => x (k + 1)) o, AW G (x 2) 9 st, BW G (fun k => x (k + 3)) b, PW G (fun k => x (k + 11)) pf, LW G (fun k => x (k + 16)) g, HGW G (fun k => x (k + 58)) hh, TW G (fun k => x (k + 136)) t] (some (.int 0)) [CW G x cx, OW G (fun k => x (k + 1)) o, AW G (x 2) 9 st, BW G (fun k => x (k + 3)) b, PW G (fun k => x (k + 11)) pf, LW G (fun k => x (k + 16)) g, HGW G (fun k => x (k + 58)) hh, TW G (fun k => x (k + 136)) t] := by
  exact c_X6_count l G x cx o st b pf g hh t (3) _ (re_count3 o st b pf hh t hok.2).symm hok.1
def rok_count12 (b : (Nat → Nat → Int32)) : Prop := ok_X6_count b 12 ∧ (True)
theorem re_count12 (o : (Nat → Int32)) (st : (Nat → Int32)) (b : (Nat → Nat → Int32)) (pf : (Nat → Nat → Int32)) (hh : HVal) (t : (Nat → Nat → Int32)) (h : True) : f_X6_count o st b pf hh t 12 = (nI hh.1) := by
  unfold f_X6_count
  rw [if_neg (by decide), if_neg (by decide), if_neg (by decide), if_neg (by decide), if_neg (by decide), if_neg (by decide), if_neg (by decide), if_neg (by decide), if_neg (by decide), if_neg (by decide), if_neg (by decide), if_neg (by decide), if_pos rfl]
theorem cr_count12 (l : Launch) (G : gG) (x : Nat → Nat) (cx : (Nat → Int32)) (o : (Nat → Int32)) (st : (Nat → Int32)) (b : (Nat → Nat → Int32)) (pf : (Nat → Nat → Int32)) (g : (Nat → Nat → Int32)) (hh : HVal) (t : (Nat → Nat → Int32)) (hok : rok_count12 b) : CT l G yX6_count wsX6_count 2 42 [.ref (x 0), .int 12] [CW G x cx, OW G (fun k => x (k + 1)) o, AW G (x 2) 9 st, BW G (fun k => x (k + 3)) b, PW G (fun k => x (k + 11)) pf, LW G (fun k => x (k + 16)) g, HGW G (fun k => x (k + 58)) hh, TW G (fun k => x (k + 136)) t] (some (.int (nI hh.1))) [CW G x cx, OW G (fun k => x (k + 1)) o, AW G (x 2) 9 st, BW G (fun k => x (k + 3)) b, PW G (fun k => x (k + 11)) pf, LW G (fun k => x (k + 16)) g, HGW G (fun k => x (k + 58)) hh, TW G (fun k => x (k + 136)) t] := by
  exact c_X6_count l G x cx o st b pf g hh t (12) _ (re_count12 o st b pf hh t hok.2).symm hok.1
def rok_count13 (b : (Nat → Nat → Int32)) : Prop := ok_X6_count b 13 ∧ (True)
theorem re_count13 (o : (Nat → Int32)) (st : (Nat → Int32)) (b : (Nat → Nat → Int32)) (pf : (Nat → Nat → Int32)) (hh : HVal) (t : (Nat → Nat → Int32)) (h : True) : f_X6_count o st b pf hh t 13 = (t 0 0) := by
  unfold f_X6_count
  rw [if_neg (by decide), if_neg (by decide), if_neg (by decide), if_neg (by decide), if_neg (by decide), if_neg (by decide), if_neg (by decide), if_neg (by decide), if_neg (by decide), if_neg (by decide), if_neg (by decide), if_neg (by decide), if_neg (by decide), if_pos rfl]
theorem cr_count13 (l : Launch) (G : gG) (x : Nat → Nat) (cx : (Nat → Int32)) (o : (Nat → Int32)) (st : (Nat → Int32)) (b : (Nat → Nat → Int32)) (pf : (Nat → Nat → Int32)) (g : (Nat → Nat → Int32)) (hh : HVal) (t : (Nat → Nat → Int32)) (hok : rok_count13 b) : CT l G yX6_count wsX6_count 2 42 [.ref (x 0), .int 13] [CW G x cx, OW G (fun k => x (k + 1)) o, AW G (x 2) 9 st, BW G (fun k => x (k + 3)) b, PW G (fun k => x (k + 11)) pf, LW G (fun k => x (k + 16)) g, HGW G (fun k => x (k + 58)) hh, TW G (fun k => x (k + 136)) t] (some (.int (t 0 0))) [CW G x cx, OW G (fun k => x (k + 1)) o, AW G (x 2) 9 st, BW G (fun k => x (k + 3)) b, PW G (fun k => x (k + 11)) pf, LW G (fun k => x (k + 16)) g, HGW G (fun k => x (k + 58)) hh, TW G (fun k => x (k + 136)) t] := by
  exact c_X6_count l G x cx o st b pf g hh t (13) _ (re_count13 o st b pf hh t hok.2).symm hok.1
def rok_countB (b : (Nat → Nat → Int32)) (p1 : Int32) : Prop := ok_X6_count b p1 ∧ (p1 = -1 ∨ p1 = 14)
theorem re_countB (o : (Nat → Int32)) (st : (Nat → Int32)) (b : (Nat → Nat → Int32)) (pf : (Nat → Nat → Int32)) (hh : HVal) (t : (Nat → Nat → Int32)) (p1 : Int32) (h : p1 = -1 ∨ p1 = 14) : f_X6_count o st b pf hh t p1 = (-2) := by
  unfold f_X6_count
  rcases h with h | h <;> subst h <;> rw [if_neg (by decide), if_neg (by decide), if_neg (by decide), if_neg (by decide), if_neg (by decide), if_neg (by decide), if_neg (by decide), if_neg (by decide), if_neg (by decide), if_neg (by decide), if_neg (by decide), if_neg (by decide), if_neg (by decide), if_neg (by decide)]
theorem cr_countB (l : Launch) (G : gG) (x : Nat → Nat) (cx : (Nat → Int32)) (o : (Nat → Int32)) (st : (Nat → Int32)) (b : (Nat → Nat → Int32)) (pf : (Nat → Nat → Int32)) (g : (Nat → Nat → Int32)) (hh : HVal) (t : (Nat → Nat → Int32)) (p1 : Int32) (hok : rok_countB b p1) : CT l G yX6_count wsX6_count 2 42 [.ref (x 0), .int p1] [CW G x cx, OW G (fun k => x (k + 1)) o, AW G (x 2) 9 st, BW G (fun k => x (k + 3)) b, PW G (fun k => x (k + 11)) pf, LW G (fun k => x (k + 16)) g, HGW G (fun k => x (k + 58)) hh, TW G (fun k => x (k + 136)) t] (some (.int (-2))) [CW G x cx, OW G (fun k => x (k + 1)) o, AW G (x 2) 9 st, BW G (fun k => x (k + 3)) b, PW G (fun k => x (k + 11)) pf, LW G (fun k => x (k + 16)) g, HGW G (fun k => x (k + 58)) hh, TW G (fun k => x (k + 136)) t] := by
  exact c_X6_count l G x cx o st b pf g hh t p1 _ (re_countB o st b pf hh t p1 hok.2).symm hok.1
