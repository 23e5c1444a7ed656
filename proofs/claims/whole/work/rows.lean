section
-- ===== PART A: goes FIRST, ahead of the names: the tables' words, and 'selects' of the private methods out of them =====
/-- a private method of a class that the tables say can be made, by its rows of tables_1 -/
def lw_okq (q : MethodName × Nat) : Prop := (q.1.cls ≠ "java/lang/invoke/MethodHandle" ∧ q.1.cls ≠ "java/lang/invoke/VarHandle") ∧ Cond.instantiable q.1.cls q.2 ∈ tables_1 ∧ Cond.privateMethod q.1 ∈ tables_1 ∧ Cond.instanceMethod q.1 ∈ tables_1
theorem lw_p0 : lw_okq (⟨"ChargeStages$History", "dropOldest", "()V"⟩, 2) := ⟨⟨by decide +kernel, by decide +kernel⟩, List.mem_of_getElem? (i := 175) (by decide +kernel), List.mem_of_getElem? (i := 252) (by decide +kernel), List.mem_of_getElem? (i := 253) (by decide +kernel)⟩
theorem lw_p1 : lw_okq (⟨"ChargeStages$Text", "readStage", "(LChargeStages$Profile;)Z"⟩, 3) := ⟨⟨by decide +kernel, by decide +kernel⟩, List.mem_of_getElem? (i := 192) (by decide +kernel), List.mem_of_getElem? (i := 332) (by decide +kernel), List.mem_of_getElem? (i := 333) (by decide +kernel)⟩
theorem lw_p2 : lw_okq (⟨"ChargeStages$Text", "accepts", "(C)Z"⟩, 3) := ⟨⟨by decide +kernel, by decide +kernel⟩, List.mem_of_getElem? (i := 192) (by decide +kernel), List.mem_of_getElem? (i := 336) (by decide +kernel), List.mem_of_getElem? (i := 337) (by decide +kernel)⟩
theorem lw_p3 : lw_okq (⟨"ChargeStages$Text", "readPair", "(LChargeStages$Profile;I)Z"⟩, 3) := ⟨⟨by decide +kernel, by decide +kernel⟩, List.mem_of_getElem? (i := 192) (by decide +kernel), List.mem_of_getElem? (i := 344) (by decide +kernel), List.mem_of_getElem? (i := 345) (by decide +kernel)⟩
theorem lw_p4 : lw_okq (⟨"ChargeStages$Text", "readFirst", "(LChargeStages$Profile;I)Z"⟩, 3) := ⟨⟨by decide +kernel, by decide +kernel⟩, List.mem_of_getElem? (i := 192) (by decide +kernel), List.mem_of_getElem? (i := 348) (by decide +kernel), List.mem_of_getElem? (i := 349) (by decide +kernel)⟩
theorem lw_p5 : lw_okq (⟨"ChargeStages$Text", "readNumber", "(C)I"⟩, 3) := ⟨⟨by decide +kernel, by decide +kernel⟩, List.mem_of_getElem? (i := 192) (by decide +kernel), List.mem_of_getElem? (i := 352) (by decide +kernel), List.mem_of_getElem? (i := 353) (by decide +kernel)⟩
theorem lw_p6 : lw_okq (⟨"ChargeStages$Text", "isDigitAhead", "(C)Z"⟩, 3) := ⟨⟨by decide +kernel, by decide +kernel⟩, List.mem_of_getElem? (i := 192) (by decide +kernel), List.mem_of_getElem? (i := 356) (by decide +kernel), List.mem_of_getElem? (i := 357) (by decide +kernel)⟩
theorem lw_p7 : lw_okq (⟨"ChargeStages$Text", "readTimer", "(LChargeStages$Profile;I)Z"⟩, 3) := ⟨⟨by decide +kernel, by decide +kernel⟩, List.mem_of_getElem? (i := 192) (by decide +kernel), List.mem_of_getElem? (i := 360) (by decide +kernel), List.mem_of_getElem? (i := 361) (by decide +kernel)⟩
theorem lw_p8 : lw_okq (⟨"ChargeStages$Profile", "hasNumbersInRange", "(I)Z"⟩, 5) := ⟨⟨by decide +kernel, by decide +kernel⟩, List.mem_of_getElem? (i := 66) (by decide +kernel), List.mem_of_getElem? (i := 368) (by decide +kernel), List.mem_of_getElem? (i := 369) (by decide +kernel)⟩
theorem lw_p9 : lw_okq (⟨"ChargeStages$State", "begin", "(I)V"⟩, 12) := ⟨⟨by decide +kernel, by decide +kernel⟩, List.mem_of_getElem? (i := 20) (by decide +kernel), List.mem_of_getElem? (i := 384) (by decide +kernel), List.mem_of_getElem? (i := 385) (by decide +kernel)⟩
theorem lw_p10 : lw_okq (⟨"ChargeStages$State", "passOneTick", "()V"⟩, 12) := ⟨⟨by decide +kernel, by decide +kernel⟩, List.mem_of_getElem? (i := 20) (by decide +kernel), List.mem_of_getElem? (i := 405) (by decide +kernel), List.mem_of_getElem? (i := 406) (by decide +kernel)⟩
theorem lw_p11 : lw_okq (⟨"ChargeStages$State", "countPausedTick", "()V"⟩, 12) := ⟨⟨by decide +kernel, by decide +kernel⟩, List.mem_of_getElem? (i := 20) (by decide +kernel), List.mem_of_getElem? (i := 414) (by decide +kernel), List.mem_of_getElem? (i := 415) (by decide +kernel)⟩
theorem lw_p12 : lw_okq (⟨"ChargeStages$State", "charge", "()V"⟩, 12) := ⟨⟨by decide +kernel, by decide +kernel⟩, List.mem_of_getElem? (i := 20) (by decide +kernel), List.mem_of_getElem? (i := 418) (by decide +kernel), List.mem_of_getElem? (i := 419) (by decide +kernel)⟩
theorem lw_p13 : lw_okq (⟨"ChargeStages$State", "heldCurrent", "(I)I"⟩, 12) := ⟨⟨by decide +kernel, by decide +kernel⟩, List.mem_of_getElem? (i := 20) (by decide +kernel), List.mem_of_getElem? (i := 445) (by decide +kernel), List.mem_of_getElem? (i := 446) (by decide +kernel)⟩
theorem lw_p14 : lw_okq (⟨"ChargeStages$State", "endsBehind", "(I)Z"⟩, 12) := ⟨⟨by decide +kernel, by decide +kernel⟩, List.mem_of_getElem? (i := 20) (by decide +kernel), List.mem_of_getElem? (i := 454) (by decide +kernel), List.mem_of_getElem? (i := 455) (by decide +kernel)⟩
theorem lw_p15 : lw_okq (⟨"ChargeStages$State", "endStage", "()V"⟩, 12) := ⟨⟨by decide +kernel, by decide +kernel⟩, List.mem_of_getElem? (i := 20) (by decide +kernel), List.mem_of_getElem? (i := 458) (by decide +kernel), List.mem_of_getElem? (i := 459) (by decide +kernel)⟩
def lw_privs_1 : List (MethodName × Nat) := [(⟨"ChargeStages$History", "dropOldest", "()V"⟩, 2), (⟨"ChargeStages$Text", "readStage", "(LChargeStages$Profile;)Z"⟩, 3), (⟨"ChargeStages$Text", "accepts", "(C)Z"⟩, 3), (⟨"ChargeStages$Text", "readPair", "(LChargeStages$Profile;I)Z"⟩, 3), (⟨"ChargeStages$Text", "readFirst", "(LChargeStages$Profile;I)Z"⟩, 3), (⟨"ChargeStages$Text", "readNumber", "(C)I"⟩, 3), (⟨"ChargeStages$Text", "isDigitAhead", "(C)Z"⟩, 3), (⟨"ChargeStages$Text", "readTimer", "(LChargeStages$Profile;I)Z"⟩, 3), (⟨"ChargeStages$Profile", "hasNumbersInRange", "(I)Z"⟩, 5), (⟨"ChargeStages$State", "begin", "(I)V"⟩, 12), (⟨"ChargeStages$State", "passOneTick", "()V"⟩, 12), (⟨"ChargeStages$State", "countPausedTick", "()V"⟩, 12), (⟨"ChargeStages$State", "charge", "()V"⟩, 12), (⟨"ChargeStages$State", "heldCurrent", "(I)I"⟩, 12), (⟨"ChargeStages$State", "endsBehind", "(I)Z"⟩, 12), (⟨"ChargeStages$State", "endStage", "()V"⟩, 12)]
theorem lw_r1 : ∀ q ∈ lw_privs_1, lw_okq q := List.forall_mem_cons.mpr ⟨lw_p0, List.forall_mem_cons.mpr ⟨lw_p1, List.forall_mem_cons.mpr ⟨lw_p2, List.forall_mem_cons.mpr ⟨lw_p3, List.forall_mem_cons.mpr ⟨lw_p4, List.forall_mem_cons.mpr ⟨lw_p5, List.forall_mem_cons.mpr ⟨lw_p6, List.forall_mem_cons.mpr ⟨lw_p7, List.forall_mem_cons.mpr ⟨lw_p8, List.forall_mem_cons.mpr ⟨lw_p9, List.forall_mem_cons.mpr ⟨lw_p10, List.forall_mem_cons.mpr ⟨lw_p11, List.forall_mem_cons.mpr ⟨lw_p12, List.forall_mem_cons.mpr ⟨lw_p13, List.forall_mem_cons.mpr ⟨lw_p14, List.forall_mem_cons.mpr ⟨lw_p15, fun _ h => absurd h List.not_mem_nil⟩⟩⟩⟩⟩⟩⟩⟩⟩⟩⟩⟩⟩⟩⟩⟩
theorem lw_p16 : lw_okq (⟨"ChargeStages$State", "hasRunOut", "()Z"⟩, 12) := ⟨⟨by decide +kernel, by decide +kernel⟩, List.mem_of_getElem? (i := 20) (by decide +kernel), List.mem_of_getElem? (i := 462) (by decide +kernel), List.mem_of_getElem? (i := 463) (by decide +kernel)⟩
theorem lw_p17 : lw_okq (⟨"ChargeStagesModel", "records", "()V"⟩, 12) := ⟨⟨by decide +kernel, by decide +kernel⟩, List.mem_of_getElem? (i := 560) (by decide +kernel), List.mem_of_getElem? (i := 618) (by decide +kernel), List.mem_of_getElem? (i := 619) (by decide +kernel)⟩
theorem lw_p18 : lw_okq (⟨"ChargeStagesModel", "isCell", "(I)Z"⟩, 12) := ⟨⟨by decide +kernel, by decide +kernel⟩, List.mem_of_getElem? (i := 560) (by decide +kernel), List.mem_of_getElem? (i := 633) (by decide +kernel), List.mem_of_getElem? (i := 634) (by decide +kernel)⟩
theorem lw_p19 : lw_okq (⟨"ChargeStagesModel", "cannotBe", "(II)Z"⟩, 12) := ⟨⟨by decide +kernel, by decide +kernel⟩, List.mem_of_getElem? (i := 560) (by decide +kernel), List.mem_of_getElem? (i := 654) (by decide +kernel), List.mem_of_getElem? (i := 655) (by decide +kernel)⟩
theorem lw_p20 : lw_okq (⟨"ChargeStagesModel", "readsText", "()Z"⟩, 12) := ⟨⟨by decide +kernel, by decide +kernel⟩, List.mem_of_getElem? (i := 560) (by decide +kernel), List.mem_of_getElem? (i := 734) (by decide +kernel), List.mem_of_getElem? (i := 735) (by decide +kernel)⟩
theorem lw_p21 : lw_okq (⟨"ChargeStagesModel", "takesStage", "()Z"⟩, 12) := ⟨⟨by decide +kernel, by decide +kernel⟩, List.mem_of_getElem? (i := 560) (by decide +kernel), List.mem_of_getElem? (i := 738) (by decide +kernel), List.mem_of_getElem? (i := 739) (by decide +kernel)⟩
theorem lw_p22 : lw_okq (⟨"ChargeStagesModel", "takes", "(I)Z"⟩, 12) := ⟨⟨by decide +kernel, by decide +kernel⟩, List.mem_of_getElem? (i := 560) (by decide +kernel), List.mem_of_getElem? (i := 742) (by decide +kernel), List.mem_of_getElem? (i := 743) (by decide +kernel)⟩
theorem lw_p23 : lw_okq (⟨"ChargeStagesModel", "sees", "(II)Z"⟩, 12) := ⟨⟨by decide +kernel, by decide +kernel⟩, List.mem_of_getElem? (i := 560) (by decide +kernel), List.mem_of_getElem? (i := 746) (by decide +kernel), List.mem_of_getElem? (i := 747) (by decide +kernel)⟩
theorem lw_p24 : lw_okq (⟨"ChargeStagesModel", "takesNumber", "(I)Z"⟩, 12) := ⟨⟨by decide +kernel, by decide +kernel⟩, List.mem_of_getElem? (i := 560) (by decide +kernel), List.mem_of_getElem? (i := 750) (by decide +kernel), List.mem_of_getElem? (i := 751) (by decide +kernel)⟩
theorem lw_p25 : lw_okq (⟨"ChargeStagesModel", "isGood", "(I)Z"⟩, 12) := ⟨⟨by decide +kernel, by decide +kernel⟩, List.mem_of_getElem? (i := 560) (by decide +kernel), List.mem_of_getElem? (i := 754) (by decide +kernel), List.mem_of_getElem? (i := 755) (by decide +kernel)⟩
theorem lw_p26 : lw_okq (⟨"ChargeStagesModel", "doneBy", "(I)I"⟩, 12) := ⟨⟨by decide +kernel, by decide +kernel⟩, List.mem_of_getElem? (i := 560) (by decide +kernel), List.mem_of_getElem? (i := 782) (by decide +kernel), List.mem_of_getElem? (i := 783) (by decide +kernel)⟩
def lw_privs_2 : List (MethodName × Nat) := [(⟨"ChargeStages$State", "hasRunOut", "()Z"⟩, 12), (⟨"ChargeStagesModel", "records", "()V"⟩, 12), (⟨"ChargeStagesModel", "isCell", "(I)Z"⟩, 12), (⟨"ChargeStagesModel", "cannotBe", "(II)Z"⟩, 12), (⟨"ChargeStagesModel", "readsText", "()Z"⟩, 12), (⟨"ChargeStagesModel", "takesStage", "()Z"⟩, 12), (⟨"ChargeStagesModel", "takes", "(I)Z"⟩, 12), (⟨"ChargeStagesModel", "sees", "(II)Z"⟩, 12), (⟨"ChargeStagesModel", "takesNumber", "(I)Z"⟩, 12), (⟨"ChargeStagesModel", "isGood", "(I)Z"⟩, 12), (⟨"ChargeStagesModel", "doneBy", "(I)I"⟩, 12)]
theorem lw_r2 : ∀ q ∈ lw_privs_2, lw_okq q := List.forall_mem_cons.mpr ⟨lw_p16, List.forall_mem_cons.mpr ⟨lw_p17, List.forall_mem_cons.mpr ⟨lw_p18, List.forall_mem_cons.mpr ⟨lw_p19, List.forall_mem_cons.mpr ⟨lw_p20, List.forall_mem_cons.mpr ⟨lw_p21, List.forall_mem_cons.mpr ⟨lw_p22, List.forall_mem_cons.mpr ⟨lw_p23, List.forall_mem_cons.mpr ⟨lw_p24, List.forall_mem_cons.mpr ⟨lw_p25, List.forall_mem_cons.mpr ⟨lw_p26, fun _ h => absurd h List.not_mem_nil⟩⟩⟩⟩⟩⟩⟩⟩⟩⟩⟩
def lw_privs : List (MethodName × Nat) := lw_privs_1 ++ (lw_privs_2)
def lw_tbl : List Cond := k2_sels lw_privs ++ tables_1
theorem lw_privs_ok : ∀ q ∈ lw_privs, lw_okq q := by
  show ∀ q ∈ lw_privs_1 ++ (lw_privs_2), lw_okq q
  exact List.forall_mem_append.mpr ⟨lw_r1, lw_r2⟩
/-! ===== BEGIN words of one list among another's, by their places ===== -/
theorem goodIn_r {big : List Cond} (ws : List Cond) (ps : List Nat) (hp : ws = ps.filterMap (fun i => big[i]?)) (h : ws.all goodWord = true) : GoodIn big ws := by
  intro w hw
  have h1 := List.all_eq_true.mp h w hw
  rw [hp] at hw
  obtain ⟨i, -, hi⟩ := List.mem_filterMap.mp hw
  have hm : w ∈ big := by first | exact List.mem_of_getElem? hi | exact List.getElem?_mem hi
  exact ⟨hm, good_of_word h1⟩
theorem goodIn_app {big a b : List Cond} (ha : GoodIn big a) (hb : GoodIn big b) : GoodIn big (a ++ b) := fun w h => (List.mem_append.mp h).elim (ha w) (hb w)
theorem goodIn_ca {big a b : List Cond} {c : Cond} (ha : GoodIn big (c :: a)) (hb : GoodIn big b) : GoodIn big (c :: (a ++ b)) := fun w h => (List.mem_cons.mp h).elim (fun e => ha w (List.mem_cons.mpr (Or.inl e))) (fun h => (List.mem_append.mp h).elim (fun h => ha w (List.mem_cons.mpr (Or.inr h))) (hb w))
theorem goodIn_sub {big ws : List Cond} (hm : ∀ w ∈ ws, w ∈ big) (h : ws.all goodWord = true) : GoodIn big ws := fun w hw => ⟨hm w hw, good_of_word (List.all_eq_true.mp h w hw)⟩
/-! ===== END ===== -/

/-! ===== BEGIN printed: names, fields, word lists, decode rows ===== -/
def RX0 : String := "ChargeStages$Battery"
def TX0 : u_T := fun k => match k with
  | 0 => ("ChargeStages$Battery", "cells", "I", false)
  | 1 => ("ChargeStages$Battery", "charge", "[I", true)
  | 2 => ("ChargeStages$Battery", "rest", "[I", true)
  | 3 => ("ChargeStages$Battery", "cameIn", "[I", true)
  | 4 => ("ChargeStages$Battery", "stored", "[I", true)
  | 5 => ("ChargeStages$Battery", "spilled", "[I", true)
  | 6 => ("ChargeStages$Battery", "bled", "[I", true)
  | _ => ("ChargeStages$Battery", "used", "[I", true)
def tyX0 : Nat → FieldType := fun k => match k with
  | 0 => .int
  | 1 => .array .int
  | 2 => .array .int
  | 3 => .array .int
  | 4 => .array .int
  | 5 => .array .int
  | 6 => .array .int
  | _ => .array .int
abbrev wsX00 : List Cond := u_ws RX0 TX0 8
theorem nmX0 : ∀ a, a < 8 → ∀ b, b < 8 → a ≠ b → (TX0 a).2.1 ≠ (TX0 b).2.1 := by decide +kernel
theorem tyX0_ok : ∀ k, k < 8 → parseFieldDescriptor (TX0 k).2.2.1 = some (tyX0 k) := by decide +kernel
abbrev cX0_init : ByteArray := prog_2_method_1_code
def yX0_init : MethodName := ⟨RX0, "<init>", "()V"⟩
abbrev cX0_has : ByteArray := prog_2_method_2_code
def yX0_has : MethodName := ⟨RX0, "has", "(I)Z"⟩
abbrev cX0_putEmpty : ByteArray := prog_2_method_3_code
def yX0_putEmpty : MethodName := ⟨RX0, "putEmpty", "(I)V"⟩
abbrev cX0_copyFrom : ByteArray := prog_2_method_4_code
def yX0_copyFrom : MethodName := ⟨RX0, "copyFrom", "(LChargeStages$Battery;)V"⟩
abbrev cX0_leastCharge : ByteArray := prog_2_method_5_code
def yX0_leastCharge : MethodName := ⟨RX0, "leastCharge", "()I"⟩
abbrev cX0_greatestCharge : ByteArray := prog_2_method_6_code
def yX0_greatestCharge : MethodName := ⟨RX0, "greatestCharge", "()I"⟩
abbrev cX0_draw : ByteArray := prog_2_method_7_code
def yX0_draw : MethodName := ⟨RX0, "draw", "(I)V"⟩
abbrev cX0_takeIn : ByteArray := prog_2_method_8_code
def yX0_takeIn : MethodName := ⟨RX0, "takeIn", "(III)V"⟩
abbrev cX0_loseTo : ByteArray := prog_2_method_9_code
def yX0_loseTo : MethodName := ⟨RX0, "loseTo", "(III)V"⟩
def RX1 : String := "ChargeStages$History"
def TX1 : u_T := fun k => match k with
  | 0 => ("ChargeStages$History", "states", "I", false)
  | _ => ("ChargeStages$History", "kept", "[LChargeStages$State;", true)
def tyX1 : Nat → FieldType := fun k => match k with
  | 0 => .int
  | _ => .array (.object "ChargeStages$State")
abbrev wsX10 : List Cond := u_ws RX1 TX1 2
theorem nmX1 : ∀ a, a < 2 → ∀ b, b < 2 → a ≠ b → (TX1 a).2.1 ≠ (TX1 b).2.1 := by decide +kernel
theorem tyX1_ok : ∀ k, k < 2 → parseFieldDescriptor (TX1 k).2.2.1 = some (tyX1 k) := by decide +kernel
abbrev cX1_init : ByteArray := prog_3_method_1_code
def yX1_init : MethodName := ⟨RX1, "<init>", "()V"⟩
abbrev cX1_add : ByteArray := prog_3_method_2_code
def yX1_add : MethodName := ⟨RX1, "add", "(LChargeStages$State;)V"⟩
abbrev cX1_dropOldest : ByteArray := prog_3_method_3_code
def yX1_dropOldest : MethodName := ⟨RX1, "dropOldest", "()V"⟩
abbrev cX1_takeInto : ByteArray := prog_3_method_4_code
def yX1_takeInto : MethodName := ⟨RX1, "takeInto", "(LChargeStages$State;)V"⟩
def RX2 : String := "ChargeStages$Log"
def TX2 : u_T := fun k => match k with
  | 0 => ("ChargeStages$Log", "events", "I", false)
  | 1 => ("ChargeStages$Log", "next", "I", false)
  | 2 => ("ChargeStages$Log", "kind", "[I", true)
  | 3 => ("ChargeStages$Log", "tick", "[I", true)
  | _ => ("ChargeStages$Log", "stage", "[I", true)
def tyX2 : Nat → FieldType := fun k => match k with
  | 0 => .int
  | 1 => .int
  | 2 => .array .int
  | 3 => .array .int
  | _ => .array .int
abbrev wsX20 : List Cond := u_ws RX2 TX2 5
theorem nmX2 : ∀ a, a < 5 → ∀ b, b < 5 → a ≠ b → (TX2 a).2.1 ≠ (TX2 b).2.1 := by decide +kernel
theorem tyX2_ok : ∀ k, k < 5 → parseFieldDescriptor (TX2 k).2.2.1 = some (tyX2 k) := by decide +kernel
abbrev cX2_init : ByteArray := prog_4_method_1_code
def yX2_init : MethodName := ⟨RX2, "<init>", "()V"⟩
abbrev cX2_add : ByteArray := prog_4_method_2_code
def yX2_add : MethodName := ⟨RX2, "add", "(III)V"⟩
abbrev cX2_placeOf : ByteArray := prog_4_method_3_code
def yX2_placeOf : MethodName := ⟨RX2, "placeOf", "(I)I"⟩
abbrev cX2_copyFrom : ByteArray := prog_4_method_4_code
def yX2_copyFrom : MethodName := ⟨RX2, "copyFrom", "(LChargeStages$Log;)V"⟩
def RX3 : String := "ChargeStages$Profile"
def TX3 : u_T := fun k => match k with
  | 0 => ("ChargeStages$Profile", "stages", "I", false)
  | 1 => ("ChargeStages$Profile", "kind", "[I", true)
  | 2 => ("ChargeStages$Profile", "first", "[I", true)
  | 3 => ("ChargeStages$Profile", "second", "[I", true)
  | _ => ("ChargeStages$Profile", "timer", "[I", true)
def tyX3 : Nat → FieldType := fun k => match k with
  | 0 => .int
  | 1 => .array .int
  | 2 => .array .int
  | 3 => .array .int
  | _ => .array .int
abbrev wsX30 : List Cond := u_ws RX3 TX3 5
theorem nmX3 : ∀ a, a < 5 → ∀ b, b < 5 → a ≠ b → (TX3 a).2.1 ≠ (TX3 b).2.1 := by decide +kernel
theorem tyX3_ok : ∀ k, k < 5 → parseFieldDescriptor (TX3 k).2.2.1 = some (tyX3 k) := by decide +kernel
abbrev cX3_init : ByteArray := prog_5_method_1_code
def yX3_init : MethodName := ⟨RX3, "<init>", "()V"⟩
abbrev cX3_has : ByteArray := prog_5_method_2_code
def yX3_has : MethodName := ⟨RX3, "has", "(I)Z"⟩
abbrev cX3_addStage : ByteArray := prog_5_method_3_code
def yX3_addStage : MethodName := ⟨RX3, "addStage", "(I)Z"⟩
abbrev cX3_copyFrom : ByteArray := prog_5_method_4_code
def yX3_copyFrom : MethodName := ⟨RX3, "copyFrom", "(LChargeStages$Profile;)V"⟩
abbrev cX3_isInRange : ByteArray := prog_5_method_5_code
def yX3_isInRange : MethodName := ⟨RX3, "isInRange", "()Z"⟩
abbrev cX3_hasNumbersInRange : ByteArray := prog_5_method_6_code
def yX3_hasNumbersInRange : MethodName := ⟨RX3, "hasNumbersInRange", "(I)Z"⟩
abbrev cX3_limitOf : ByteArray := prog_5_method_7_code
def yX3_limitOf : MethodName := ⟨RX3, "limitOf", "(I)I"⟩
def RX4 : String := "ChargeStages$State"
def TX4 : u_T := fun k => match k with
  | 0 => ("ChargeStages$State", "settings", "[I", true)
  | 1 => ("ChargeStages$State", "row", "LChargeStages$Battery;", true)
  | 2 => ("ChargeStages$State", "profile", "LChargeStages$Profile;", true)
  | 3 => ("ChargeStages$State", "log", "LChargeStages$Log;", true)
  | 4 => ("ChargeStages$State", "mode", "I", false)
  | 5 => ("ChargeStages$State", "stage", "I", false)
  | 6 => ("ChargeStages$State", "lasted", "I", false)
  | 7 => ("ChargeStages$State", "tick", "I", false)
  | 8 => ("ChargeStages$State", "pausedTicks", "I", false)
  | 9 => ("ChargeStages$State", "wasPaused", "Z", false)
  | 10 => ("ChargeStages$State", "timesDone", "I", false)
  | _ => ("ChargeStages$State", "timesAtFault", "I", false)
def tyX4 : Nat → FieldType := fun k => match k with
  | 0 => .array .int
  | 1 => .object "ChargeStages$Battery"
  | 2 => .object "ChargeStages$Profile"
  | 3 => .object "ChargeStages$Log"
  | 4 => .int
  | 5 => .int
  | 6 => .int
  | 7 => .int
  | 8 => .int
  | 9 => .boolean
  | 10 => .int
  | _ => .int
abbrev wsX40 : List Cond := u_ws RX4 TX4 12
theorem nmX4 : ∀ a, a < 12 → ∀ b, b < 12 → a ≠ b → (TX4 a).2.1 ≠ (TX4 b).2.1 := by decide +kernel
theorem tyX4_ok : ∀ k, k < 12 → parseFieldDescriptor (TX4 k).2.2.1 = some (tyX4 k) := by decide +kernel
abbrev cX4_init : ByteArray := prog_6_method_1_code
def yX4_init : MethodName := ⟨RX4, "<init>", "()V"⟩
abbrev cX4_setUp : ByteArray := prog_6_method_2_code
def yX4_setUp : MethodName := ⟨RX4, "setUp", "()V"⟩
abbrev cX4_copyFrom : ByteArray := prog_6_method_3_code
def yX4_copyFrom : MethodName := ⟨RX4, "copyFrom", "(LChargeStages$State;)V"⟩
abbrev cX4_allows : ByteArray := prog_6_method_4_code
def yX4_allows : MethodName := ⟨RX4, "allows", "(II)Z"⟩
abbrev cX4_isPaused : ByteArray := prog_6_method_5_code
def yX4_isPaused : MethodName := ⟨RX4, "isPaused", "()Z"⟩
abbrev cX4_limitOfNow : ByteArray := prog_6_method_6_code
def yX4_limitOfNow : MethodName := ⟨RX4, "limitOfNow", "(I)I"⟩
abbrev cX4_greatestVoltage : ByteArray := prog_6_method_7_code
def yX4_greatestVoltage : MethodName := ⟨RX4, "greatestVoltage", "(I)I"⟩
abbrev cX4_beginCharging : ByteArray := prog_6_method_8_code
def yX4_beginCharging : MethodName := ⟨RX4, "beginCharging", "()V"⟩
abbrev cX4_begin : ByteArray := prog_6_method_9_code
def yX4_begin : MethodName := ⟨RX4, "begin", "(I)V"⟩
abbrev cX4_passTicks : ByteArray := prog_6_method_10_code
def yX4_passTicks : MethodName := ⟨RX4, "passTicks", "(I)V"⟩
abbrev cX4_runUntilDone : ByteArray := prog_6_method_11_code
def yX4_runUntilDone : MethodName := ⟨RX4, "runUntilDone", "(I)I"⟩
abbrev cX4_passOneTick : ByteArray := prog_6_method_12_code
def yX4_passOneTick : MethodName := ⟨RX4, "passOneTick", "()V"⟩
abbrev cX4_countPausedTick : ByteArray := prog_6_method_13_code
def yX4_countPausedTick : MethodName := ⟨RX4, "countPausedTick", "()V"⟩
abbrev cX4_charge : ByteArray := prog_6_method_14_code
def yX4_charge : MethodName := ⟨RX4, "charge", "()V"⟩
abbrev cX4_endStage : ByteArray := prog_6_method_15_code
def yX4_endStage : MethodName := ⟨RX4, "endStage", "()V"⟩
abbrev cX4_hasRunOut : ByteArray := prog_6_method_16_code
def yX4_hasRunOut : MethodName := ⟨RX4, "hasRunOut", "()Z"⟩
abbrev cX4_currentOfStage : ByteArray := prog_6_method_17_code
def yX4_currentOfStage : MethodName := ⟨RX4, "currentOfStage", "()I"⟩
abbrev cX4_heldCurrent : ByteArray := prog_6_method_18_code
def yX4_heldCurrent : MethodName := ⟨RX4, "heldCurrent", "(I)I"⟩
abbrev cX4_endsBehind : ByteArray := prog_6_method_19_code
def yX4_endsBehind : MethodName := ⟨RX4, "endsBehind", "(I)Z"⟩
def RX5 : String := "ChargeStages$Text"
def TX5 : u_T := fun k => match k with
  | 0 => ("ChargeStages$Text", "length", "I", false)
  | 1 => ("ChargeStages$Text", "place", "I", false)
  | _ => ("ChargeStages$Text", "characters", "[C", true)
def tyX5 : Nat → FieldType := fun k => match k with
  | 0 => .int
  | 1 => .int
  | _ => .array .char
abbrev wsX50 : List Cond := u_ws RX5 TX5 3
theorem nmX5 : ∀ a, a < 3 → ∀ b, b < 3 → a ≠ b → (TX5 a).2.1 ≠ (TX5 b).2.1 := by decide +kernel
theorem tyX5_ok : ∀ k, k < 3 → parseFieldDescriptor (TX5 k).2.2.1 = some (tyX5 k) := by decide +kernel
abbrev cX5_init : ByteArray := prog_7_method_1_code
def yX5_init : MethodName := ⟨RX5, "<init>", "()V"⟩
abbrev cX5_add : ByteArray := prog_7_method_2_code
def yX5_add : MethodName := ⟨RX5, "add", "(C)V"⟩
abbrev cX5_readInto : ByteArray := prog_7_method_3_code
def yX5_readInto : MethodName := ⟨RX5, "readInto", "(LChargeStages$Profile;)Z"⟩
abbrev cX5_readStage : ByteArray := prog_7_method_4_code
def yX5_readStage : MethodName := ⟨RX5, "readStage", "(LChargeStages$Profile;)Z"⟩
abbrev cX5_readPair : ByteArray := prog_7_method_5_code
def yX5_readPair : MethodName := ⟨RX5, "readPair", "(LChargeStages$Profile;I)Z"⟩
abbrev cX5_readFirst : ByteArray := prog_7_method_6_code
def yX5_readFirst : MethodName := ⟨RX5, "readFirst", "(LChargeStages$Profile;I)Z"⟩
abbrev cX5_readTimer : ByteArray := prog_7_method_7_code
def yX5_readTimer : MethodName := ⟨RX5, "readTimer", "(LChargeStages$Profile;I)Z"⟩
abbrev cX5_accepts : ByteArray := prog_7_method_8_code
def yX5_accepts : MethodName := ⟨RX5, "accepts", "(C)Z"⟩
abbrev cX5_isDigitAhead : ByteArray := prog_7_method_9_code
def yX5_isDigitAhead : MethodName := ⟨RX5, "isDigitAhead", "(C)Z"⟩
abbrev cX5_readNumber : ByteArray := prog_7_method_10_code
def yX5_readNumber : MethodName := ⟨RX5, "readNumber", "(C)I"⟩
def RX6 : String := "ChargeStages"
def TX6 : u_T := fun k => match k with
  | 0 => ("ChargeStages", "now", "LChargeStages$State;", true)
  | 1 => ("ChargeStages", "forecast", "LChargeStages$State;", true)
  | 2 => ("ChargeStages", "snapshot", "LChargeStages$State;", true)
  | 3 => ("ChargeStages", "hasSnapshot", "Z", false)
  | 4 => ("ChargeStages", "history", "LChargeStages$History;", true)
  | 5 => ("ChargeStages", "text", "LChargeStages$Text;", true)
  | _ => ("ChargeStages", "draft", "LChargeStages$Profile;", true)
def tyX6 : Nat → FieldType := fun k => match k with
  | 0 => .object "ChargeStages$State"
  | 1 => .object "ChargeStages$State"
  | 2 => .object "ChargeStages$State"
  | 3 => .boolean
  | 4 => .object "ChargeStages$History"
  | 5 => .object "ChargeStages$Text"
  | _ => .object "ChargeStages$Profile"
abbrev wsX60 : List Cond := u_ws RX6 TX6 7
theorem nmX6 : ∀ a, a < 7 → ∀ b, b < 7 → a ≠ b → (TX6 a).2.1 ≠ (TX6 b).2.1 := by decide +kernel
theorem tyX6_ok : ∀ k, k < 7 → parseFieldDescriptor (TX6 k).2.2.1 = some (tyX6 k) := by decide +kernel
abbrev cX6_init : ByteArray := prog_1_method_1_code
def yX6_init : MethodName := ⟨RX6, "<init>", "()V"⟩
abbrev cX6_battery : ByteArray := prog_1_method_2_code
def yX6_battery : MethodName := ⟨RX6, "battery", "(I)I"⟩
abbrev cX6_setCharge : ByteArray := prog_1_method_3_code
def yX6_setCharge : MethodName := ⟨RX6, "setCharge", "(II)I"⟩
abbrev cX6_use : ByteArray := prog_1_method_4_code
def yX6_use : MethodName := ⟨RX6, "use", "(I)I"⟩
abbrev cX6_set : ByteArray := prog_1_method_5_code
def yX6_set : MethodName := ⟨RX6, "set", "(II)I"⟩
abbrev cX6_readProfile : ByteArray := prog_1_method_6_code
def yX6_readProfile : MethodName := ⟨RX6, "readProfile", "()I"⟩
abbrev cX6_start : ByteArray := prog_1_method_7_code
def yX6_start : MethodName := ⟨RX6, "start", "()I"⟩
abbrev cX6_stop : ByteArray := prog_1_method_8_code
def yX6_stop : MethodName := ⟨RX6, "stop", "()I"⟩
abbrev cX6_pass : ByteArray := prog_1_method_9_code
def yX6_pass : MethodName := ⟨RX6, "pass", "(I)I"⟩
abbrev cX6_type : ByteArray := prog_1_method_10_code
def yX6_type : MethodName := ⟨RX6, "type", "(C)I"⟩
abbrev cX6_clearText : ByteArray := prog_1_method_11_code
def yX6_clearText : MethodName := ⟨RX6, "clearText", "()I"⟩
abbrev cX6_undo : ByteArray := prog_1_method_12_code
def yX6_undo : MethodName := ⟨RX6, "undo", "()I"⟩
abbrev cX6_keep : ByteArray := prog_1_method_13_code
def yX6_keep : MethodName := ⟨RX6, "keep", "()I"⟩
abbrev cX6_restore : ByteArray := prog_1_method_14_code
def yX6_restore : MethodName := ⟨RX6, "restore", "()I"⟩
abbrev cX6_cell : ByteArray := prog_1_method_15_code
def yX6_cell : MethodName := ⟨RX6, "cell", "(II)I"⟩
abbrev cX6_setting : ByteArray := prog_1_method_16_code
def yX6_setting : MethodName := ⟨RX6, "setting", "(I)I"⟩
abbrev cX6_stage : ByteArray := prog_1_method_17_code
def yX6_stage : MethodName := ⟨RX6, "stage", "(II)I"⟩
abbrev cX6_voltage : ByteArray := prog_1_method_18_code
def yX6_voltage : MethodName := ⟨RX6, "voltage", "(I)I"⟩
abbrev cX6_current : ByteArray := prog_1_method_19_code
def yX6_current : MethodName := ⟨RX6, "current", "()I"⟩
abbrev cX6_doneIn : ByteArray := prog_1_method_20_code
def yX6_doneIn : MethodName := ⟨RX6, "doneIn", "()I"⟩
abbrev cX6_chargeIn : ByteArray := prog_1_method_21_code
def yX6_chargeIn : MethodName := ⟨RX6, "chargeIn", "(II)I"⟩
abbrev cX6_warmest : ByteArray := prog_1_method_22_code
def yX6_warmest : MethodName := ⟨RX6, "warmest", "()I"⟩
abbrev cX6_event : ByteArray := prog_1_method_23_code
def yX6_event : MethodName := ⟨RX6, "event", "(II)I"⟩
abbrev cX6_count : ByteArray := prog_1_method_24_code
def yX6_count : MethodName := ⟨RX6, "count", "(I)I"⟩
abbrev cX6_isSetting : ByteArray := prog_1_method_25_code
def yX6_isSetting : MethodName := ⟨RX6, "isSetting", "(I)Z"⟩
abbrev cX6_isIn : ByteArray := prog_1_method_26_code
def yX6_isIn : MethodName := ⟨RX6, "isIn", "(III)Z"⟩
abbrev cX6_baseVoltage : ByteArray := prog_1_method_27_code
def yX6_baseVoltage : MethodName := ⟨RX6, "baseVoltage", "(II)I"⟩
def RX7 : String := "ChargeStagesModel"
def TX7 : u_T := fun k => match k with
  | 0 => ("ChargeStagesModel", "s", "[I", true)
  | 1 => ("ChargeStagesModel", "trial", "[I", true)
  | 2 => ("ChargeStagesModel", "was", "[I", true)
  | 3 => ("ChargeStagesModel", "states", "I", false)
  | 4 => ("ChargeStagesModel", "slot", "[I", true)
  | 5 => ("ChargeStagesModel", "isFilled", "Z", false)
  | 6 => ("ChargeStagesModel", "text", "[C", true)
  | 7 => ("ChargeStagesModel", "length", "I", false)
  | 8 => ("ChargeStagesModel", "at", "I", false)
  | 9 => ("ChargeStagesModel", "number", "I", false)
  | 10 => ("ChargeStagesModel", "read", "[I", true)
  | _ => ("ChargeStagesModel", "reads", "I", false)
def tyX7 : Nat → FieldType := fun k => match k with
  | 0 => .array .int
  | 1 => .array .int
  | 2 => .array .int
  | 3 => .int
  | 4 => .array .int
  | 5 => .boolean
  | 6 => .array .char
  | 7 => .int
  | 8 => .int
  | 9 => .int
  | 10 => .array .int
  | _ => .int
abbrev wsX70 : List Cond := u_ws RX7 TX7 12
theorem nmX7 : ∀ a, a < 12 → ∀ b, b < 12 → a ≠ b → (TX7 a).2.1 ≠ (TX7 b).2.1 := by decide +kernel
theorem tyX7_ok : ∀ k, k < 12 → parseFieldDescriptor (TX7 k).2.2.1 = some (tyX7 k) := by decide +kernel
abbrev cX7_init : ByteArray := prog_9_method_1_code
def yX7_init : MethodName := ⟨RX7, "<init>", "()V"⟩
abbrev cX7_in : ByteArray := prog_9_method_2_code
def yX7_in : MethodName := ⟨RX7, "in", "(III)Z"⟩
abbrev cX7_copies : ByteArray := prog_9_method_3_code
def yX7_copies : MethodName := ⟨RX7, "copies", "([I[II)V"⟩
abbrev cX7_records : ByteArray := prog_9_method_4_code
def yX7_records : MethodName := ⟨RX7, "records", "()V"⟩
abbrev cX7_undo : ByteArray := prog_9_method_5_code
def yX7_undo : MethodName := ⟨RX7, "undo", "()I"⟩
abbrev cX7_keep : ByteArray := prog_9_method_6_code
def yX7_keep : MethodName := ⟨RX7, "keep", "()I"⟩
abbrev cX7_restore : ByteArray := prog_9_method_7_code
def yX7_restore : MethodName := ⟨RX7, "restore", "()I"⟩
abbrev cX7_isCell : ByteArray := prog_9_method_8_code
def yX7_isCell : MethodName := ⟨RX7, "isCell", "(I)Z"⟩
abbrev cX7_of : ByteArray := prog_9_method_9_code
def yX7_of : MethodName := ⟨RX7, "of", "([III)I"⟩
abbrev cX7_base : ByteArray := prog_9_method_10_code
def yX7_base : MethodName := ⟨RX7, "base", "([II)I"⟩
abbrev cX7_highest : ByteArray := prog_9_method_11_code
def yX7_highest : MethodName := ⟨RX7, "highest", "([I)I"⟩
abbrev cX7_lowest : ByteArray := prog_9_method_12_code
def yX7_lowest : MethodName := ⟨RX7, "lowest", "([I)I"⟩
abbrev cX7_more : ByteArray := prog_9_method_13_code
def yX7_more : MethodName := ⟨RX7, "more", "([II)I"⟩
abbrev cX7_charged : ByteArray := prog_9_method_14_code
def yX7_charged : MethodName := ⟨RX7, "charged", "([IZ)I"⟩
abbrev cX7_logs : ByteArray := prog_9_method_15_code
def yX7_logs : MethodName := ⟨RX7, "logs", "([II)V"⟩
abbrev cX7_isOut : ByteArray := prog_9_method_16_code
def yX7_isOut : MethodName := ⟨RX7, "isOut", "([I)Z"⟩
abbrev cX7_ofStage : ByteArray := prog_9_method_17_code
def yX7_ofStage : MethodName := ⟨RX7, "ofStage", "([III)I"⟩
abbrev cX7_limit : ByteArray := prog_9_method_18_code
def yX7_limit : MethodName := ⟨RX7, "limit", "([II)I"⟩
abbrev cX7_held : ByteArray := prog_9_method_19_code
def yX7_held : MethodName := ⟨RX7, "held", "([I)I"⟩
abbrev cX7_told : ByteArray := prog_9_method_20_code
def yX7_told : MethodName := ⟨RX7, "told", "([I)I"⟩
abbrev cX7_endsAtOnce : ByteArray := prog_9_method_21_code
def yX7_endsAtOnce : MethodName := ⟨RX7, "endsAtOnce", "([II)Z"⟩
abbrev cX7_takesIn : ByteArray := prog_9_method_22_code
def yX7_takesIn : MethodName := ⟨RX7, "takesIn", "([III)V"⟩
abbrev cX7_endsBehind : ByteArray := prog_9_method_23_code
def yX7_endsBehind : MethodName := ⟨RX7, "endsBehind", "([II)Z"⟩
abbrev cX7_goesOn : ByteArray := prog_9_method_24_code
def yX7_goesOn : MethodName := ⟨RX7, "goesOn", "([I)V"⟩
abbrev cX7_charges : ByteArray := prog_9_method_25_code
def yX7_charges : MethodName := ⟨RX7, "charges", "([I)V"⟩
abbrev cX7_bleeds : ByteArray := prog_9_method_26_code
def yX7_bleeds : MethodName := ⟨RX7, "bleeds", "([I)V"⟩
abbrev cX7_tick : ByteArray := prog_9_method_27_code
def yX7_tick : MethodName := ⟨RX7, "tick", "([I)V"⟩
abbrev cX7_battery : ByteArray := prog_9_method_28_code
def yX7_battery : MethodName := ⟨RX7, "battery", "(I)I"⟩
abbrev cX7_setCharge : ByteArray := prog_9_method_29_code
def yX7_setCharge : MethodName := ⟨RX7, "setCharge", "(II)I"⟩
abbrev cX7_use : ByteArray := prog_9_method_30_code
def yX7_use : MethodName := ⟨RX7, "use", "(I)I"⟩
abbrev cX7_isInRange : ByteArray := prog_9_method_31_code
def yX7_isInRange : MethodName := ⟨RX7, "isInRange", "(II)Z"⟩
abbrev cX7_cannotBe : ByteArray := prog_9_method_32_code
def yX7_cannotBe : MethodName := ⟨RX7, "cannotBe", "(II)Z"⟩
abbrev cX7_set : ByteArray := prog_9_method_33_code
def yX7_set : MethodName := ⟨RX7, "set", "(II)I"⟩
abbrev cX7_start : ByteArray := prog_9_method_34_code
def yX7_start : MethodName := ⟨RX7, "start", "()I"⟩
abbrev cX7_stop : ByteArray := prog_9_method_35_code
def yX7_stop : MethodName := ⟨RX7, "stop", "()I"⟩
abbrev cX7_pass : ByteArray := prog_9_method_36_code
def yX7_pass : MethodName := ⟨RX7, "pass", "(I)I"⟩
abbrev cX7_type : ByteArray := prog_9_method_37_code
def yX7_type : MethodName := ⟨RX7, "type", "(C)I"⟩
abbrev cX7_clearText : ByteArray := prog_9_method_38_code
def yX7_clearText : MethodName := ⟨RX7, "clearText", "()I"⟩
abbrev cX7_sees : ByteArray := prog_9_method_39_code
def yX7_sees : MethodName := ⟨RX7, "sees", "(II)Z"⟩
abbrev cX7_takes : ByteArray := prog_9_method_40_code
def yX7_takes : MethodName := ⟨RX7, "takes", "(I)Z"⟩
abbrev cX7_takesNumber : ByteArray := prog_9_method_41_code
def yX7_takesNumber : MethodName := ⟨RX7, "takesNumber", "(I)Z"⟩
abbrev cX7_takesStage : ByteArray := prog_9_method_42_code
def yX7_takesStage : MethodName := ⟨RX7, "takesStage", "()Z"⟩
abbrev cX7_readsText : ByteArray := prog_9_method_43_code
def yX7_readsText : MethodName := ⟨RX7, "readsText", "()Z"⟩
abbrev cX7_isGood : ByteArray := prog_9_method_44_code
def yX7_isGood : MethodName := ⟨RX7, "isGood", "(I)Z"⟩
abbrev cX7_readProfile : ByteArray := prog_9_method_45_code
def yX7_readProfile : MethodName := ⟨RX7, "readProfile", "()I"⟩
abbrev cX7_cell : ByteArray := prog_9_method_46_code
def yX7_cell : MethodName := ⟨RX7, "cell", "(II)I"⟩
abbrev cX7_setting : ByteArray := prog_9_method_47_code
def yX7_setting : MethodName := ⟨RX7, "setting", "(I)I"⟩
abbrev cX7_stage : ByteArray := prog_9_method_48_code
def yX7_stage : MethodName := ⟨RX7, "stage", "(II)I"⟩
abbrev cX7_voltage : ByteArray := prog_9_method_49_code
def yX7_voltage : MethodName := ⟨RX7, "voltage", "(I)I"⟩
abbrev cX7_current : ByteArray := prog_9_method_50_code
def yX7_current : MethodName := ⟨RX7, "current", "()I"⟩
abbrev cX7_doneBy : ByteArray := prog_9_method_51_code
def yX7_doneBy : MethodName := ⟨RX7, "doneBy", "(I)I"⟩
abbrev cX7_doneIn : ByteArray := prog_9_method_52_code
def yX7_doneIn : MethodName := ⟨RX7, "doneIn", "()I"⟩
abbrev cX7_chargeIn : ByteArray := prog_9_method_53_code
def yX7_chargeIn : MethodName := ⟨RX7, "chargeIn", "(II)I"⟩
abbrev cX7_warmest : ByteArray := prog_9_method_54_code
def yX7_warmest : MethodName := ⟨RX7, "warmest", "()I"⟩
abbrev cX7_event : ByteArray := prog_9_method_55_code
def yX7_event : MethodName := ⟨RX7, "event", "(II)I"⟩
abbrev cX7_count : ByteArray := prog_9_method_56_code
def yX7_count : MethodName := ⟨RX7, "count", "(I)I"⟩
def RJ9 : String := "java/lang/Math"
def TJ9 : u_T := fun k => match k with
  | _ => ("", "", "", false)
def tyJ9 : Nat → FieldType := fun k => match k with
  | _ => .int
abbrev wsJ90 : List Cond := u_ws RJ9 TJ9 0
theorem nmJ9 : ∀ a, a < 0 → ∀ b, b < 0 → a ≠ b → (TJ9 a).2.1 ≠ (TJ9 b).2.1 := by decide +kernel
theorem tyJ9_ok : ∀ k, k < 0 → parseFieldDescriptor (TJ9 k).2.2.1 = some (tyJ9 k) := by decide +kernel
abbrev cJ9_floorMod_7cf53 : ByteArray := prog_10_method_50_code
def yJ9_floorMod_7cf53 : MethodName := ⟨RJ9, "floorMod", "(II)I"⟩
abbrev cJ9_max_7cf53 : ByteArray := prog_10_method_65_code
def yJ9_max_7cf53 : MethodName := ⟨RJ9, "max", "(II)I"⟩
abbrev cJ9_min_7cf53 : ByteArray := prog_10_method_69_code
def yJ9_min_7cf53 : MethodName := ⟨RJ9, "min", "(II)I"⟩
def RJ10 : String := "java/lang/System"
def TJ10 : u_T := fun k => match k with
  | _ => ("", "", "", false)
def tyJ10 : Nat → FieldType := fun k => match k with
  | _ => .int
abbrev wsJ100 : List Cond := u_ws RJ10 TJ10 0
theorem nmJ10 : ∀ a, a < 0 → ∀ b, b < 0 → a ≠ b → (TJ10 a).2.1 ≠ (TJ10 b).2.1 := by decide +kernel
theorem tyJ10_ok : ∀ k, k < 0 → parseFieldDescriptor (TJ10 k).2.2.1 = some (tyJ10 k) := by decide +kernel
def RL : String := "ChargeStagesLaw"
abbrev cL_law : ByteArray := code
def yL_law : MethodName := ⟨RL, "law", "([I)Z"⟩
def wsX0_init : List Cond := .code yX0_init cX0_init 1 none :: ([.methodLink RX0 3 objectInit, .instanceMethod objectInit, .code objectInit ⟨#[0xb1]⟩ 1 none, .fieldLink RX0 9 "ChargeStages$Battery" "cells" "I", .arrayClass .int, .fieldLink RX0 15 "ChargeStages$Battery" "charge" "[I", .fieldLink RX0 19 "ChargeStages$Battery" "rest" "[I", .fieldLink RX0 22 "ChargeStages$Battery" "cameIn" "[I", .fieldLink RX0 25 "ChargeStages$Battery" "stored" "[I", .fieldLink RX0 28 "ChargeStages$Battery" "spilled" "[I", .fieldLink RX0 31 "ChargeStages$Battery" "bled" "[I", .fieldLink RX0 34 "ChargeStages$Battery" "used" "[I"] ++ wsX00)
def wsX0_has : List Cond := .code yX0_has cX0_has 2 (some .boolean) :: ([.fieldLink RX0 9 "ChargeStages$Battery" "cells" "I"] ++ wsX00)
def wsX0_putEmpty : List Cond := .code yX0_putEmpty cX0_putEmpty 3 none :: ([.methodLink RX0 37 Lib.Math.min.name, .static Lib.Math.min.name, .initialized "java/lang/Math", .code Lib.Math.min.name Lib.Math.min.code 2 (some .int), .methodLink RX0 43 Lib.Math.max.name, .static Lib.Math.max.name, .code Lib.Math.max.name Lib.Math.max.code 2 (some .int), .fieldLink RX0 9 "ChargeStages$Battery" "cells" "I", .fieldLink RX0 15 "ChargeStages$Battery" "charge" "[I", .fieldLink RX0 19 "ChargeStages$Battery" "rest" "[I", .fieldLink RX0 22 "ChargeStages$Battery" "cameIn" "[I", .fieldLink RX0 25 "ChargeStages$Battery" "stored" "[I", .fieldLink RX0 28 "ChargeStages$Battery" "spilled" "[I", .fieldLink RX0 31 "ChargeStages$Battery" "bled" "[I", .fieldLink RX0 34 "ChargeStages$Battery" "used" "[I"] ++ wsX00)
def wsX0_copyFrom : List Cond := .code yX0_copyFrom cX0_copyFrom 2 none :: ([.fieldLink RX0 9 "ChargeStages$Battery" "cells" "I", .fieldLink RX0 15 "ChargeStages$Battery" "charge" "[I", .methodLink RX0 46 arraycopyName, .native arraycopyName, .static arraycopyName, .initialized "java/lang/System", .fieldLink RX0 19 "ChargeStages$Battery" "rest" "[I", .fieldLink RX0 22 "ChargeStages$Battery" "cameIn" "[I", .fieldLink RX0 25 "ChargeStages$Battery" "stored" "[I", .fieldLink RX0 28 "ChargeStages$Battery" "spilled" "[I", .fieldLink RX0 31 "ChargeStages$Battery" "bled" "[I", .fieldLink RX0 34 "ChargeStages$Battery" "used" "[I"] ++ wsX00)
def wsX0_leastCharge : List Cond := .code yX0_leastCharge cX0_leastCharge 3 (some .int) :: ([.fieldLink RX0 15 "ChargeStages$Battery" "charge" "[I", .fieldLink RX0 9 "ChargeStages$Battery" "cells" "I", .methodLink RX0 37 Lib.Math.min.name, .static Lib.Math.min.name, .initialized "java/lang/Math", .code Lib.Math.min.name Lib.Math.min.code 2 (some .int)] ++ wsX00)
def wsX0_greatestCharge : List Cond := .code yX0_greatestCharge cX0_greatestCharge 3 (some .int) :: ([.fieldLink RX0 15 "ChargeStages$Battery" "charge" "[I", .fieldLink RX0 9 "ChargeStages$Battery" "cells" "I", .methodLink RX0 43 Lib.Math.max.name, .static Lib.Math.max.name, .initialized "java/lang/Math", .code Lib.Math.max.name Lib.Math.max.code 2 (some .int)] ++ wsX00)
def wsX0_draw : List Cond := .code yX0_draw cX0_draw 3 none :: ([.fieldLink RX0 9 "ChargeStages$Battery" "cells" "I", .fieldLink RX0 15 "ChargeStages$Battery" "charge" "[I", .fieldLink RX0 34 "ChargeStages$Battery" "used" "[I"] ++ wsX00)
def wsX0_takeIn : List Cond := .code yX0_takeIn cX0_takeIn 9 none :: ([.fieldLink RX0 9 "ChargeStages$Battery" "cells" "I", .fieldLink RX0 19 "ChargeStages$Battery" "rest" "[I", .fieldLink RX0 15 "ChargeStages$Battery" "charge" "[I", .methodLink RX0 43 Lib.Math.max.name, .static Lib.Math.max.name, .initialized "java/lang/Math", .code Lib.Math.max.name Lib.Math.max.code 2 (some .int), .fieldLink RX0 22 "ChargeStages$Battery" "cameIn" "[I", .fieldLink RX0 25 "ChargeStages$Battery" "stored" "[I", .fieldLink RX0 28 "ChargeStages$Battery" "spilled" "[I"] ++ wsX00)
def wsX6_baseVoltage : List Cond := .code yX6_baseVoltage cX6_baseVoltage 2 (some .int) :: ([])
def wsX0_loseTo : List Cond := .code yX0_loseTo cX0_loseTo 7 none :: ([.fieldLink RX0 9 "ChargeStages$Battery" "cells" "I", .fieldLink RX0 15 "ChargeStages$Battery" "charge" "[I", .methodLink RX0 37 Lib.Math.min.name, .static Lib.Math.min.name, .initialized "java/lang/Math", .code Lib.Math.min.name Lib.Math.min.code 2 (some .int), .fieldLink RX0 31 "ChargeStages$Battery" "bled" "[I", .methodLink RX0 52 yX0_leastCharge, .instanceMethod yX0_leastCharge, .selects RX0 yX0_leastCharge yX0_leastCharge, .initialized RX0, .code yX0_leastCharge cX0_leastCharge 3 (some .int), .static yX6_baseVoltage, .initialized RX6, .code yX6_baseVoltage cX6_baseVoltage 2 (some .int)] ++ wsX00)
def wsX3_init : List Cond := .code yX3_init cX3_init 1 none :: ([.methodLink RX3 3 objectInit, .instanceMethod objectInit, .code objectInit ⟨#[0xb1]⟩ 1 none, .fieldLink RX3 9 "ChargeStages$Profile" "stages" "I", .arrayClass .int, .fieldLink RX3 15 "ChargeStages$Profile" "kind" "[I", .fieldLink RX3 19 "ChargeStages$Profile" "first" "[I", .fieldLink RX3 22 "ChargeStages$Profile" "second" "[I", .fieldLink RX3 25 "ChargeStages$Profile" "timer" "[I"] ++ wsX30)
def wsX2_init : List Cond := .code yX2_init cX2_init 1 none :: ([.methodLink RX2 3 objectInit, .instanceMethod objectInit, .code objectInit ⟨#[0xb1]⟩ 1 none, .fieldLink RX2 9 "ChargeStages$Log" "events" "I", .fieldLink RX2 15 "ChargeStages$Log" "next" "I", .arrayClass .int, .fieldLink RX2 18 "ChargeStages$Log" "kind" "[I", .fieldLink RX2 22 "ChargeStages$Log" "tick" "[I", .fieldLink RX2 25 "ChargeStages$Log" "stage" "[I"] ++ wsX20)
def wsX4_init_r1 : List Cond := [Cond.methodLink RX4 3 objectInit, Cond.instanceMethod objectInit, Cond.code objectInit ⟨#[0xb1]⟩ 1 none, Cond.arrayClass .int, Cond.fieldLink RX4 9 "ChargeStages$State" "settings" "[I", Cond.classLink RX4 15 RX0, Cond.instantiable RX0 8, Cond.initialized RX0, Cond.fieldLink RX4 18 "ChargeStages$State" "row" "LChargeStages$Battery;", Cond.classLink RX4 22 RX3, Cond.instantiable RX3 5, Cond.initialized RX3, Cond.fieldLink RX4 25 "ChargeStages$State" "profile" "LChargeStages$Profile;", Cond.classLink RX4 29 RX2, Cond.instantiable RX2 5, Cond.initialized RX2, Cond.fieldLink RX4 32 "ChargeStages$State" "log" "LChargeStages$Log;", Cond.fieldLink RX4 36 "ChargeStages$State" "mode" "I", Cond.fieldLink RX4 40 "ChargeStages$State" "stage" "I", Cond.fieldLink RX4 43 "ChargeStages$State" "lasted" "I", Cond.fieldLink RX4 46 "ChargeStages$State" "tick" "I", Cond.fieldLink RX4 49 "ChargeStages$State" "pausedTicks" "I", Cond.fieldLink RX4 52 "ChargeStages$State" "wasPaused" "Z", Cond.fieldLink RX4 56 "ChargeStages$State" "timesDone" "I"]
def wsX4_init_r2 : List Cond := [Cond.fieldLink RX4 59 "ChargeStages$State" "timesAtFault" "I", Cond.instanceMethod yX0_init, Cond.code yX0_init cX0_init 1 none, Cond.methodLink RX0 3 objectInit, Cond.fieldLink RX0 9 "ChargeStages$Battery" "cells" "I", Cond.fieldLink RX0 15 "ChargeStages$Battery" "charge" "[I", Cond.fieldLink RX0 19 "ChargeStages$Battery" "rest" "[I", Cond.fieldLink RX0 22 "ChargeStages$Battery" "cameIn" "[I", Cond.fieldLink RX0 25 "ChargeStages$Battery" "stored" "[I", Cond.fieldLink RX0 28 "ChargeStages$Battery" "spilled" "[I", Cond.fieldLink RX0 31 "ChargeStages$Battery" "bled" "[I", Cond.fieldLink RX0 34 "ChargeStages$Battery" "used" "[I", Cond.instanceMethod yX3_init, Cond.code yX3_init cX3_init 1 none, Cond.methodLink RX3 3 objectInit, Cond.fieldLink RX3 9 "ChargeStages$Profile" "stages" "I", Cond.fieldLink RX3 15 "ChargeStages$Profile" "kind" "[I", Cond.fieldLink RX3 19 "ChargeStages$Profile" "first" "[I", Cond.fieldLink RX3 22 "ChargeStages$Profile" "second" "[I", Cond.fieldLink RX3 25 "ChargeStages$Profile" "timer" "[I", Cond.instanceMethod yX2_init, Cond.code yX2_init cX2_init 1 none, Cond.methodLink RX2 3 objectInit, Cond.fieldLink RX2 9 "ChargeStages$Log" "events" "I"]
def wsX4_init_r3 : List Cond := [Cond.fieldLink RX2 15 "ChargeStages$Log" "next" "I", Cond.fieldLink RX2 18 "ChargeStages$Log" "kind" "[I", Cond.fieldLink RX2 22 "ChargeStages$Log" "tick" "[I", Cond.fieldLink RX2 25 "ChargeStages$Log" "stage" "[I"]
def wsX4_init : List Cond := .code yX4_init cX4_init 1 none :: ((wsX4_init_r1 ++ (wsX4_init_r2 ++ wsX4_init_r3)) ++ wsX40 ++ wsX00 ++ wsX30 ++ wsX20)
def wsX1_init_r1 : List Cond := [Cond.methodLink RX1 3 objectInit, Cond.instanceMethod objectInit, Cond.code objectInit ⟨#[0xb1]⟩ 1 none, Cond.fieldLink RX1 9 "ChargeStages$History" "states" "I", Cond.classLink RX1 15 RX4, Cond.fieldLink RX1 17 "ChargeStages$History" "kept" "[LChargeStages$State;", Cond.instantiable RX4 12, Cond.initialized RX4, Cond.instanceMethod yX4_init, Cond.code yX4_init cX4_init 1 none, Cond.methodLink RX4 3 objectInit, Cond.arrayClass .int, Cond.fieldLink RX4 9 "ChargeStages$State" "settings" "[I", Cond.classLink RX4 15 RX0, Cond.instantiable RX0 8, Cond.initialized RX0, Cond.fieldLink RX4 18 "ChargeStages$State" "row" "LChargeStages$Battery;", Cond.classLink RX4 22 RX3, Cond.instantiable RX3 5, Cond.initialized RX3, Cond.fieldLink RX4 25 "ChargeStages$State" "profile" "LChargeStages$Profile;", Cond.classLink RX4 29 RX2, Cond.instantiable RX2 5, Cond.initialized RX2]
def wsX1_init_r2 : List Cond := [Cond.fieldLink RX4 32 "ChargeStages$State" "log" "LChargeStages$Log;", Cond.fieldLink RX4 36 "ChargeStages$State" "mode" "I", Cond.fieldLink RX4 40 "ChargeStages$State" "stage" "I", Cond.fieldLink RX4 43 "ChargeStages$State" "lasted" "I", Cond.fieldLink RX4 46 "ChargeStages$State" "tick" "I", Cond.fieldLink RX4 49 "ChargeStages$State" "pausedTicks" "I", Cond.fieldLink RX4 52 "ChargeStages$State" "wasPaused" "Z", Cond.fieldLink RX4 56 "ChargeStages$State" "timesDone" "I", Cond.fieldLink RX4 59 "ChargeStages$State" "timesAtFault" "I", Cond.instanceMethod yX0_init, Cond.code yX0_init cX0_init 1 none, Cond.methodLink RX0 3 objectInit, Cond.fieldLink RX0 9 "ChargeStages$Battery" "cells" "I", Cond.fieldLink RX0 15 "ChargeStages$Battery" "charge" "[I", Cond.fieldLink RX0 19 "ChargeStages$Battery" "rest" "[I", Cond.fieldLink RX0 22 "ChargeStages$Battery" "cameIn" "[I", Cond.fieldLink RX0 25 "ChargeStages$Battery" "stored" "[I", Cond.fieldLink RX0 28 "ChargeStages$Battery" "spilled" "[I", Cond.fieldLink RX0 31 "ChargeStages$Battery" "bled" "[I", Cond.fieldLink RX0 34 "ChargeStages$Battery" "used" "[I", Cond.instanceMethod yX3_init, Cond.code yX3_init cX3_init 1 none, Cond.methodLink RX3 3 objectInit, Cond.fieldLink RX3 9 "ChargeStages$Profile" "stages" "I"]
def wsX1_init_r3 : List Cond := [Cond.fieldLink RX3 15 "ChargeStages$Profile" "kind" "[I", Cond.fieldLink RX3 19 "ChargeStages$Profile" "first" "[I", Cond.fieldLink RX3 22 "ChargeStages$Profile" "second" "[I", Cond.fieldLink RX3 25 "ChargeStages$Profile" "timer" "[I", Cond.instanceMethod yX2_init, Cond.code yX2_init cX2_init 1 none, Cond.methodLink RX2 3 objectInit, Cond.fieldLink RX2 9 "ChargeStages$Log" "events" "I", Cond.fieldLink RX2 15 "ChargeStages$Log" "next" "I", Cond.fieldLink RX2 18 "ChargeStages$Log" "kind" "[I", Cond.fieldLink RX2 22 "ChargeStages$Log" "tick" "[I", Cond.fieldLink RX2 25 "ChargeStages$Log" "stage" "[I"]
def wsX1_init : List Cond := .code yX1_init cX1_init 2 none :: ((wsX1_init_r1 ++ (wsX1_init_r2 ++ wsX1_init_r3)) ++ wsX10 ++ wsX40 ++ wsX00 ++ wsX30 ++ wsX20)
def wsX1_dropOldest : List Cond := .code yX1_dropOldest cX1_dropOldest 3 none :: ([.fieldLink RX1 17 "ChargeStages$History" "kept" "[LChargeStages$State;", .fieldLink RX1 9 "ChargeStages$History" "states" "I"] ++ wsX10)
def wsX3_copyFrom : List Cond := .code yX3_copyFrom cX3_copyFrom 2 none :: ([.fieldLink RX3 9 "ChargeStages$Profile" "stages" "I", .fieldLink RX3 15 "ChargeStages$Profile" "kind" "[I", .methodLink RX3 28 arraycopyName, .native arraycopyName, .static arraycopyName, .initialized "java/lang/System", .fieldLink RX3 19 "ChargeStages$Profile" "first" "[I", .fieldLink RX3 22 "ChargeStages$Profile" "second" "[I", .fieldLink RX3 25 "ChargeStages$Profile" "timer" "[I"] ++ wsX30)
def wsX2_copyFrom : List Cond := .code yX2_copyFrom cX2_copyFrom 2 none :: ([.fieldLink RX2 9 "ChargeStages$Log" "events" "I", .fieldLink RX2 15 "ChargeStages$Log" "next" "I", .fieldLink RX2 18 "ChargeStages$Log" "kind" "[I", .methodLink RX2 34 arraycopyName, .native arraycopyName, .static arraycopyName, .initialized "java/lang/System", .fieldLink RX2 22 "ChargeStages$Log" "tick" "[I", .fieldLink RX2 25 "ChargeStages$Log" "stage" "[I"] ++ wsX20)
def wsX4_copyFrom_r1 : List Cond := [Cond.fieldLink RX4 9 "ChargeStages$State" "settings" "[I", Cond.methodLink RX4 65 arraycopyName, Cond.native arraycopyName, Cond.static arraycopyName, Cond.initialized "java/lang/System", Cond.fieldLink RX4 18 "ChargeStages$State" "row" "LChargeStages$Battery;", Cond.fieldLink RX4 25 "ChargeStages$State" "profile" "LChargeStages$Profile;", Cond.fieldLink RX4 32 "ChargeStages$State" "log" "LChargeStages$Log;", Cond.fieldLink RX4 36 "ChargeStages$State" "mode" "I", Cond.fieldLink RX4 40 "ChargeStages$State" "stage" "I", Cond.fieldLink RX4 43 "ChargeStages$State" "lasted" "I", Cond.fieldLink RX4 46 "ChargeStages$State" "tick" "I", Cond.fieldLink RX4 49 "ChargeStages$State" "pausedTicks" "I", Cond.fieldLink RX4 52 "ChargeStages$State" "wasPaused" "Z", Cond.fieldLink RX4 56 "ChargeStages$State" "timesDone" "I", Cond.fieldLink RX4 59 "ChargeStages$State" "timesAtFault" "I", Cond.methodLink RX4 71 yX0_copyFrom, Cond.instanceMethod yX0_copyFrom, Cond.selects RX0 yX0_copyFrom yX0_copyFrom, Cond.initialized RX0, Cond.code yX0_copyFrom cX0_copyFrom 2 none, Cond.fieldLink RX0 9 "ChargeStages$Battery" "cells" "I", Cond.fieldLink RX0 15 "ChargeStages$Battery" "charge" "[I", Cond.methodLink RX0 46 arraycopyName]
def wsX4_copyFrom_r2 : List Cond := [Cond.fieldLink RX0 19 "ChargeStages$Battery" "rest" "[I", Cond.fieldLink RX0 22 "ChargeStages$Battery" "cameIn" "[I", Cond.fieldLink RX0 25 "ChargeStages$Battery" "stored" "[I", Cond.fieldLink RX0 28 "ChargeStages$Battery" "spilled" "[I", Cond.fieldLink RX0 31 "ChargeStages$Battery" "bled" "[I", Cond.fieldLink RX0 34 "ChargeStages$Battery" "used" "[I", Cond.methodLink RX4 75 yX3_copyFrom, Cond.instanceMethod yX3_copyFrom, Cond.selects RX3 yX3_copyFrom yX3_copyFrom, Cond.initialized RX3, Cond.code yX3_copyFrom cX3_copyFrom 2 none, Cond.fieldLink RX3 9 "ChargeStages$Profile" "stages" "I", Cond.fieldLink RX3 15 "ChargeStages$Profile" "kind" "[I", Cond.methodLink RX3 28 arraycopyName, Cond.fieldLink RX3 19 "ChargeStages$Profile" "first" "[I", Cond.fieldLink RX3 22 "ChargeStages$Profile" "second" "[I", Cond.fieldLink RX3 25 "ChargeStages$Profile" "timer" "[I", Cond.methodLink RX4 78 yX2_copyFrom, Cond.instanceMethod yX2_copyFrom, Cond.selects RX2 yX2_copyFrom yX2_copyFrom, Cond.initialized RX2, Cond.code yX2_copyFrom cX2_copyFrom 2 none, Cond.fieldLink RX2 9 "ChargeStages$Log" "events" "I", Cond.fieldLink RX2 15 "ChargeStages$Log" "next" "I"]
def wsX4_copyFrom_r3 : List Cond := [Cond.fieldLink RX2 18 "ChargeStages$Log" "kind" "[I", Cond.methodLink RX2 34 arraycopyName, Cond.fieldLink RX2 22 "ChargeStages$Log" "tick" "[I", Cond.fieldLink RX2 25 "ChargeStages$Log" "stage" "[I"]
def wsX4_copyFrom : List Cond := .code yX4_copyFrom cX4_copyFrom 2 none :: ((wsX4_copyFrom_r1 ++ (wsX4_copyFrom_r2 ++ wsX4_copyFrom_r3)) ++ wsX40 ++ wsX00 ++ wsX30 ++ wsX20)
def wsX1_add_r1 : List Cond := [Cond.fieldLink RX1 9 "ChargeStages$History" "states" "I", Cond.fieldLink RX1 17 "ChargeStages$History" "kept" "[LChargeStages$State;", Cond.methodLink RX1 22 yX1_dropOldest, Cond.instanceMethod yX1_dropOldest, Cond.selects RX1 yX1_dropOldest yX1_dropOldest, Cond.initialized RX1, Cond.code yX1_dropOldest cX1_dropOldest 3 none, Cond.methodLink RX1 25 yX4_copyFrom, Cond.instanceMethod yX4_copyFrom, Cond.selects RX4 yX4_copyFrom yX4_copyFrom, Cond.initialized RX4, Cond.code yX4_copyFrom cX4_copyFrom 2 none, Cond.fieldLink RX4 9 "ChargeStages$State" "settings" "[I", Cond.methodLink RX4 65 arraycopyName, Cond.native arraycopyName, Cond.static arraycopyName, Cond.initialized "java/lang/System", Cond.fieldLink RX4 18 "ChargeStages$State" "row" "LChargeStages$Battery;", Cond.fieldLink RX4 25 "ChargeStages$State" "profile" "LChargeStages$Profile;", Cond.fieldLink RX4 32 "ChargeStages$State" "log" "LChargeStages$Log;", Cond.fieldLink RX4 36 "ChargeStages$State" "mode" "I", Cond.fieldLink RX4 40 "ChargeStages$State" "stage" "I", Cond.fieldLink RX4 43 "ChargeStages$State" "lasted" "I", Cond.fieldLink RX4 46 "ChargeStages$State" "tick" "I"]
def wsX1_add_r2 : List Cond := [Cond.fieldLink RX4 49 "ChargeStages$State" "pausedTicks" "I", Cond.fieldLink RX4 52 "ChargeStages$State" "wasPaused" "Z", Cond.fieldLink RX4 56 "ChargeStages$State" "timesDone" "I", Cond.fieldLink RX4 59 "ChargeStages$State" "timesAtFault" "I", Cond.methodLink RX4 71 yX0_copyFrom, Cond.instanceMethod yX0_copyFrom, Cond.selects RX0 yX0_copyFrom yX0_copyFrom, Cond.initialized RX0, Cond.code yX0_copyFrom cX0_copyFrom 2 none, Cond.fieldLink RX0 9 "ChargeStages$Battery" "cells" "I", Cond.fieldLink RX0 15 "ChargeStages$Battery" "charge" "[I", Cond.methodLink RX0 46 arraycopyName, Cond.fieldLink RX0 19 "ChargeStages$Battery" "rest" "[I", Cond.fieldLink RX0 22 "ChargeStages$Battery" "cameIn" "[I", Cond.fieldLink RX0 25 "ChargeStages$Battery" "stored" "[I", Cond.fieldLink RX0 28 "ChargeStages$Battery" "spilled" "[I", Cond.fieldLink RX0 31 "ChargeStages$Battery" "bled" "[I", Cond.fieldLink RX0 34 "ChargeStages$Battery" "used" "[I", Cond.methodLink RX4 75 yX3_copyFrom, Cond.instanceMethod yX3_copyFrom, Cond.selects RX3 yX3_copyFrom yX3_copyFrom, Cond.initialized RX3, Cond.code yX3_copyFrom cX3_copyFrom 2 none, Cond.fieldLink RX3 9 "ChargeStages$Profile" "stages" "I"]
def wsX1_add_r3 : List Cond := [Cond.fieldLink RX3 15 "ChargeStages$Profile" "kind" "[I", Cond.methodLink RX3 28 arraycopyName, Cond.fieldLink RX3 19 "ChargeStages$Profile" "first" "[I", Cond.fieldLink RX3 22 "ChargeStages$Profile" "second" "[I", Cond.fieldLink RX3 25 "ChargeStages$Profile" "timer" "[I", Cond.methodLink RX4 78 yX2_copyFrom, Cond.instanceMethod yX2_copyFrom, Cond.selects RX2 yX2_copyFrom yX2_copyFrom, Cond.initialized RX2, Cond.code yX2_copyFrom cX2_copyFrom 2 none, Cond.fieldLink RX2 9 "ChargeStages$Log" "events" "I", Cond.fieldLink RX2 15 "ChargeStages$Log" "next" "I", Cond.fieldLink RX2 18 "ChargeStages$Log" "kind" "[I", Cond.methodLink RX2 34 arraycopyName, Cond.fieldLink RX2 22 "ChargeStages$Log" "tick" "[I", Cond.fieldLink RX2 25 "ChargeStages$Log" "stage" "[I"]
def wsX1_add : List Cond := .code yX1_add cX1_add 2 none :: ((wsX1_add_r1 ++ (wsX1_add_r2 ++ wsX1_add_r3)) ++ wsX10 ++ wsX40 ++ wsX00 ++ wsX30 ++ wsX20)
def wsX1_takeInto_r1 : List Cond := [Cond.fieldLink RX1 9 "ChargeStages$History" "states" "I", Cond.fieldLink RX1 17 "ChargeStages$History" "kept" "[LChargeStages$State;", Cond.methodLink RX1 25 yX4_copyFrom, Cond.instanceMethod yX4_copyFrom, Cond.selects RX4 yX4_copyFrom yX4_copyFrom, Cond.initialized RX4, Cond.code yX4_copyFrom cX4_copyFrom 2 none, Cond.fieldLink RX4 9 "ChargeStages$State" "settings" "[I", Cond.methodLink RX4 65 arraycopyName, Cond.native arraycopyName, Cond.static arraycopyName, Cond.initialized "java/lang/System", Cond.fieldLink RX4 18 "ChargeStages$State" "row" "LChargeStages$Battery;", Cond.fieldLink RX4 25 "ChargeStages$State" "profile" "LChargeStages$Profile;", Cond.fieldLink RX4 32 "ChargeStages$State" "log" "LChargeStages$Log;", Cond.fieldLink RX4 36 "ChargeStages$State" "mode" "I", Cond.fieldLink RX4 40 "ChargeStages$State" "stage" "I", Cond.fieldLink RX4 43 "ChargeStages$State" "lasted" "I", Cond.fieldLink RX4 46 "ChargeStages$State" "tick" "I", Cond.fieldLink RX4 49 "ChargeStages$State" "pausedTicks" "I", Cond.fieldLink RX4 52 "ChargeStages$State" "wasPaused" "Z", Cond.fieldLink RX4 56 "ChargeStages$State" "timesDone" "I", Cond.fieldLink RX4 59 "ChargeStages$State" "timesAtFault" "I", Cond.methodLink RX4 71 yX0_copyFrom]
def wsX1_takeInto_r2 : List Cond := [Cond.instanceMethod yX0_copyFrom, Cond.selects RX0 yX0_copyFrom yX0_copyFrom, Cond.initialized RX0, Cond.code yX0_copyFrom cX0_copyFrom 2 none, Cond.fieldLink RX0 9 "ChargeStages$Battery" "cells" "I", Cond.fieldLink RX0 15 "ChargeStages$Battery" "charge" "[I", Cond.methodLink RX0 46 arraycopyName, Cond.fieldLink RX0 19 "ChargeStages$Battery" "rest" "[I", Cond.fieldLink RX0 22 "ChargeStages$Battery" "cameIn" "[I", Cond.fieldLink RX0 25 "ChargeStages$Battery" "stored" "[I", Cond.fieldLink RX0 28 "ChargeStages$Battery" "spilled" "[I", Cond.fieldLink RX0 31 "ChargeStages$Battery" "bled" "[I", Cond.fieldLink RX0 34 "ChargeStages$Battery" "used" "[I", Cond.methodLink RX4 75 yX3_copyFrom, Cond.instanceMethod yX3_copyFrom, Cond.selects RX3 yX3_copyFrom yX3_copyFrom, Cond.initialized RX3, Cond.code yX3_copyFrom cX3_copyFrom 2 none, Cond.fieldLink RX3 9 "ChargeStages$Profile" "stages" "I", Cond.fieldLink RX3 15 "ChargeStages$Profile" "kind" "[I", Cond.methodLink RX3 28 arraycopyName, Cond.fieldLink RX3 19 "ChargeStages$Profile" "first" "[I", Cond.fieldLink RX3 22 "ChargeStages$Profile" "second" "[I", Cond.fieldLink RX3 25 "ChargeStages$Profile" "timer" "[I"]
def wsX1_takeInto_r3 : List Cond := [Cond.methodLink RX4 78 yX2_copyFrom, Cond.instanceMethod yX2_copyFrom, Cond.selects RX2 yX2_copyFrom yX2_copyFrom, Cond.initialized RX2, Cond.code yX2_copyFrom cX2_copyFrom 2 none, Cond.fieldLink RX2 9 "ChargeStages$Log" "events" "I", Cond.fieldLink RX2 15 "ChargeStages$Log" "next" "I", Cond.fieldLink RX2 18 "ChargeStages$Log" "kind" "[I", Cond.methodLink RX2 34 arraycopyName, Cond.fieldLink RX2 22 "ChargeStages$Log" "tick" "[I", Cond.fieldLink RX2 25 "ChargeStages$Log" "stage" "[I"]
def wsX1_takeInto : List Cond := .code yX1_takeInto cX1_takeInto 2 none :: ((wsX1_takeInto_r1 ++ (wsX1_takeInto_r2 ++ wsX1_takeInto_r3)) ++ wsX10 ++ wsX40 ++ wsX00 ++ wsX30 ++ wsX20)
def wsX2_add : List Cond := .code yX2_add cX2_add 4 none :: ([.fieldLink RX2 18 "ChargeStages$Log" "kind" "[I", .fieldLink RX2 15 "ChargeStages$Log" "next" "I", .fieldLink RX2 22 "ChargeStages$Log" "tick" "[I", .fieldLink RX2 25 "ChargeStages$Log" "stage" "[I", .fieldLink RX2 9 "ChargeStages$Log" "events" "I"] ++ wsX20)
def wsJ9_floorMod_7cf53 : List Cond := .code yJ9_floorMod_7cf53 cJ9_floorMod_7cf53 3 (some .int) :: ([])
def wsX2_placeOf : List Cond := .code yX2_placeOf cX2_placeOf 2 (some .int) :: ([.fieldLink RX2 15 "ChargeStages$Log" "next" "I", .methodLink RX2 28 yJ9_floorMod_7cf53, .static yJ9_floorMod_7cf53, .initialized RJ9, .code yJ9_floorMod_7cf53 cJ9_floorMod_7cf53 3 (some .int)] ++ wsX20)
def wsX3_has : List Cond := .code yX3_has cX3_has 2 (some .boolean) :: ([.fieldLink RX3 9 "ChargeStages$Profile" "stages" "I"] ++ wsX30)
def wsX3_addStage : List Cond := .code yX3_addStage cX3_addStage 2 (some .boolean) :: ([.fieldLink RX3 9 "ChargeStages$Profile" "stages" "I", .fieldLink RX3 15 "ChargeStages$Profile" "kind" "[I", .fieldLink RX3 19 "ChargeStages$Profile" "first" "[I", .fieldLink RX3 22 "ChargeStages$Profile" "second" "[I", .fieldLink RX3 25 "ChargeStages$Profile" "timer" "[I"] ++ wsX30)
def wsX6_isIn : List Cond := .code yX6_isIn cX6_isIn 3 (some .boolean) :: ([])
def wsX3_hasNumbersInRange : List Cond := .code yX3_hasNumbersInRange cX3_hasNumbersInRange 2 (some .boolean) :: ([.fieldLink RX3 15 "ChargeStages$Profile" "kind" "[I", .fieldLink RX3 19 "ChargeStages$Profile" "first" "[I", .fieldLink RX3 22 "ChargeStages$Profile" "second" "[I", .static yX6_isIn, .initialized RX6, .code yX6_isIn cX6_isIn 3 (some .boolean)] ++ wsX30)
def wsX3_isInRange : List Cond := .code yX3_isInRange cX3_isInRange 2 (some .boolean) :: ([.fieldLink RX3 9 "ChargeStages$Profile" "stages" "I", .fieldLink RX3 25 "ChargeStages$Profile" "timer" "[I", .methodLink RX3 34 yX3_hasNumbersInRange, .instanceMethod yX3_hasNumbersInRange, .selects RX3 yX3_hasNumbersInRange yX3_hasNumbersInRange, .initialized RX3, .code yX3_hasNumbersInRange cX3_hasNumbersInRange 2 (some .boolean), .fieldLink RX3 15 "ChargeStages$Profile" "kind" "[I", .fieldLink RX3 19 "ChargeStages$Profile" "first" "[I", .fieldLink RX3 22 "ChargeStages$Profile" "second" "[I", .static yX6_isIn, .initialized RX6, .code yX6_isIn cX6_isIn 3 (some .boolean)] ++ wsX30)
def wsX3_limitOf : List Cond := .code yX3_limitOf cX3_limitOf 2 (some .int) :: ([.fieldLink RX3 15 "ChargeStages$Profile" "kind" "[I", .fieldLink RX3 19 "ChargeStages$Profile" "first" "[I", .fieldLink RX3 22 "ChargeStages$Profile" "second" "[I"] ++ wsX30)
def wsX4_setUp : List Cond := .code yX4_setUp cX4_setUp 1 none :: ([.fieldLink RX4 9 "ChargeStages$State" "settings" "[I", .methodLink RX4 65 arraycopyName, .native arraycopyName, .static arraycopyName, .initialized "java/lang/System"] ++ wsX40)
def wsX4_allows : List Cond := .code yX4_allows cX4_allows 3 (some .boolean) :: ([.fieldLink RX4 18 "ChargeStages$State" "row" "LChargeStages$Battery;", .fieldLink RX4 9 "ChargeStages$State" "settings" "[I", .methodLink RX4 81 yX0_greatestCharge, .instanceMethod yX0_greatestCharge, .selects RX0 yX0_greatestCharge yX0_greatestCharge, .initialized RX0, .code yX0_greatestCharge cX0_greatestCharge 3 (some .int), .fieldLink RX0 15 "ChargeStages$Battery" "charge" "[I", .fieldLink RX0 9 "ChargeStages$Battery" "cells" "I", .methodLink RX0 43 Lib.Math.max.name, .static Lib.Math.max.name, .initialized "java/lang/Math", .code Lib.Math.max.name Lib.Math.max.code 2 (some .int)] ++ wsX40 ++ wsX00)
def wsX4_isPaused : List Cond := .code yX4_isPaused cX4_isPaused 1 (some .boolean) :: ([.fieldLink RX4 36 "ChargeStages$State" "mode" "I", .fieldLink RX4 9 "ChargeStages$State" "settings" "[I", .static yX6_isIn, .initialized RX6, .code yX6_isIn cX6_isIn 3 (some .boolean)] ++ wsX40)
def wsX4_limitOfNow : List Cond := .code yX4_limitOfNow cX4_limitOfNow 2 (some .int) :: ([.fieldLink RX4 25 "ChargeStages$State" "profile" "LChargeStages$Profile;", .fieldLink RX4 9 "ChargeStages$State" "settings" "[I", .methodLink RX4 89 yX3_limitOf, .instanceMethod yX3_limitOf, .selects RX3 yX3_limitOf yX3_limitOf, .initialized RX3, .code yX3_limitOf cX3_limitOf 2 (some .int), .fieldLink RX3 15 "ChargeStages$Profile" "kind" "[I", .fieldLink RX3 19 "ChargeStages$Profile" "first" "[I", .fieldLink RX3 22 "ChargeStages$Profile" "second" "[I"] ++ wsX40 ++ wsX30)
def wsX4_greatestVoltage : List Cond := .code yX4_greatestVoltage cX4_greatestVoltage 2 (some .int) :: ([.fieldLink RX4 18 "ChargeStages$State" "row" "LChargeStages$Battery;", .fieldLink RX4 9 "ChargeStages$State" "settings" "[I", .methodLink RX4 81 yX0_greatestCharge, .instanceMethod yX0_greatestCharge, .selects RX0 yX0_greatestCharge yX0_greatestCharge, .initialized RX0, .code yX0_greatestCharge cX0_greatestCharge 3 (some .int), .fieldLink RX0 15 "ChargeStages$Battery" "charge" "[I", .fieldLink RX0 9 "ChargeStages$Battery" "cells" "I", .methodLink RX0 43 Lib.Math.max.name, .static Lib.Math.max.name, .initialized "java/lang/Math", .code Lib.Math.max.name Lib.Math.max.code 2 (some .int), .static yX6_baseVoltage, .initialized RX6, .code yX6_baseVoltage cX6_baseVoltage 2 (some .int)] ++ wsX40 ++ wsX00)
def wsX4_begin : List Cond := .code yX4_begin cX4_begin 2 none :: ([.fieldLink RX4 40 "ChargeStages$State" "stage" "I", .fieldLink RX4 43 "ChargeStages$State" "lasted" "I", .fieldLink RX4 32 "ChargeStages$State" "log" "LChargeStages$Log;", .fieldLink RX4 46 "ChargeStages$State" "tick" "I", .methodLink RX4 101 yX2_add, .instanceMethod yX2_add, .selects RX2 yX2_add yX2_add, .initialized RX2, .code yX2_add cX2_add 4 none, .fieldLink RX2 18 "ChargeStages$Log" "kind" "[I", .fieldLink RX2 15 "ChargeStages$Log" "next" "I", .fieldLink RX2 22 "ChargeStages$Log" "tick" "[I", .fieldLink RX2 25 "ChargeStages$Log" "stage" "[I", .fieldLink RX2 9 "ChargeStages$Log" "events" "I"] ++ wsX40 ++ wsX20)
def wsX4_beginCharging : List Cond := .code yX4_beginCharging cX4_beginCharging 1 none :: ([.fieldLink RX4 36 "ChargeStages$State" "mode" "I", .fieldLink RX4 52 "ChargeStages$State" "wasPaused" "Z", .methodLink RX4 97 yX4_begin, .instanceMethod yX4_begin, .selects RX4 yX4_begin yX4_begin, .initialized RX4, .code yX4_begin cX4_begin 2 none, .fieldLink RX4 40 "ChargeStages$State" "stage" "I", .fieldLink RX4 43 "ChargeStages$State" "lasted" "I", .fieldLink RX4 32 "ChargeStages$State" "log" "LChargeStages$Log;", .fieldLink RX4 46 "ChargeStages$State" "tick" "I", .methodLink RX4 101 yX2_add, .instanceMethod yX2_add, .selects RX2 yX2_add yX2_add, .initialized RX2, .code yX2_add cX2_add 4 none, .fieldLink RX2 18 "ChargeStages$Log" "kind" "[I", .fieldLink RX2 15 "ChargeStages$Log" "next" "I", .fieldLink RX2 22 "ChargeStages$Log" "tick" "[I", .fieldLink RX2 25 "ChargeStages$Log" "stage" "[I", .fieldLink RX2 9 "ChargeStages$Log" "events" "I"] ++ wsX40 ++ wsX20)
def wsX4_countPausedTick : List Cond := .code yX4_countPausedTick cX4_countPausedTick 1 none :: ([.fieldLink RX4 52 "ChargeStages$State" "wasPaused" "Z", .fieldLink RX4 32 "ChargeStages$State" "log" "LChargeStages$Log;", .fieldLink RX4 46 "ChargeStages$State" "tick" "I", .fieldLink RX4 40 "ChargeStages$State" "stage" "I", .fieldLink RX4 49 "ChargeStages$State" "pausedTicks" "I", .methodLink RX4 101 yX2_add, .instanceMethod yX2_add, .selects RX2 yX2_add yX2_add, .initialized RX2, .code yX2_add cX2_add 4 none, .fieldLink RX2 18 "ChargeStages$Log" "kind" "[I", .fieldLink RX2 15 "ChargeStages$Log" "next" "I", .fieldLink RX2 22 "ChargeStages$Log" "tick" "[I", .fieldLink RX2 25 "ChargeStages$Log" "stage" "[I", .fieldLink RX2 9 "ChargeStages$Log" "events" "I"] ++ wsX40 ++ wsX20)
def wsX4_heldCurrent : List Cond := .code yX4_heldCurrent cX4_heldCurrent 3 (some .int) :: ([.fieldLink RX4 9 "ChargeStages$State" "settings" "[I", .methodLink RX4 161 Lib.Math.min.name, .static Lib.Math.min.name, .initialized "java/lang/Math", .code Lib.Math.min.name Lib.Math.min.code 2 (some .int)] ++ wsX40)
def wsX4_currentOfStage_r1 : List Cond := [Cond.fieldLink RX4 25 "ChargeStages$State" "profile" "LChargeStages$Profile;", Cond.fieldLink RX4 40 "ChargeStages$State" "stage" "I", Cond.fieldLink RX4 143 "ChargeStages$Profile" "kind" "[I", Cond.fieldLink RX4 146 "ChargeStages$Profile" "first" "[I", Cond.fieldLink RX4 158 "ChargeStages$Profile" "second" "[I", Cond.methodLink RX4 137 yX3_has, Cond.instanceMethod yX3_has, Cond.selects RX3 yX3_has yX3_has, Cond.initialized RX3, Cond.code yX3_has cX3_has 2 (some .boolean), Cond.fieldLink RX3 9 "ChargeStages$Profile" "stages" "I", Cond.methodLink RX4 149 yX4_limitOfNow, Cond.instanceMethod yX4_limitOfNow, Cond.selects RX4 yX4_limitOfNow yX4_limitOfNow, Cond.initialized RX4, Cond.code yX4_limitOfNow cX4_limitOfNow 2 (some .int), Cond.fieldLink RX4 9 "ChargeStages$State" "settings" "[I", Cond.methodLink RX4 89 yX3_limitOf, Cond.instanceMethod yX3_limitOf, Cond.selects RX3 yX3_limitOf yX3_limitOf, Cond.code yX3_limitOf cX3_limitOf 2 (some .int), Cond.fieldLink RX3 15 "ChargeStages$Profile" "kind" "[I", Cond.fieldLink RX3 19 "ChargeStages$Profile" "first" "[I", Cond.fieldLink RX3 22 "ChargeStages$Profile" "second" "[I"]
def wsX4_currentOfStage_r2 : List Cond := [Cond.methodLink RX4 152 yX4_greatestVoltage, Cond.instanceMethod yX4_greatestVoltage, Cond.selects RX4 yX4_greatestVoltage yX4_greatestVoltage, Cond.code yX4_greatestVoltage cX4_greatestVoltage 2 (some .int), Cond.fieldLink RX4 18 "ChargeStages$State" "row" "LChargeStages$Battery;", Cond.methodLink RX4 81 yX0_greatestCharge, Cond.instanceMethod yX0_greatestCharge, Cond.selects RX0 yX0_greatestCharge yX0_greatestCharge, Cond.initialized RX0, Cond.code yX0_greatestCharge cX0_greatestCharge 3 (some .int), Cond.fieldLink RX0 15 "ChargeStages$Battery" "charge" "[I", Cond.fieldLink RX0 9 "ChargeStages$Battery" "cells" "I", Cond.methodLink RX0 43 Lib.Math.max.name, Cond.static Lib.Math.max.name, Cond.initialized "java/lang/Math", Cond.code Lib.Math.max.name Lib.Math.max.code 2 (some .int), Cond.static yX6_baseVoltage, Cond.initialized RX6, Cond.code yX6_baseVoltage cX6_baseVoltage 2 (some .int), Cond.methodLink RX4 155 yX4_heldCurrent, Cond.instanceMethod yX4_heldCurrent, Cond.selects RX4 yX4_heldCurrent yX4_heldCurrent, Cond.code yX4_heldCurrent cX4_heldCurrent 3 (some .int), Cond.methodLink RX4 161 Lib.Math.min.name]
def wsX4_currentOfStage_r3 : List Cond := [Cond.static Lib.Math.min.name, Cond.code Lib.Math.min.name Lib.Math.min.code 2 (some .int)]
def wsX4_currentOfStage : List Cond := .code yX4_currentOfStage cX4_currentOfStage 2 (some .int) :: ((wsX4_currentOfStage_r1 ++ (wsX4_currentOfStage_r2 ++ wsX4_currentOfStage_r3)) ++ wsX40 ++ wsX30 ++ wsX00)
def wsX4_endsBehind_r1 : List Cond := [Cond.fieldLink RX4 25 "ChargeStages$State" "profile" "LChargeStages$Profile;", Cond.fieldLink RX4 40 "ChargeStages$State" "stage" "I", Cond.fieldLink RX4 143 "ChargeStages$Profile" "kind" "[I", Cond.fieldLink RX4 43 "ChargeStages$State" "lasted" "I", Cond.fieldLink RX4 146 "ChargeStages$Profile" "first" "[I", Cond.methodLink RX4 137 yX3_has, Cond.instanceMethod yX3_has, Cond.selects RX3 yX3_has yX3_has, Cond.initialized RX3, Cond.code yX3_has cX3_has 2 (some .boolean), Cond.fieldLink RX3 9 "ChargeStages$Profile" "stages" "I", Cond.methodLink RX4 152 yX4_greatestVoltage, Cond.instanceMethod yX4_greatestVoltage, Cond.selects RX4 yX4_greatestVoltage yX4_greatestVoltage, Cond.initialized RX4, Cond.code yX4_greatestVoltage cX4_greatestVoltage 2 (some .int), Cond.fieldLink RX4 18 "ChargeStages$State" "row" "LChargeStages$Battery;", Cond.fieldLink RX4 9 "ChargeStages$State" "settings" "[I", Cond.methodLink RX4 81 yX0_greatestCharge, Cond.instanceMethod yX0_greatestCharge, Cond.selects RX0 yX0_greatestCharge yX0_greatestCharge, Cond.initialized RX0, Cond.code yX0_greatestCharge cX0_greatestCharge 3 (some .int), Cond.fieldLink RX0 15 "ChargeStages$Battery" "charge" "[I"]
def wsX4_endsBehind_r2 : List Cond := [Cond.fieldLink RX0 9 "ChargeStages$Battery" "cells" "I", Cond.methodLink RX0 43 Lib.Math.max.name, Cond.static Lib.Math.max.name, Cond.initialized "java/lang/Math", Cond.code Lib.Math.max.name Lib.Math.max.code 2 (some .int), Cond.static yX6_baseVoltage, Cond.initialized RX6, Cond.code yX6_baseVoltage cX6_baseVoltage 2 (some .int), Cond.methodLink RX4 149 yX4_limitOfNow, Cond.instanceMethod yX4_limitOfNow, Cond.selects RX4 yX4_limitOfNow yX4_limitOfNow, Cond.code yX4_limitOfNow cX4_limitOfNow 2 (some .int), Cond.methodLink RX4 89 yX3_limitOf, Cond.instanceMethod yX3_limitOf, Cond.selects RX3 yX3_limitOf yX3_limitOf, Cond.code yX3_limitOf cX3_limitOf 2 (some .int), Cond.fieldLink RX3 15 "ChargeStages$Profile" "kind" "[I", Cond.fieldLink RX3 19 "ChargeStages$Profile" "first" "[I", Cond.fieldLink RX3 22 "ChargeStages$Profile" "second" "[I"]
def wsX4_endsBehind : List Cond := .code yX4_endsBehind cX4_endsBehind 2 (some .boolean) :: ((wsX4_endsBehind_r1 ++ wsX4_endsBehind_r2) ++ wsX40 ++ wsX30 ++ wsX00)
def wsX4_endStage_r1 : List Cond := [Cond.fieldLink RX4 25 "ChargeStages$State" "profile" "LChargeStages$Profile;", Cond.fieldLink RX4 40 "ChargeStages$State" "stage" "I", Cond.fieldLink RX4 36 "ChargeStages$State" "mode" "I", Cond.fieldLink RX4 56 "ChargeStages$State" "timesDone" "I", Cond.fieldLink RX4 32 "ChargeStages$State" "log" "LChargeStages$Log;", Cond.fieldLink RX4 46 "ChargeStages$State" "tick" "I", Cond.methodLink RX4 137 yX3_has, Cond.instanceMethod yX3_has, Cond.selects RX3 yX3_has yX3_has, Cond.initialized RX3, Cond.code yX3_has cX3_has 2 (some .boolean), Cond.fieldLink RX3 9 "ChargeStages$Profile" "stages" "I", Cond.methodLink RX4 97 yX4_begin, Cond.instanceMethod yX4_begin, Cond.selects RX4 yX4_begin yX4_begin, Cond.initialized RX4, Cond.code yX4_begin cX4_begin 2 none, Cond.fieldLink RX4 43 "ChargeStages$State" "lasted" "I", Cond.methodLink RX4 101 yX2_add, Cond.instanceMethod yX2_add, Cond.selects RX2 yX2_add yX2_add, Cond.initialized RX2, Cond.code yX2_add cX2_add 4 none, Cond.fieldLink RX2 18 "ChargeStages$Log" "kind" "[I"]
def wsX4_endStage_r2 : List Cond := [Cond.fieldLink RX2 15 "ChargeStages$Log" "next" "I", Cond.fieldLink RX2 22 "ChargeStages$Log" "tick" "[I", Cond.fieldLink RX2 25 "ChargeStages$Log" "stage" "[I", Cond.fieldLink RX2 9 "ChargeStages$Log" "events" "I"]
def wsX4_endStage : List Cond := .code yX4_endStage cX4_endStage 1 none :: ((wsX4_endStage_r1 ++ wsX4_endStage_r2) ++ wsX40 ++ wsX30 ++ wsX20)
def wsX4_hasRunOut : List Cond := .code yX4_hasRunOut cX4_hasRunOut 1 (some .boolean) :: ([.fieldLink RX4 25 "ChargeStages$State" "profile" "LChargeStages$Profile;", .fieldLink RX4 40 "ChargeStages$State" "stage" "I", .fieldLink RX4 140 "ChargeStages$Profile" "timer" "[I", .fieldLink RX4 43 "ChargeStages$State" "lasted" "I", .methodLink RX4 137 yX3_has, .instanceMethod yX3_has, .selects RX3 yX3_has yX3_has, .initialized RX3, .code yX3_has cX3_has 2 (some .boolean), .fieldLink RX3 9 "ChargeStages$Profile" "stages" "I"] ++ wsX40 ++ wsX30)
def wsX4_charge_r1 : List Cond := [Cond.fieldLink RX4 18 "ChargeStages$State" "row" "LChargeStages$Battery;", Cond.fieldLink RX4 9 "ChargeStages$State" "settings" "[I", Cond.fieldLink RX4 43 "ChargeStages$State" "lasted" "I", Cond.fieldLink RX4 36 "ChargeStages$State" "mode" "I", Cond.fieldLink RX4 59 "ChargeStages$State" "timesAtFault" "I", Cond.fieldLink RX4 32 "ChargeStages$State" "log" "LChargeStages$Log;", Cond.fieldLink RX4 46 "ChargeStages$State" "tick" "I", Cond.fieldLink RX4 40 "ChargeStages$State" "stage" "I", Cond.methodLink RX4 121 yX4_currentOfStage, Cond.instanceMethod yX4_currentOfStage, Cond.selects RX4 yX4_currentOfStage yX4_currentOfStage, Cond.initialized RX4, Cond.code yX4_currentOfStage cX4_currentOfStage 2 (some .int), Cond.fieldLink RX4 25 "ChargeStages$State" "profile" "LChargeStages$Profile;", Cond.fieldLink RX4 143 "ChargeStages$Profile" "kind" "[I", Cond.fieldLink RX4 146 "ChargeStages$Profile" "first" "[I", Cond.fieldLink RX4 158 "ChargeStages$Profile" "second" "[I", Cond.methodLink RX4 137 yX3_has, Cond.instanceMethod yX3_has, Cond.selects RX3 yX3_has yX3_has, Cond.initialized RX3, Cond.code yX3_has cX3_has 2 (some .boolean), Cond.fieldLink RX3 9 "ChargeStages$Profile" "stages" "I", Cond.methodLink RX4 149 yX4_limitOfNow]
def wsX4_charge_r2 : List Cond := [Cond.instanceMethod yX4_limitOfNow, Cond.selects RX4 yX4_limitOfNow yX4_limitOfNow, Cond.code yX4_limitOfNow cX4_limitOfNow 2 (some .int), Cond.methodLink RX4 89 yX3_limitOf, Cond.instanceMethod yX3_limitOf, Cond.selects RX3 yX3_limitOf yX3_limitOf, Cond.code yX3_limitOf cX3_limitOf 2 (some .int), Cond.fieldLink RX3 15 "ChargeStages$Profile" "kind" "[I", Cond.fieldLink RX3 19 "ChargeStages$Profile" "first" "[I", Cond.fieldLink RX3 22 "ChargeStages$Profile" "second" "[I", Cond.methodLink RX4 152 yX4_greatestVoltage, Cond.instanceMethod yX4_greatestVoltage, Cond.selects RX4 yX4_greatestVoltage yX4_greatestVoltage, Cond.code yX4_greatestVoltage cX4_greatestVoltage 2 (some .int), Cond.methodLink RX4 81 yX0_greatestCharge, Cond.instanceMethod yX0_greatestCharge, Cond.selects RX0 yX0_greatestCharge yX0_greatestCharge, Cond.initialized RX0, Cond.code yX0_greatestCharge cX0_greatestCharge 3 (some .int), Cond.fieldLink RX0 15 "ChargeStages$Battery" "charge" "[I", Cond.fieldLink RX0 9 "ChargeStages$Battery" "cells" "I", Cond.methodLink RX0 43 Lib.Math.max.name, Cond.static Lib.Math.max.name, Cond.initialized "java/lang/Math"]
def wsX4_charge_r3 : List Cond := [Cond.code Lib.Math.max.name Lib.Math.max.code 2 (some .int), Cond.static yX6_baseVoltage, Cond.initialized RX6, Cond.code yX6_baseVoltage cX6_baseVoltage 2 (some .int), Cond.methodLink RX4 155 yX4_heldCurrent, Cond.instanceMethod yX4_heldCurrent, Cond.selects RX4 yX4_heldCurrent yX4_heldCurrent, Cond.code yX4_heldCurrent cX4_heldCurrent 3 (some .int), Cond.methodLink RX4 161 Lib.Math.min.name, Cond.static Lib.Math.min.name, Cond.code Lib.Math.min.name Lib.Math.min.code 2 (some .int), Cond.methodLink RX4 124 yX0_takeIn, Cond.instanceMethod yX0_takeIn, Cond.selects RX0 yX0_takeIn yX0_takeIn, Cond.code yX0_takeIn cX0_takeIn 9 none, Cond.fieldLink RX0 19 "ChargeStages$Battery" "rest" "[I", Cond.fieldLink RX0 22 "ChargeStages$Battery" "cameIn" "[I", Cond.fieldLink RX0 25 "ChargeStages$Battery" "stored" "[I", Cond.fieldLink RX0 28 "ChargeStages$Battery" "spilled" "[I", Cond.methodLink RX4 127 yX4_endsBehind, Cond.instanceMethod yX4_endsBehind, Cond.selects RX4 yX4_endsBehind yX4_endsBehind, Cond.code yX4_endsBehind cX4_endsBehind 2 (some .boolean), Cond.methodLink RX4 131 yX4_endStage]
def wsX4_charge_r4 : List Cond := [Cond.instanceMethod yX4_endStage, Cond.selects RX4 yX4_endStage yX4_endStage, Cond.code yX4_endStage cX4_endStage 1 none, Cond.fieldLink RX4 56 "ChargeStages$State" "timesDone" "I", Cond.methodLink RX4 97 yX4_begin, Cond.instanceMethod yX4_begin, Cond.selects RX4 yX4_begin yX4_begin, Cond.code yX4_begin cX4_begin 2 none, Cond.methodLink RX4 101 yX2_add, Cond.instanceMethod yX2_add, Cond.selects RX2 yX2_add yX2_add, Cond.initialized RX2, Cond.code yX2_add cX2_add 4 none, Cond.fieldLink RX2 18 "ChargeStages$Log" "kind" "[I", Cond.fieldLink RX2 15 "ChargeStages$Log" "next" "I", Cond.fieldLink RX2 22 "ChargeStages$Log" "tick" "[I", Cond.fieldLink RX2 25 "ChargeStages$Log" "stage" "[I", Cond.fieldLink RX2 9 "ChargeStages$Log" "events" "I", Cond.methodLink RX4 134 yX4_hasRunOut, Cond.instanceMethod yX4_hasRunOut, Cond.selects RX4 yX4_hasRunOut yX4_hasRunOut, Cond.code yX4_hasRunOut cX4_hasRunOut 1 (some .boolean), Cond.fieldLink RX4 140 "ChargeStages$Profile" "timer" "[I"]
def wsX4_charge : List Cond := .code yX4_charge cX4_charge 3 none :: ((wsX4_charge_r1 ++ (wsX4_charge_r2 ++ (wsX4_charge_r3 ++ wsX4_charge_r4))) ++ wsX40 ++ wsX30 ++ wsX00 ++ wsX20)
def wsX4_passOneTick_r1 : List Cond := [Cond.fieldLink RX4 36 "ChargeStages$State" "mode" "I", Cond.fieldLink RX4 52 "ChargeStages$State" "wasPaused" "Z", Cond.fieldLink RX4 9 "ChargeStages$State" "settings" "[I", Cond.fieldLink RX4 18 "ChargeStages$State" "row" "LChargeStages$Battery;", Cond.fieldLink RX4 46 "ChargeStages$State" "tick" "I", Cond.methodLink RX4 108 yX4_isPaused, Cond.instanceMethod yX4_isPaused, Cond.selects RX4 yX4_isPaused yX4_isPaused, Cond.initialized RX4, Cond.code yX4_isPaused cX4_isPaused 1 (some .boolean), Cond.static yX6_isIn, Cond.initialized RX6, Cond.code yX6_isIn cX6_isIn 3 (some .boolean), Cond.methodLink RX4 112 yX4_countPausedTick, Cond.instanceMethod yX4_countPausedTick, Cond.selects RX4 yX4_countPausedTick yX4_countPausedTick, Cond.code yX4_countPausedTick cX4_countPausedTick 1 none, Cond.fieldLink RX4 32 "ChargeStages$State" "log" "LChargeStages$Log;", Cond.fieldLink RX4 40 "ChargeStages$State" "stage" "I", Cond.fieldLink RX4 49 "ChargeStages$State" "pausedTicks" "I", Cond.methodLink RX4 101 yX2_add, Cond.instanceMethod yX2_add, Cond.selects RX2 yX2_add yX2_add, Cond.initialized RX2]
def wsX4_passOneTick_r2 : List Cond := [Cond.code yX2_add cX2_add 4 none, Cond.fieldLink RX2 18 "ChargeStages$Log" "kind" "[I", Cond.fieldLink RX2 15 "ChargeStages$Log" "next" "I", Cond.fieldLink RX2 22 "ChargeStages$Log" "tick" "[I", Cond.fieldLink RX2 25 "ChargeStages$Log" "stage" "[I", Cond.fieldLink RX2 9 "ChargeStages$Log" "events" "I", Cond.methodLink RX4 115 yX4_charge, Cond.instanceMethod yX4_charge, Cond.selects RX4 yX4_charge yX4_charge, Cond.code yX4_charge cX4_charge 3 none, Cond.fieldLink RX4 43 "ChargeStages$State" "lasted" "I", Cond.fieldLink RX4 59 "ChargeStages$State" "timesAtFault" "I", Cond.methodLink RX4 121 yX4_currentOfStage, Cond.instanceMethod yX4_currentOfStage, Cond.selects RX4 yX4_currentOfStage yX4_currentOfStage, Cond.code yX4_currentOfStage cX4_currentOfStage 2 (some .int), Cond.fieldLink RX4 25 "ChargeStages$State" "profile" "LChargeStages$Profile;", Cond.fieldLink RX4 143 "ChargeStages$Profile" "kind" "[I", Cond.fieldLink RX4 146 "ChargeStages$Profile" "first" "[I", Cond.fieldLink RX4 158 "ChargeStages$Profile" "second" "[I", Cond.methodLink RX4 137 yX3_has, Cond.instanceMethod yX3_has, Cond.selects RX3 yX3_has yX3_has, Cond.initialized RX3]
def wsX4_passOneTick_r3 : List Cond := [Cond.code yX3_has cX3_has 2 (some .boolean), Cond.fieldLink RX3 9 "ChargeStages$Profile" "stages" "I", Cond.methodLink RX4 149 yX4_limitOfNow, Cond.instanceMethod yX4_limitOfNow, Cond.selects RX4 yX4_limitOfNow yX4_limitOfNow, Cond.code yX4_limitOfNow cX4_limitOfNow 2 (some .int), Cond.methodLink RX4 89 yX3_limitOf, Cond.instanceMethod yX3_limitOf, Cond.selects RX3 yX3_limitOf yX3_limitOf, Cond.code yX3_limitOf cX3_limitOf 2 (some .int), Cond.fieldLink RX3 15 "ChargeStages$Profile" "kind" "[I", Cond.fieldLink RX3 19 "ChargeStages$Profile" "first" "[I", Cond.fieldLink RX3 22 "ChargeStages$Profile" "second" "[I", Cond.methodLink RX4 152 yX4_greatestVoltage, Cond.instanceMethod yX4_greatestVoltage, Cond.selects RX4 yX4_greatestVoltage yX4_greatestVoltage, Cond.code yX4_greatestVoltage cX4_greatestVoltage 2 (some .int), Cond.methodLink RX4 81 yX0_greatestCharge, Cond.instanceMethod yX0_greatestCharge, Cond.selects RX0 yX0_greatestCharge yX0_greatestCharge, Cond.initialized RX0, Cond.code yX0_greatestCharge cX0_greatestCharge 3 (some .int), Cond.fieldLink RX0 15 "ChargeStages$Battery" "charge" "[I", Cond.fieldLink RX0 9 "ChargeStages$Battery" "cells" "I"]
def wsX4_passOneTick_r4 : List Cond := [Cond.methodLink RX0 43 Lib.Math.max.name, Cond.static Lib.Math.max.name, Cond.initialized "java/lang/Math", Cond.code Lib.Math.max.name Lib.Math.max.code 2 (some .int), Cond.static yX6_baseVoltage, Cond.code yX6_baseVoltage cX6_baseVoltage 2 (some .int), Cond.methodLink RX4 155 yX4_heldCurrent, Cond.instanceMethod yX4_heldCurrent, Cond.selects RX4 yX4_heldCurrent yX4_heldCurrent, Cond.code yX4_heldCurrent cX4_heldCurrent 3 (some .int), Cond.methodLink RX4 161 Lib.Math.min.name, Cond.static Lib.Math.min.name, Cond.code Lib.Math.min.name Lib.Math.min.code 2 (some .int), Cond.methodLink RX4 124 yX0_takeIn, Cond.instanceMethod yX0_takeIn, Cond.selects RX0 yX0_takeIn yX0_takeIn, Cond.code yX0_takeIn cX0_takeIn 9 none, Cond.fieldLink RX0 19 "ChargeStages$Battery" "rest" "[I", Cond.fieldLink RX0 22 "ChargeStages$Battery" "cameIn" "[I", Cond.fieldLink RX0 25 "ChargeStages$Battery" "stored" "[I", Cond.fieldLink RX0 28 "ChargeStages$Battery" "spilled" "[I", Cond.methodLink RX4 127 yX4_endsBehind, Cond.instanceMethod yX4_endsBehind, Cond.selects RX4 yX4_endsBehind yX4_endsBehind]
def wsX4_passOneTick_r5 : List Cond := [Cond.code yX4_endsBehind cX4_endsBehind 2 (some .boolean), Cond.methodLink RX4 131 yX4_endStage, Cond.instanceMethod yX4_endStage, Cond.selects RX4 yX4_endStage yX4_endStage, Cond.code yX4_endStage cX4_endStage 1 none, Cond.fieldLink RX4 56 "ChargeStages$State" "timesDone" "I", Cond.methodLink RX4 97 yX4_begin, Cond.instanceMethod yX4_begin, Cond.selects RX4 yX4_begin yX4_begin, Cond.code yX4_begin cX4_begin 2 none, Cond.methodLink RX4 134 yX4_hasRunOut, Cond.instanceMethod yX4_hasRunOut, Cond.selects RX4 yX4_hasRunOut yX4_hasRunOut, Cond.code yX4_hasRunOut cX4_hasRunOut 1 (some .boolean), Cond.fieldLink RX4 140 "ChargeStages$Profile" "timer" "[I", Cond.methodLink RX4 118 yX0_loseTo, Cond.instanceMethod yX0_loseTo, Cond.selects RX0 yX0_loseTo yX0_loseTo, Cond.code yX0_loseTo cX0_loseTo 7 none, Cond.methodLink RX0 37 Lib.Math.min.name, Cond.fieldLink RX0 31 "ChargeStages$Battery" "bled" "[I", Cond.methodLink RX0 52 yX0_leastCharge, Cond.instanceMethod yX0_leastCharge, Cond.selects RX0 yX0_leastCharge yX0_leastCharge]
def wsX4_passOneTick_r6 : List Cond := [Cond.code yX0_leastCharge cX0_leastCharge 3 (some .int)]
def wsX4_passOneTick : List Cond := .code yX4_passOneTick cX4_passOneTick 2 none :: ((wsX4_passOneTick_r1 ++ (wsX4_passOneTick_r2 ++ (wsX4_passOneTick_r3 ++ (wsX4_passOneTick_r4 ++ (wsX4_passOneTick_r5 ++ wsX4_passOneTick_r6))))) ++ wsX40 ++ wsX20 ++ wsX30 ++ wsX00)
def wsX4_passTicks_r1 : List Cond := [Cond.methodLink RX4 105 yX4_passOneTick, Cond.instanceMethod yX4_passOneTick, Cond.selects RX4 yX4_passOneTick yX4_passOneTick, Cond.initialized RX4, Cond.code yX4_passOneTick cX4_passOneTick 2 none, Cond.fieldLink RX4 36 "ChargeStages$State" "mode" "I", Cond.fieldLink RX4 52 "ChargeStages$State" "wasPaused" "Z", Cond.fieldLink RX4 9 "ChargeStages$State" "settings" "[I", Cond.fieldLink RX4 18 "ChargeStages$State" "row" "LChargeStages$Battery;", Cond.fieldLink RX4 46 "ChargeStages$State" "tick" "I", Cond.methodLink RX4 108 yX4_isPaused, Cond.instanceMethod yX4_isPaused, Cond.selects RX4 yX4_isPaused yX4_isPaused, Cond.code yX4_isPaused cX4_isPaused 1 (some .boolean), Cond.static yX6_isIn, Cond.initialized RX6, Cond.code yX6_isIn cX6_isIn 3 (some .boolean), Cond.methodLink RX4 112 yX4_countPausedTick, Cond.instanceMethod yX4_countPausedTick, Cond.selects RX4 yX4_countPausedTick yX4_countPausedTick, Cond.code yX4_countPausedTick cX4_countPausedTick 1 none, Cond.fieldLink RX4 32 "ChargeStages$State" "log" "LChargeStages$Log;", Cond.fieldLink RX4 40 "ChargeStages$State" "stage" "I", Cond.fieldLink RX4 49 "ChargeStages$State" "pausedTicks" "I"]
def wsX4_passTicks_r2 : List Cond := [Cond.methodLink RX4 101 yX2_add, Cond.instanceMethod yX2_add, Cond.selects RX2 yX2_add yX2_add, Cond.initialized RX2, Cond.code yX2_add cX2_add 4 none, Cond.fieldLink RX2 18 "ChargeStages$Log" "kind" "[I", Cond.fieldLink RX2 15 "ChargeStages$Log" "next" "I", Cond.fieldLink RX2 22 "ChargeStages$Log" "tick" "[I", Cond.fieldLink RX2 25 "ChargeStages$Log" "stage" "[I", Cond.fieldLink RX2 9 "ChargeStages$Log" "events" "I", Cond.methodLink RX4 115 yX4_charge, Cond.instanceMethod yX4_charge, Cond.selects RX4 yX4_charge yX4_charge, Cond.code yX4_charge cX4_charge 3 none, Cond.fieldLink RX4 43 "ChargeStages$State" "lasted" "I", Cond.fieldLink RX4 59 "ChargeStages$State" "timesAtFault" "I", Cond.methodLink RX4 121 yX4_currentOfStage, Cond.instanceMethod yX4_currentOfStage, Cond.selects RX4 yX4_currentOfStage yX4_currentOfStage, Cond.code yX4_currentOfStage cX4_currentOfStage 2 (some .int), Cond.fieldLink RX4 25 "ChargeStages$State" "profile" "LChargeStages$Profile;", Cond.fieldLink RX4 143 "ChargeStages$Profile" "kind" "[I", Cond.fieldLink RX4 146 "ChargeStages$Profile" "first" "[I", Cond.fieldLink RX4 158 "ChargeStages$Profile" "second" "[I"]
def wsX4_passTicks_r3 : List Cond := [Cond.methodLink RX4 137 yX3_has, Cond.instanceMethod yX3_has, Cond.selects RX3 yX3_has yX3_has, Cond.initialized RX3, Cond.code yX3_has cX3_has 2 (some .boolean), Cond.fieldLink RX3 9 "ChargeStages$Profile" "stages" "I", Cond.methodLink RX4 149 yX4_limitOfNow, Cond.instanceMethod yX4_limitOfNow, Cond.selects RX4 yX4_limitOfNow yX4_limitOfNow, Cond.code yX4_limitOfNow cX4_limitOfNow 2 (some .int), Cond.methodLink RX4 89 yX3_limitOf, Cond.instanceMethod yX3_limitOf, Cond.selects RX3 yX3_limitOf yX3_limitOf, Cond.code yX3_limitOf cX3_limitOf 2 (some .int), Cond.fieldLink RX3 15 "ChargeStages$Profile" "kind" "[I", Cond.fieldLink RX3 19 "ChargeStages$Profile" "first" "[I", Cond.fieldLink RX3 22 "ChargeStages$Profile" "second" "[I", Cond.methodLink RX4 152 yX4_greatestVoltage, Cond.instanceMethod yX4_greatestVoltage, Cond.selects RX4 yX4_greatestVoltage yX4_greatestVoltage, Cond.code yX4_greatestVoltage cX4_greatestVoltage 2 (some .int), Cond.methodLink RX4 81 yX0_greatestCharge, Cond.instanceMethod yX0_greatestCharge, Cond.selects RX0 yX0_greatestCharge yX0_greatestCharge]
def wsX4_passTicks_r4 : List Cond := [Cond.initialized RX0, Cond.code yX0_greatestCharge cX0_greatestCharge 3 (some .int), Cond.fieldLink RX0 15 "ChargeStages$Battery" "charge" "[I", Cond.fieldLink RX0 9 "ChargeStages$Battery" "cells" "I", Cond.methodLink RX0 43 Lib.Math.max.name, Cond.static Lib.Math.max.name, Cond.initialized "java/lang/Math", Cond.code Lib.Math.max.name Lib.Math.max.code 2 (some .int), Cond.static yX6_baseVoltage, Cond.code yX6_baseVoltage cX6_baseVoltage 2 (some .int), Cond.methodLink RX4 155 yX4_heldCurrent, Cond.instanceMethod yX4_heldCurrent, Cond.selects RX4 yX4_heldCurrent yX4_heldCurrent, Cond.code yX4_heldCurrent cX4_heldCurrent 3 (some .int), Cond.methodLink RX4 161 Lib.Math.min.name, Cond.static Lib.Math.min.name, Cond.code Lib.Math.min.name Lib.Math.min.code 2 (some .int), Cond.methodLink RX4 124 yX0_takeIn, Cond.instanceMethod yX0_takeIn, Cond.selects RX0 yX0_takeIn yX0_takeIn, Cond.code yX0_takeIn cX0_takeIn 9 none, Cond.fieldLink RX0 19 "ChargeStages$Battery" "rest" "[I", Cond.fieldLink RX0 22 "ChargeStages$Battery" "cameIn" "[I", Cond.fieldLink RX0 25 "ChargeStages$Battery" "stored" "[I"]
def wsX4_passTicks_r5 : List Cond := [Cond.fieldLink RX0 28 "ChargeStages$Battery" "spilled" "[I", Cond.methodLink RX4 127 yX4_endsBehind, Cond.instanceMethod yX4_endsBehind, Cond.selects RX4 yX4_endsBehind yX4_endsBehind, Cond.code yX4_endsBehind cX4_endsBehind 2 (some .boolean), Cond.methodLink RX4 131 yX4_endStage, Cond.instanceMethod yX4_endStage, Cond.selects RX4 yX4_endStage yX4_endStage, Cond.code yX4_endStage cX4_endStage 1 none, Cond.fieldLink RX4 56 "ChargeStages$State" "timesDone" "I", Cond.methodLink RX4 97 yX4_begin, Cond.instanceMethod yX4_begin, Cond.selects RX4 yX4_begin yX4_begin, Cond.code yX4_begin cX4_begin 2 none, Cond.methodLink RX4 134 yX4_hasRunOut, Cond.instanceMethod yX4_hasRunOut, Cond.selects RX4 yX4_hasRunOut yX4_hasRunOut, Cond.code yX4_hasRunOut cX4_hasRunOut 1 (some .boolean), Cond.fieldLink RX4 140 "ChargeStages$Profile" "timer" "[I", Cond.methodLink RX4 118 yX0_loseTo, Cond.instanceMethod yX0_loseTo, Cond.selects RX0 yX0_loseTo yX0_loseTo, Cond.code yX0_loseTo cX0_loseTo 7 none, Cond.methodLink RX0 37 Lib.Math.min.name]
def wsX4_passTicks_r6 : List Cond := [Cond.fieldLink RX0 31 "ChargeStages$Battery" "bled" "[I", Cond.methodLink RX0 52 yX0_leastCharge, Cond.instanceMethod yX0_leastCharge, Cond.selects RX0 yX0_leastCharge yX0_leastCharge, Cond.code yX0_leastCharge cX0_leastCharge 3 (some .int)]
def wsX4_passTicks : List Cond := .code yX4_passTicks cX4_passTicks 3 none :: ((wsX4_passTicks_r1 ++ (wsX4_passTicks_r2 ++ (wsX4_passTicks_r3 ++ (wsX4_passTicks_r4 ++ (wsX4_passTicks_r5 ++ wsX4_passTicks_r6))))) ++ wsX40 ++ wsX20 ++ wsX30 ++ wsX00)
def wsX4_runUntilDone_r1 : List Cond := [Cond.fieldLink RX4 36 "ChargeStages$State" "mode" "I", Cond.methodLink RX4 108 yX4_isPaused, Cond.instanceMethod yX4_isPaused, Cond.selects RX4 yX4_isPaused yX4_isPaused, Cond.initialized RX4, Cond.code yX4_isPaused cX4_isPaused 1 (some .boolean), Cond.fieldLink RX4 9 "ChargeStages$State" "settings" "[I", Cond.static yX6_isIn, Cond.initialized RX6, Cond.code yX6_isIn cX6_isIn 3 (some .boolean), Cond.methodLink RX4 105 yX4_passOneTick, Cond.instanceMethod yX4_passOneTick, Cond.selects RX4 yX4_passOneTick yX4_passOneTick, Cond.code yX4_passOneTick cX4_passOneTick 2 none, Cond.fieldLink RX4 52 "ChargeStages$State" "wasPaused" "Z", Cond.fieldLink RX4 18 "ChargeStages$State" "row" "LChargeStages$Battery;", Cond.fieldLink RX4 46 "ChargeStages$State" "tick" "I", Cond.methodLink RX4 112 yX4_countPausedTick, Cond.instanceMethod yX4_countPausedTick, Cond.selects RX4 yX4_countPausedTick yX4_countPausedTick, Cond.code yX4_countPausedTick cX4_countPausedTick 1 none, Cond.fieldLink RX4 32 "ChargeStages$State" "log" "LChargeStages$Log;", Cond.fieldLink RX4 40 "ChargeStages$State" "stage" "I", Cond.fieldLink RX4 49 "ChargeStages$State" "pausedTicks" "I"]
def wsX4_runUntilDone_r2 : List Cond := [Cond.methodLink RX4 101 yX2_add, Cond.instanceMethod yX2_add, Cond.selects RX2 yX2_add yX2_add, Cond.initialized RX2, Cond.code yX2_add cX2_add 4 none, Cond.fieldLink RX2 18 "ChargeStages$Log" "kind" "[I", Cond.fieldLink RX2 15 "ChargeStages$Log" "next" "I", Cond.fieldLink RX2 22 "ChargeStages$Log" "tick" "[I", Cond.fieldLink RX2 25 "ChargeStages$Log" "stage" "[I", Cond.fieldLink RX2 9 "ChargeStages$Log" "events" "I", Cond.methodLink RX4 115 yX4_charge, Cond.instanceMethod yX4_charge, Cond.selects RX4 yX4_charge yX4_charge, Cond.code yX4_charge cX4_charge 3 none, Cond.fieldLink RX4 43 "ChargeStages$State" "lasted" "I", Cond.fieldLink RX4 59 "ChargeStages$State" "timesAtFault" "I", Cond.methodLink RX4 121 yX4_currentOfStage, Cond.instanceMethod yX4_currentOfStage, Cond.selects RX4 yX4_currentOfStage yX4_currentOfStage, Cond.code yX4_currentOfStage cX4_currentOfStage 2 (some .int), Cond.fieldLink RX4 25 "ChargeStages$State" "profile" "LChargeStages$Profile;", Cond.fieldLink RX4 143 "ChargeStages$Profile" "kind" "[I", Cond.fieldLink RX4 146 "ChargeStages$Profile" "first" "[I", Cond.fieldLink RX4 158 "ChargeStages$Profile" "second" "[I"]
def wsX4_runUntilDone_r3 : List Cond := [Cond.methodLink RX4 137 yX3_has, Cond.instanceMethod yX3_has, Cond.selects RX3 yX3_has yX3_has, Cond.initialized RX3, Cond.code yX3_has cX3_has 2 (some .boolean), Cond.fieldLink RX3 9 "ChargeStages$Profile" "stages" "I", Cond.methodLink RX4 149 yX4_limitOfNow, Cond.instanceMethod yX4_limitOfNow, Cond.selects RX4 yX4_limitOfNow yX4_limitOfNow, Cond.code yX4_limitOfNow cX4_limitOfNow 2 (some .int), Cond.methodLink RX4 89 yX3_limitOf, Cond.instanceMethod yX3_limitOf, Cond.selects RX3 yX3_limitOf yX3_limitOf, Cond.code yX3_limitOf cX3_limitOf 2 (some .int), Cond.fieldLink RX3 15 "ChargeStages$Profile" "kind" "[I", Cond.fieldLink RX3 19 "ChargeStages$Profile" "first" "[I", Cond.fieldLink RX3 22 "ChargeStages$Profile" "second" "[I", Cond.methodLink RX4 152 yX4_greatestVoltage, Cond.instanceMethod yX4_greatestVoltage, Cond.selects RX4 yX4_greatestVoltage yX4_greatestVoltage, Cond.code yX4_greatestVoltage cX4_greatestVoltage 2 (some .int), Cond.methodLink RX4 81 yX0_greatestCharge, Cond.instanceMethod yX0_greatestCharge, Cond.selects RX0 yX0_greatestCharge yX0_greatestCharge]
def wsX4_runUntilDone_r4 : List Cond := [Cond.initialized RX0, Cond.code yX0_greatestCharge cX0_greatestCharge 3 (some .int), Cond.fieldLink RX0 15 "ChargeStages$Battery" "charge" "[I", Cond.fieldLink RX0 9 "ChargeStages$Battery" "cells" "I", Cond.methodLink RX0 43 Lib.Math.max.name, Cond.static Lib.Math.max.name, Cond.initialized "java/lang/Math", Cond.code Lib.Math.max.name Lib.Math.max.code 2 (some .int), Cond.static yX6_baseVoltage, Cond.code yX6_baseVoltage cX6_baseVoltage 2 (some .int), Cond.methodLink RX4 155 yX4_heldCurrent, Cond.instanceMethod yX4_heldCurrent, Cond.selects RX4 yX4_heldCurrent yX4_heldCurrent, Cond.code yX4_heldCurrent cX4_heldCurrent 3 (some .int), Cond.methodLink RX4 161 Lib.Math.min.name, Cond.static Lib.Math.min.name, Cond.code Lib.Math.min.name Lib.Math.min.code 2 (some .int), Cond.methodLink RX4 124 yX0_takeIn, Cond.instanceMethod yX0_takeIn, Cond.selects RX0 yX0_takeIn yX0_takeIn, Cond.code yX0_takeIn cX0_takeIn 9 none, Cond.fieldLink RX0 19 "ChargeStages$Battery" "rest" "[I", Cond.fieldLink RX0 22 "ChargeStages$Battery" "cameIn" "[I", Cond.fieldLink RX0 25 "ChargeStages$Battery" "stored" "[I"]
def wsX4_runUntilDone_r5 : List Cond := [Cond.fieldLink RX0 28 "ChargeStages$Battery" "spilled" "[I", Cond.methodLink RX4 127 yX4_endsBehind, Cond.instanceMethod yX4_endsBehind, Cond.selects RX4 yX4_endsBehind yX4_endsBehind, Cond.code yX4_endsBehind cX4_endsBehind 2 (some .boolean), Cond.methodLink RX4 131 yX4_endStage, Cond.instanceMethod yX4_endStage, Cond.selects RX4 yX4_endStage yX4_endStage, Cond.code yX4_endStage cX4_endStage 1 none, Cond.fieldLink RX4 56 "ChargeStages$State" "timesDone" "I", Cond.methodLink RX4 97 yX4_begin, Cond.instanceMethod yX4_begin, Cond.selects RX4 yX4_begin yX4_begin, Cond.code yX4_begin cX4_begin 2 none, Cond.methodLink RX4 134 yX4_hasRunOut, Cond.instanceMethod yX4_hasRunOut, Cond.selects RX4 yX4_hasRunOut yX4_hasRunOut, Cond.code yX4_hasRunOut cX4_hasRunOut 1 (some .boolean), Cond.fieldLink RX4 140 "ChargeStages$Profile" "timer" "[I", Cond.methodLink RX4 118 yX0_loseTo, Cond.instanceMethod yX0_loseTo, Cond.selects RX0 yX0_loseTo yX0_loseTo, Cond.code yX0_loseTo cX0_loseTo 7 none, Cond.methodLink RX0 37 Lib.Math.min.name]
def wsX4_runUntilDone_r6 : List Cond := [Cond.fieldLink RX0 31 "ChargeStages$Battery" "bled" "[I", Cond.methodLink RX0 52 yX0_leastCharge, Cond.instanceMethod yX0_leastCharge, Cond.selects RX0 yX0_leastCharge yX0_leastCharge, Cond.code yX0_leastCharge cX0_leastCharge 3 (some .int)]
def wsX4_runUntilDone : List Cond := .code yX4_runUntilDone cX4_runUntilDone 3 (some .int) :: ((wsX4_runUntilDone_r1 ++ (wsX4_runUntilDone_r2 ++ (wsX4_runUntilDone_r3 ++ (wsX4_runUntilDone_r4 ++ (wsX4_runUntilDone_r5 ++ wsX4_runUntilDone_r6))))) ++ wsX40 ++ wsX20 ++ wsX30 ++ wsX00)
def wsX5_init : List Cond := .code yX5_init cX5_init 1 none :: ([.methodLink RX5 3 objectInit, .instanceMethod objectInit, .code objectInit ⟨#[0xb1]⟩ 1 none, .fieldLink RX5 9 "ChargeStages$Text" "length" "I", .fieldLink RX5 15 "ChargeStages$Text" "place" "I", .arrayClass .char, .fieldLink RX5 18 "ChargeStages$Text" "characters" "[C"] ++ wsX50)
def wsX5_add : List Cond := .code yX5_add cX5_add 2 none :: ([.fieldLink RX5 9 "ChargeStages$Text" "length" "I", .fieldLink RX5 18 "ChargeStages$Text" "characters" "[C"] ++ wsX50)
def wsX5_accepts : List Cond := .code yX5_accepts cX5_accepts 2 (some .boolean) :: ([.fieldLink RX5 15 "ChargeStages$Text" "place" "I", .fieldLink RX5 9 "ChargeStages$Text" "length" "I", .fieldLink RX5 18 "ChargeStages$Text" "characters" "[C"] ++ wsX50)
def wsX5_isDigitAhead : List Cond := .code yX5_isDigitAhead cX5_isDigitAhead 2 (some .boolean) :: ([.fieldLink RX5 15 "ChargeStages$Text" "place" "I", .fieldLink RX5 9 "ChargeStages$Text" "length" "I", .fieldLink RX5 18 "ChargeStages$Text" "characters" "[C"] ++ wsX50)
def wsX5_readNumber : List Cond := .code yX5_readNumber cX5_readNumber 4 (some .int) :: ([.fieldLink RX5 18 "ChargeStages$Text" "characters" "[C", .fieldLink RX5 15 "ChargeStages$Text" "place" "I", .methodLink RX5 63 yX5_isDigitAhead, .instanceMethod yX5_isDigitAhead, .selects RX5 yX5_isDigitAhead yX5_isDigitAhead, .initialized RX5, .code yX5_isDigitAhead cX5_isDigitAhead 2 (some .boolean), .fieldLink RX5 9 "ChargeStages$Text" "length" "I"] ++ wsX50)
def wsX5_readFirst : List Cond := .code yX5_readFirst cX5_readFirst 4 (some .boolean) :: ([.fieldLink RX5 57 "ChargeStages$Profile" "first" "[I", .methodLink RX5 49 yX5_readNumber, .instanceMethod yX5_readNumber, .selects RX5 yX5_readNumber yX5_readNumber, .initialized RX5, .code yX5_readNumber cX5_readNumber 4 (some .int), .fieldLink RX5 18 "ChargeStages$Text" "characters" "[C", .fieldLink RX5 15 "ChargeStages$Text" "place" "I", .methodLink RX5 63 yX5_isDigitAhead, .instanceMethod yX5_isDigitAhead, .selects RX5 yX5_isDigitAhead yX5_isDigitAhead, .code yX5_isDigitAhead cX5_isDigitAhead 2 (some .boolean), .fieldLink RX5 9 "ChargeStages$Text" "length" "I"] ++ wsX30 ++ wsX50)
def wsX5_readPair : List Cond := .code yX5_readPair cX5_readPair 4 (some .boolean) :: ([.fieldLink RX5 53 "ChargeStages$Profile" "second" "[I", .methodLink RX5 46 yX5_readFirst, .instanceMethod yX5_readFirst, .selects RX5 yX5_readFirst yX5_readFirst, .initialized RX5, .code yX5_readFirst cX5_readFirst 4 (some .boolean), .fieldLink RX5 57 "ChargeStages$Profile" "first" "[I", .methodLink RX5 49 yX5_readNumber, .instanceMethod yX5_readNumber, .selects RX5 yX5_readNumber yX5_readNumber, .code yX5_readNumber cX5_readNumber 4 (some .int), .fieldLink RX5 18 "ChargeStages$Text" "characters" "[C", .fieldLink RX5 15 "ChargeStages$Text" "place" "I", .methodLink RX5 63 yX5_isDigitAhead, .instanceMethod yX5_isDigitAhead, .selects RX5 yX5_isDigitAhead yX5_isDigitAhead, .code yX5_isDigitAhead cX5_isDigitAhead 2 (some .boolean), .fieldLink RX5 9 "ChargeStages$Text" "length" "I", .methodLink RX5 31 yX5_accepts, .instanceMethod yX5_accepts, .selects RX5 yX5_accepts yX5_accepts, .code yX5_accepts cX5_accepts 2 (some .boolean)] ++ wsX30 ++ wsX50)
def wsX5_readTimer : List Cond := .code yX5_readTimer cX5_readTimer 4 (some .boolean) :: ([.fieldLink RX5 60 "ChargeStages$Profile" "timer" "[I", .methodLink RX5 31 yX5_accepts, .instanceMethod yX5_accepts, .selects RX5 yX5_accepts yX5_accepts, .initialized RX5, .code yX5_accepts cX5_accepts 2 (some .boolean), .fieldLink RX5 15 "ChargeStages$Text" "place" "I", .fieldLink RX5 9 "ChargeStages$Text" "length" "I", .fieldLink RX5 18 "ChargeStages$Text" "characters" "[C", .methodLink RX5 49 yX5_readNumber, .instanceMethod yX5_readNumber, .selects RX5 yX5_readNumber yX5_readNumber, .code yX5_readNumber cX5_readNumber 4 (some .int), .methodLink RX5 63 yX5_isDigitAhead, .instanceMethod yX5_isDigitAhead, .selects RX5 yX5_isDigitAhead yX5_isDigitAhead, .code yX5_isDigitAhead cX5_isDigitAhead 2 (some .boolean)] ++ wsX30 ++ wsX50)
def wsX5_readStage_r1 : List Cond := [Cond.fieldLink RX5 22 "ChargeStages$Profile" "stages" "I", Cond.methodLink RX5 31 yX5_accepts, Cond.instanceMethod yX5_accepts, Cond.selects RX5 yX5_accepts yX5_accepts, Cond.initialized RX5, Cond.code yX5_accepts cX5_accepts 2 (some .boolean), Cond.fieldLink RX5 15 "ChargeStages$Text" "place" "I", Cond.fieldLink RX5 9 "ChargeStages$Text" "length" "I", Cond.fieldLink RX5 18 "ChargeStages$Text" "characters" "[C", Cond.methodLink RX5 35 yX3_addStage, Cond.instanceMethod yX3_addStage, Cond.selects RX3 yX3_addStage yX3_addStage, Cond.initialized RX3, Cond.code yX3_addStage cX3_addStage 2 (some .boolean), Cond.fieldLink RX3 9 "ChargeStages$Profile" "stages" "I", Cond.fieldLink RX3 15 "ChargeStages$Profile" "kind" "[I", Cond.fieldLink RX3 19 "ChargeStages$Profile" "first" "[I", Cond.fieldLink RX3 22 "ChargeStages$Profile" "second" "[I", Cond.fieldLink RX3 25 "ChargeStages$Profile" "timer" "[I", Cond.methodLink RX5 39 yX5_readPair, Cond.instanceMethod yX5_readPair, Cond.selects RX5 yX5_readPair yX5_readPair, Cond.code yX5_readPair cX5_readPair 4 (some .boolean), Cond.fieldLink RX5 53 "ChargeStages$Profile" "second" "[I"]
def wsX5_readStage_r2 : List Cond := [Cond.methodLink RX5 46 yX5_readFirst, Cond.instanceMethod yX5_readFirst, Cond.selects RX5 yX5_readFirst yX5_readFirst, Cond.code yX5_readFirst cX5_readFirst 4 (some .boolean), Cond.fieldLink RX5 57 "ChargeStages$Profile" "first" "[I", Cond.methodLink RX5 49 yX5_readNumber, Cond.instanceMethod yX5_readNumber, Cond.selects RX5 yX5_readNumber yX5_readNumber, Cond.code yX5_readNumber cX5_readNumber 4 (some .int), Cond.methodLink RX5 63 yX5_isDigitAhead, Cond.instanceMethod yX5_isDigitAhead, Cond.selects RX5 yX5_isDigitAhead yX5_isDigitAhead, Cond.code yX5_isDigitAhead cX5_isDigitAhead 2 (some .boolean), Cond.methodLink RX5 43 yX5_readTimer, Cond.instanceMethod yX5_readTimer, Cond.selects RX5 yX5_readTimer yX5_readTimer, Cond.code yX5_readTimer cX5_readTimer 4 (some .boolean), Cond.fieldLink RX5 60 "ChargeStages$Profile" "timer" "[I"]
def wsX5_readStage : List Cond := .code yX5_readStage cX5_readStage 3 (some .boolean) :: ((wsX5_readStage_r1 ++ wsX5_readStage_r2) ++ wsX30 ++ wsX50)
def wsX5_readInto_r1 : List Cond := [Cond.fieldLink RX5 15 "ChargeStages$Text" "place" "I", Cond.fieldLink RX5 22 "ChargeStages$Profile" "stages" "I", Cond.fieldLink RX5 9 "ChargeStages$Text" "length" "I", Cond.methodLink RX5 27 yX5_readStage, Cond.instanceMethod yX5_readStage, Cond.selects RX5 yX5_readStage yX5_readStage, Cond.initialized RX5, Cond.code yX5_readStage cX5_readStage 3 (some .boolean), Cond.methodLink RX5 31 yX5_accepts, Cond.instanceMethod yX5_accepts, Cond.selects RX5 yX5_accepts yX5_accepts, Cond.code yX5_accepts cX5_accepts 2 (some .boolean), Cond.fieldLink RX5 18 "ChargeStages$Text" "characters" "[C", Cond.methodLink RX5 35 yX3_addStage, Cond.instanceMethod yX3_addStage, Cond.selects RX3 yX3_addStage yX3_addStage, Cond.initialized RX3, Cond.code yX3_addStage cX3_addStage 2 (some .boolean), Cond.fieldLink RX3 9 "ChargeStages$Profile" "stages" "I", Cond.fieldLink RX3 15 "ChargeStages$Profile" "kind" "[I", Cond.fieldLink RX3 19 "ChargeStages$Profile" "first" "[I", Cond.fieldLink RX3 22 "ChargeStages$Profile" "second" "[I", Cond.fieldLink RX3 25 "ChargeStages$Profile" "timer" "[I", Cond.methodLink RX5 39 yX5_readPair]
def wsX5_readInto_r2 : List Cond := [Cond.instanceMethod yX5_readPair, Cond.selects RX5 yX5_readPair yX5_readPair, Cond.code yX5_readPair cX5_readPair 4 (some .boolean), Cond.fieldLink RX5 53 "ChargeStages$Profile" "second" "[I", Cond.methodLink RX5 46 yX5_readFirst, Cond.instanceMethod yX5_readFirst, Cond.selects RX5 yX5_readFirst yX5_readFirst, Cond.code yX5_readFirst cX5_readFirst 4 (some .boolean), Cond.fieldLink RX5 57 "ChargeStages$Profile" "first" "[I", Cond.methodLink RX5 49 yX5_readNumber, Cond.instanceMethod yX5_readNumber, Cond.selects RX5 yX5_readNumber yX5_readNumber, Cond.code yX5_readNumber cX5_readNumber 4 (some .int), Cond.methodLink RX5 63 yX5_isDigitAhead, Cond.instanceMethod yX5_isDigitAhead, Cond.selects RX5 yX5_isDigitAhead yX5_isDigitAhead, Cond.code yX5_isDigitAhead cX5_isDigitAhead 2 (some .boolean), Cond.methodLink RX5 43 yX5_readTimer, Cond.instanceMethod yX5_readTimer, Cond.selects RX5 yX5_readTimer yX5_readTimer, Cond.code yX5_readTimer cX5_readTimer 4 (some .boolean), Cond.fieldLink RX5 60 "ChargeStages$Profile" "timer" "[I"]
def wsX5_readInto : List Cond := .code yX5_readInto cX5_readInto 3 (some .boolean) :: ((wsX5_readInto_r1 ++ wsX5_readInto_r2) ++ wsX50 ++ wsX30)
def wsX6_init_r1 : List Cond := [Cond.methodLink RX6 1 objectInit, Cond.instanceMethod objectInit, Cond.code objectInit ⟨#[0xb1]⟩ 1 none, Cond.classLink RX6 7 RX4, Cond.instantiable RX4 12, Cond.initialized RX4, Cond.fieldLink RX6 10 "ChargeStages" "now" "LChargeStages$State;", Cond.fieldLink RX6 16 "ChargeStages" "forecast" "LChargeStages$State;", Cond.fieldLink RX6 19 "ChargeStages" "snapshot" "LChargeStages$State;", Cond.fieldLink RX6 22 "ChargeStages" "hasSnapshot" "Z", Cond.classLink RX6 26 RX1, Cond.instantiable RX1 2, Cond.initialized RX1, Cond.fieldLink RX6 29 "ChargeStages" "history" "LChargeStages$History;", Cond.classLink RX6 33 RX5, Cond.instantiable RX5 3, Cond.initialized RX5, Cond.fieldLink RX6 36 "ChargeStages" "text" "LChargeStages$Text;", Cond.classLink RX6 40 RX3, Cond.instantiable RX3 5, Cond.initialized RX3, Cond.fieldLink RX6 43 "ChargeStages" "draft" "LChargeStages$Profile;", Cond.instanceMethod yX4_init, Cond.code yX4_init cX4_init 1 none]
def wsX6_init_r2 : List Cond := [Cond.methodLink RX4 3 objectInit, Cond.arrayClass .int, Cond.fieldLink RX4 9 "ChargeStages$State" "settings" "[I", Cond.classLink RX4 15 RX0, Cond.instantiable RX0 8, Cond.initialized RX0, Cond.fieldLink RX4 18 "ChargeStages$State" "row" "LChargeStages$Battery;", Cond.classLink RX4 22 RX3, Cond.fieldLink RX4 25 "ChargeStages$State" "profile" "LChargeStages$Profile;", Cond.classLink RX4 29 RX2, Cond.instantiable RX2 5, Cond.initialized RX2, Cond.fieldLink RX4 32 "ChargeStages$State" "log" "LChargeStages$Log;", Cond.fieldLink RX4 36 "ChargeStages$State" "mode" "I", Cond.fieldLink RX4 40 "ChargeStages$State" "stage" "I", Cond.fieldLink RX4 43 "ChargeStages$State" "lasted" "I", Cond.fieldLink RX4 46 "ChargeStages$State" "tick" "I", Cond.fieldLink RX4 49 "ChargeStages$State" "pausedTicks" "I", Cond.fieldLink RX4 52 "ChargeStages$State" "wasPaused" "Z", Cond.fieldLink RX4 56 "ChargeStages$State" "timesDone" "I", Cond.fieldLink RX4 59 "ChargeStages$State" "timesAtFault" "I", Cond.instanceMethod yX0_init, Cond.code yX0_init cX0_init 1 none, Cond.methodLink RX0 3 objectInit]
def wsX6_init_r3 : List Cond := [Cond.fieldLink RX0 9 "ChargeStages$Battery" "cells" "I", Cond.fieldLink RX0 15 "ChargeStages$Battery" "charge" "[I", Cond.fieldLink RX0 19 "ChargeStages$Battery" "rest" "[I", Cond.fieldLink RX0 22 "ChargeStages$Battery" "cameIn" "[I", Cond.fieldLink RX0 25 "ChargeStages$Battery" "stored" "[I", Cond.fieldLink RX0 28 "ChargeStages$Battery" "spilled" "[I", Cond.fieldLink RX0 31 "ChargeStages$Battery" "bled" "[I", Cond.fieldLink RX0 34 "ChargeStages$Battery" "used" "[I", Cond.instanceMethod yX3_init, Cond.code yX3_init cX3_init 1 none, Cond.methodLink RX3 3 objectInit, Cond.fieldLink RX3 9 "ChargeStages$Profile" "stages" "I", Cond.fieldLink RX3 15 "ChargeStages$Profile" "kind" "[I", Cond.fieldLink RX3 19 "ChargeStages$Profile" "first" "[I", Cond.fieldLink RX3 22 "ChargeStages$Profile" "second" "[I", Cond.fieldLink RX3 25 "ChargeStages$Profile" "timer" "[I", Cond.instanceMethod yX2_init, Cond.code yX2_init cX2_init 1 none, Cond.methodLink RX2 3 objectInit, Cond.fieldLink RX2 9 "ChargeStages$Log" "events" "I", Cond.fieldLink RX2 15 "ChargeStages$Log" "next" "I", Cond.fieldLink RX2 18 "ChargeStages$Log" "kind" "[I", Cond.fieldLink RX2 22 "ChargeStages$Log" "tick" "[I", Cond.fieldLink RX2 25 "ChargeStages$Log" "stage" "[I"]
def wsX6_init_r4 : List Cond := [Cond.methodLink RX6 28 yX1_init, Cond.instanceMethod yX1_init, Cond.code yX1_init cX1_init 2 none, Cond.methodLink RX1 3 objectInit, Cond.fieldLink RX1 9 "ChargeStages$History" "states" "I", Cond.classLink RX1 15 RX4, Cond.fieldLink RX1 17 "ChargeStages$History" "kept" "[LChargeStages$State;", Cond.instanceMethod yX5_init, Cond.code yX5_init cX5_init 1 none, Cond.methodLink RX5 3 objectInit, Cond.fieldLink RX5 9 "ChargeStages$Text" "length" "I", Cond.fieldLink RX5 15 "ChargeStages$Text" "place" "I", Cond.arrayClass .char, Cond.fieldLink RX5 18 "ChargeStages$Text" "characters" "[C", Cond.methodLink RX6 47 yX4_setUp, Cond.instanceMethod yX4_setUp, Cond.selects RX4 yX4_setUp yX4_setUp, Cond.code yX4_setUp cX4_setUp 1 none, Cond.methodLink RX4 65 arraycopyName, Cond.native arraycopyName, Cond.static arraycopyName, Cond.initialized "java/lang/System"]
def wsX6_init : List Cond := .code yX6_init cX6_init 1 none :: ((wsX6_init_r1 ++ (wsX6_init_r2 ++ (wsX6_init_r3 ++ wsX6_init_r4))) ++ wsX40 ++ wsX60 ++ wsX10 ++ wsX50 ++ wsX30 ++ wsX00 ++ wsX20)
def wsX6_battery_r1 : List Cond := [Cond.fieldLink RX6 10 "ChargeStages" "now" "LChargeStages$State;", Cond.fieldLink RX6 50 "ChargeStages$State" "row" "LChargeStages$Battery;", Cond.fieldLink RX6 54 "ChargeStages$Battery" "cells" "I", Cond.fieldLink RX6 29 "ChargeStages" "history" "LChargeStages$History;", Cond.fieldLink RX6 68 "ChargeStages$State" "mode" "I", Cond.methodLink RX6 60 yX1_add, Cond.instanceMethod yX1_add, Cond.selects RX1 yX1_add yX1_add, Cond.initialized RX1, Cond.code yX1_add cX1_add 2 none, Cond.fieldLink RX1 9 "ChargeStages$History" "states" "I", Cond.fieldLink RX1 17 "ChargeStages$History" "kept" "[LChargeStages$State;", Cond.methodLink RX1 22 yX1_dropOldest, Cond.instanceMethod yX1_dropOldest, Cond.selects RX1 yX1_dropOldest yX1_dropOldest, Cond.code yX1_dropOldest cX1_dropOldest 3 none, Cond.methodLink RX1 25 yX4_copyFrom, Cond.instanceMethod yX4_copyFrom, Cond.selects RX4 yX4_copyFrom yX4_copyFrom, Cond.initialized RX4, Cond.code yX4_copyFrom cX4_copyFrom 2 none, Cond.fieldLink RX4 9 "ChargeStages$State" "settings" "[I", Cond.methodLink RX4 65 arraycopyName, Cond.native arraycopyName]
def wsX6_battery_r2 : List Cond := [Cond.static arraycopyName, Cond.initialized "java/lang/System", Cond.fieldLink RX4 18 "ChargeStages$State" "row" "LChargeStages$Battery;", Cond.fieldLink RX4 25 "ChargeStages$State" "profile" "LChargeStages$Profile;", Cond.fieldLink RX4 32 "ChargeStages$State" "log" "LChargeStages$Log;", Cond.fieldLink RX4 36 "ChargeStages$State" "mode" "I", Cond.fieldLink RX4 40 "ChargeStages$State" "stage" "I", Cond.fieldLink RX4 43 "ChargeStages$State" "lasted" "I", Cond.fieldLink RX4 46 "ChargeStages$State" "tick" "I", Cond.fieldLink RX4 49 "ChargeStages$State" "pausedTicks" "I", Cond.fieldLink RX4 52 "ChargeStages$State" "wasPaused" "Z", Cond.fieldLink RX4 56 "ChargeStages$State" "timesDone" "I", Cond.fieldLink RX4 59 "ChargeStages$State" "timesAtFault" "I", Cond.methodLink RX4 71 yX0_copyFrom, Cond.instanceMethod yX0_copyFrom, Cond.selects RX0 yX0_copyFrom yX0_copyFrom, Cond.initialized RX0, Cond.code yX0_copyFrom cX0_copyFrom 2 none, Cond.fieldLink RX0 9 "ChargeStages$Battery" "cells" "I", Cond.fieldLink RX0 15 "ChargeStages$Battery" "charge" "[I", Cond.methodLink RX0 46 arraycopyName, Cond.fieldLink RX0 19 "ChargeStages$Battery" "rest" "[I", Cond.fieldLink RX0 22 "ChargeStages$Battery" "cameIn" "[I", Cond.fieldLink RX0 25 "ChargeStages$Battery" "stored" "[I"]
def wsX6_battery_r3 : List Cond := [Cond.fieldLink RX0 28 "ChargeStages$Battery" "spilled" "[I", Cond.fieldLink RX0 31 "ChargeStages$Battery" "bled" "[I", Cond.fieldLink RX0 34 "ChargeStages$Battery" "used" "[I", Cond.methodLink RX4 75 yX3_copyFrom, Cond.instanceMethod yX3_copyFrom, Cond.selects RX3 yX3_copyFrom yX3_copyFrom, Cond.initialized RX3, Cond.code yX3_copyFrom cX3_copyFrom 2 none, Cond.fieldLink RX3 9 "ChargeStages$Profile" "stages" "I", Cond.fieldLink RX3 15 "ChargeStages$Profile" "kind" "[I", Cond.methodLink RX3 28 arraycopyName, Cond.fieldLink RX3 19 "ChargeStages$Profile" "first" "[I", Cond.fieldLink RX3 22 "ChargeStages$Profile" "second" "[I", Cond.fieldLink RX3 25 "ChargeStages$Profile" "timer" "[I", Cond.methodLink RX4 78 yX2_copyFrom, Cond.instanceMethod yX2_copyFrom, Cond.selects RX2 yX2_copyFrom yX2_copyFrom, Cond.initialized RX2, Cond.code yX2_copyFrom cX2_copyFrom 2 none, Cond.fieldLink RX2 9 "ChargeStages$Log" "events" "I", Cond.fieldLink RX2 15 "ChargeStages$Log" "next" "I", Cond.fieldLink RX2 18 "ChargeStages$Log" "kind" "[I", Cond.methodLink RX2 34 arraycopyName, Cond.fieldLink RX2 22 "ChargeStages$Log" "tick" "[I"]
def wsX6_battery_r4 : List Cond := [Cond.fieldLink RX2 25 "ChargeStages$Log" "stage" "[I", Cond.methodLink RX6 64 yX0_putEmpty, Cond.instanceMethod yX0_putEmpty, Cond.selects RX0 yX0_putEmpty yX0_putEmpty, Cond.code yX0_putEmpty cX0_putEmpty 3 none, Cond.methodLink RX0 37 Lib.Math.min.name, Cond.static Lib.Math.min.name, Cond.initialized "java/lang/Math", Cond.code Lib.Math.min.name Lib.Math.min.code 2 (some .int), Cond.methodLink RX0 43 Lib.Math.max.name, Cond.static Lib.Math.max.name, Cond.code Lib.Math.max.name Lib.Math.max.code 2 (some .int)]
def wsX6_battery : List Cond := .code yX6_battery cX6_battery 3 (some .int) :: ((wsX6_battery_r1 ++ (wsX6_battery_r2 ++ (wsX6_battery_r3 ++ wsX6_battery_r4))) ++ wsX60 ++ wsX40 ++ wsX00 ++ wsX10 ++ wsX30 ++ wsX20)
def wsX6_setCharge_r1 : List Cond := [Cond.fieldLink RX6 10 "ChargeStages" "now" "LChargeStages$State;", Cond.fieldLink RX6 50 "ChargeStages$State" "row" "LChargeStages$Battery;", Cond.fieldLink RX6 75 "ChargeStages$State" "settings" "[I", Cond.fieldLink RX6 79 "ChargeStages$Battery" "charge" "[I", Cond.fieldLink RX6 82 "ChargeStages$Battery" "rest" "[I", Cond.fieldLink RX6 29 "ChargeStages" "history" "LChargeStages$History;", Cond.methodLink RX6 71 yX0_has, Cond.instanceMethod yX0_has, Cond.selects RX0 yX0_has yX0_has, Cond.initialized RX0, Cond.code yX0_has cX0_has 2 (some .boolean), Cond.fieldLink RX0 9 "ChargeStages$Battery" "cells" "I", Cond.methodLink RX6 60 yX1_add, Cond.instanceMethod yX1_add, Cond.selects RX1 yX1_add yX1_add, Cond.initialized RX1, Cond.code yX1_add cX1_add 2 none, Cond.fieldLink RX1 9 "ChargeStages$History" "states" "I", Cond.fieldLink RX1 17 "ChargeStages$History" "kept" "[LChargeStages$State;", Cond.methodLink RX1 22 yX1_dropOldest, Cond.instanceMethod yX1_dropOldest, Cond.selects RX1 yX1_dropOldest yX1_dropOldest, Cond.code yX1_dropOldest cX1_dropOldest 3 none, Cond.methodLink RX1 25 yX4_copyFrom]
def wsX6_setCharge_r2 : List Cond := [Cond.instanceMethod yX4_copyFrom, Cond.selects RX4 yX4_copyFrom yX4_copyFrom, Cond.initialized RX4, Cond.code yX4_copyFrom cX4_copyFrom 2 none, Cond.fieldLink RX4 9 "ChargeStages$State" "settings" "[I", Cond.methodLink RX4 65 arraycopyName, Cond.native arraycopyName, Cond.static arraycopyName, Cond.initialized "java/lang/System", Cond.fieldLink RX4 18 "ChargeStages$State" "row" "LChargeStages$Battery;", Cond.fieldLink RX4 25 "ChargeStages$State" "profile" "LChargeStages$Profile;", Cond.fieldLink RX4 32 "ChargeStages$State" "log" "LChargeStages$Log;", Cond.fieldLink RX4 36 "ChargeStages$State" "mode" "I", Cond.fieldLink RX4 40 "ChargeStages$State" "stage" "I", Cond.fieldLink RX4 43 "ChargeStages$State" "lasted" "I", Cond.fieldLink RX4 46 "ChargeStages$State" "tick" "I", Cond.fieldLink RX4 49 "ChargeStages$State" "pausedTicks" "I", Cond.fieldLink RX4 52 "ChargeStages$State" "wasPaused" "Z", Cond.fieldLink RX4 56 "ChargeStages$State" "timesDone" "I", Cond.fieldLink RX4 59 "ChargeStages$State" "timesAtFault" "I", Cond.methodLink RX4 71 yX0_copyFrom, Cond.instanceMethod yX0_copyFrom, Cond.selects RX0 yX0_copyFrom yX0_copyFrom, Cond.code yX0_copyFrom cX0_copyFrom 2 none]
def wsX6_setCharge_r3 : List Cond := [Cond.fieldLink RX0 15 "ChargeStages$Battery" "charge" "[I", Cond.methodLink RX0 46 arraycopyName, Cond.fieldLink RX0 19 "ChargeStages$Battery" "rest" "[I", Cond.fieldLink RX0 22 "ChargeStages$Battery" "cameIn" "[I", Cond.fieldLink RX0 25 "ChargeStages$Battery" "stored" "[I", Cond.fieldLink RX0 28 "ChargeStages$Battery" "spilled" "[I", Cond.fieldLink RX0 31 "ChargeStages$Battery" "bled" "[I", Cond.fieldLink RX0 34 "ChargeStages$Battery" "used" "[I", Cond.methodLink RX4 75 yX3_copyFrom, Cond.instanceMethod yX3_copyFrom, Cond.selects RX3 yX3_copyFrom yX3_copyFrom, Cond.initialized RX3, Cond.code yX3_copyFrom cX3_copyFrom 2 none, Cond.fieldLink RX3 9 "ChargeStages$Profile" "stages" "I", Cond.fieldLink RX3 15 "ChargeStages$Profile" "kind" "[I", Cond.methodLink RX3 28 arraycopyName, Cond.fieldLink RX3 19 "ChargeStages$Profile" "first" "[I", Cond.fieldLink RX3 22 "ChargeStages$Profile" "second" "[I", Cond.fieldLink RX3 25 "ChargeStages$Profile" "timer" "[I", Cond.methodLink RX4 78 yX2_copyFrom, Cond.instanceMethod yX2_copyFrom, Cond.selects RX2 yX2_copyFrom yX2_copyFrom, Cond.initialized RX2, Cond.code yX2_copyFrom cX2_copyFrom 2 none]
def wsX6_setCharge_r4 : List Cond := [Cond.fieldLink RX2 9 "ChargeStages$Log" "events" "I", Cond.fieldLink RX2 15 "ChargeStages$Log" "next" "I", Cond.fieldLink RX2 18 "ChargeStages$Log" "kind" "[I", Cond.methodLink RX2 34 arraycopyName, Cond.fieldLink RX2 22 "ChargeStages$Log" "tick" "[I", Cond.fieldLink RX2 25 "ChargeStages$Log" "stage" "[I"]
def wsX6_setCharge : List Cond := .code yX6_setCharge cX6_setCharge 4 (some .int) :: ((wsX6_setCharge_r1 ++ (wsX6_setCharge_r2 ++ (wsX6_setCharge_r3 ++ wsX6_setCharge_r4))) ++ wsX60 ++ wsX40 ++ wsX00 ++ wsX10 ++ wsX30 ++ wsX20)
def wsX6_use_r1 : List Cond := [Cond.fieldLink RX6 10 "ChargeStages" "now" "LChargeStages$State;", Cond.fieldLink RX6 68 "ChargeStages$State" "mode" "I", Cond.fieldLink RX6 50 "ChargeStages$State" "row" "LChargeStages$Battery;", Cond.fieldLink RX6 29 "ChargeStages" "history" "LChargeStages$History;", Cond.methodLink RX6 85 yX0_leastCharge, Cond.instanceMethod yX0_leastCharge, Cond.selects RX0 yX0_leastCharge yX0_leastCharge, Cond.initialized RX0, Cond.code yX0_leastCharge cX0_leastCharge 3 (some .int), Cond.fieldLink RX0 15 "ChargeStages$Battery" "charge" "[I", Cond.fieldLink RX0 9 "ChargeStages$Battery" "cells" "I", Cond.methodLink RX0 37 Lib.Math.min.name, Cond.static Lib.Math.min.name, Cond.initialized "java/lang/Math", Cond.code Lib.Math.min.name Lib.Math.min.code 2 (some .int), Cond.methodLink RX6 60 yX1_add, Cond.instanceMethod yX1_add, Cond.selects RX1 yX1_add yX1_add, Cond.initialized RX1, Cond.code yX1_add cX1_add 2 none, Cond.fieldLink RX1 9 "ChargeStages$History" "states" "I", Cond.fieldLink RX1 17 "ChargeStages$History" "kept" "[LChargeStages$State;", Cond.methodLink RX1 22 yX1_dropOldest, Cond.instanceMethod yX1_dropOldest]
def wsX6_use_r2 : List Cond := [Cond.selects RX1 yX1_dropOldest yX1_dropOldest, Cond.code yX1_dropOldest cX1_dropOldest 3 none, Cond.methodLink RX1 25 yX4_copyFrom, Cond.instanceMethod yX4_copyFrom, Cond.selects RX4 yX4_copyFrom yX4_copyFrom, Cond.initialized RX4, Cond.code yX4_copyFrom cX4_copyFrom 2 none, Cond.fieldLink RX4 9 "ChargeStages$State" "settings" "[I", Cond.methodLink RX4 65 arraycopyName, Cond.native arraycopyName, Cond.static arraycopyName, Cond.initialized "java/lang/System", Cond.fieldLink RX4 18 "ChargeStages$State" "row" "LChargeStages$Battery;", Cond.fieldLink RX4 25 "ChargeStages$State" "profile" "LChargeStages$Profile;", Cond.fieldLink RX4 32 "ChargeStages$State" "log" "LChargeStages$Log;", Cond.fieldLink RX4 36 "ChargeStages$State" "mode" "I", Cond.fieldLink RX4 40 "ChargeStages$State" "stage" "I", Cond.fieldLink RX4 43 "ChargeStages$State" "lasted" "I", Cond.fieldLink RX4 46 "ChargeStages$State" "tick" "I", Cond.fieldLink RX4 49 "ChargeStages$State" "pausedTicks" "I", Cond.fieldLink RX4 52 "ChargeStages$State" "wasPaused" "Z", Cond.fieldLink RX4 56 "ChargeStages$State" "timesDone" "I", Cond.fieldLink RX4 59 "ChargeStages$State" "timesAtFault" "I", Cond.methodLink RX4 71 yX0_copyFrom]
def wsX6_use_r3 : List Cond := [Cond.instanceMethod yX0_copyFrom, Cond.selects RX0 yX0_copyFrom yX0_copyFrom, Cond.code yX0_copyFrom cX0_copyFrom 2 none, Cond.methodLink RX0 46 arraycopyName, Cond.fieldLink RX0 19 "ChargeStages$Battery" "rest" "[I", Cond.fieldLink RX0 22 "ChargeStages$Battery" "cameIn" "[I", Cond.fieldLink RX0 25 "ChargeStages$Battery" "stored" "[I", Cond.fieldLink RX0 28 "ChargeStages$Battery" "spilled" "[I", Cond.fieldLink RX0 31 "ChargeStages$Battery" "bled" "[I", Cond.fieldLink RX0 34 "ChargeStages$Battery" "used" "[I", Cond.methodLink RX4 75 yX3_copyFrom, Cond.instanceMethod yX3_copyFrom, Cond.selects RX3 yX3_copyFrom yX3_copyFrom, Cond.initialized RX3, Cond.code yX3_copyFrom cX3_copyFrom 2 none, Cond.fieldLink RX3 9 "ChargeStages$Profile" "stages" "I", Cond.fieldLink RX3 15 "ChargeStages$Profile" "kind" "[I", Cond.methodLink RX3 28 arraycopyName, Cond.fieldLink RX3 19 "ChargeStages$Profile" "first" "[I", Cond.fieldLink RX3 22 "ChargeStages$Profile" "second" "[I", Cond.fieldLink RX3 25 "ChargeStages$Profile" "timer" "[I", Cond.methodLink RX4 78 yX2_copyFrom, Cond.instanceMethod yX2_copyFrom, Cond.selects RX2 yX2_copyFrom yX2_copyFrom]
def wsX6_use_r4 : List Cond := [Cond.initialized RX2, Cond.code yX2_copyFrom cX2_copyFrom 2 none, Cond.fieldLink RX2 9 "ChargeStages$Log" "events" "I", Cond.fieldLink RX2 15 "ChargeStages$Log" "next" "I", Cond.fieldLink RX2 18 "ChargeStages$Log" "kind" "[I", Cond.methodLink RX2 34 arraycopyName, Cond.fieldLink RX2 22 "ChargeStages$Log" "tick" "[I", Cond.fieldLink RX2 25 "ChargeStages$Log" "stage" "[I", Cond.methodLink RX6 89 yX0_draw, Cond.instanceMethod yX0_draw, Cond.selects RX0 yX0_draw yX0_draw, Cond.code yX0_draw cX0_draw 3 none]
def wsX6_use : List Cond := .code yX6_use cX6_use 2 (some .int) :: ((wsX6_use_r1 ++ (wsX6_use_r2 ++ (wsX6_use_r3 ++ wsX6_use_r4))) ++ wsX60 ++ wsX40 ++ wsX00 ++ wsX10 ++ wsX30 ++ wsX20)
def wsX6_isSetting : List Cond := .code yX6_isSetting cX6_isSetting 1 (some .boolean) :: ([])
def wsX6_set_r1 : List Cond := [Cond.fieldLink RX6 95 "ChargeStages" "SETTING_LEAST" "[I", Cond.fieldLink RX6 98 "ChargeStages" "SETTING_MOST" "[I", Cond.fieldLink RX6 10 "ChargeStages" "now" "LChargeStages$State;", Cond.fieldLink RX6 75 "ChargeStages$State" "settings" "[I", Cond.fieldLink RX6 29 "ChargeStages" "history" "LChargeStages$History;", Cond.methodLink RX6 92 yX6_isSetting, Cond.static yX6_isSetting, Cond.initialized RX6, Cond.code yX6_isSetting cX6_isSetting 1 (some .boolean), Cond.methodLink RX6 101 yX4_allows, Cond.instanceMethod yX4_allows, Cond.selects RX4 yX4_allows yX4_allows, Cond.initialized RX4, Cond.code yX4_allows cX4_allows 3 (some .boolean), Cond.fieldLink RX4 18 "ChargeStages$State" "row" "LChargeStages$Battery;", Cond.fieldLink RX4 9 "ChargeStages$State" "settings" "[I", Cond.methodLink RX4 81 yX0_greatestCharge, Cond.instanceMethod yX0_greatestCharge, Cond.selects RX0 yX0_greatestCharge yX0_greatestCharge, Cond.initialized RX0, Cond.code yX0_greatestCharge cX0_greatestCharge 3 (some .int), Cond.fieldLink RX0 15 "ChargeStages$Battery" "charge" "[I", Cond.fieldLink RX0 9 "ChargeStages$Battery" "cells" "I", Cond.methodLink RX0 43 Lib.Math.max.name]
def wsX6_set_r2 : List Cond := [Cond.static Lib.Math.max.name, Cond.initialized "java/lang/Math", Cond.code Lib.Math.max.name Lib.Math.max.code 2 (some .int), Cond.methodLink RX6 60 yX1_add, Cond.instanceMethod yX1_add, Cond.selects RX1 yX1_add yX1_add, Cond.initialized RX1, Cond.code yX1_add cX1_add 2 none, Cond.fieldLink RX1 9 "ChargeStages$History" "states" "I", Cond.fieldLink RX1 17 "ChargeStages$History" "kept" "[LChargeStages$State;", Cond.methodLink RX1 22 yX1_dropOldest, Cond.instanceMethod yX1_dropOldest, Cond.selects RX1 yX1_dropOldest yX1_dropOldest, Cond.code yX1_dropOldest cX1_dropOldest 3 none, Cond.methodLink RX1 25 yX4_copyFrom, Cond.instanceMethod yX4_copyFrom, Cond.selects RX4 yX4_copyFrom yX4_copyFrom, Cond.code yX4_copyFrom cX4_copyFrom 2 none, Cond.methodLink RX4 65 arraycopyName, Cond.native arraycopyName, Cond.static arraycopyName, Cond.initialized "java/lang/System", Cond.fieldLink RX4 25 "ChargeStages$State" "profile" "LChargeStages$Profile;", Cond.fieldLink RX4 32 "ChargeStages$State" "log" "LChargeStages$Log;"]
def wsX6_set_r3 : List Cond := [Cond.fieldLink RX4 36 "ChargeStages$State" "mode" "I", Cond.fieldLink RX4 40 "ChargeStages$State" "stage" "I", Cond.fieldLink RX4 43 "ChargeStages$State" "lasted" "I", Cond.fieldLink RX4 46 "ChargeStages$State" "tick" "I", Cond.fieldLink RX4 49 "ChargeStages$State" "pausedTicks" "I", Cond.fieldLink RX4 52 "ChargeStages$State" "wasPaused" "Z", Cond.fieldLink RX4 56 "ChargeStages$State" "timesDone" "I", Cond.fieldLink RX4 59 "ChargeStages$State" "timesAtFault" "I", Cond.methodLink RX4 71 yX0_copyFrom, Cond.instanceMethod yX0_copyFrom, Cond.selects RX0 yX0_copyFrom yX0_copyFrom, Cond.code yX0_copyFrom cX0_copyFrom 2 none, Cond.methodLink RX0 46 arraycopyName, Cond.fieldLink RX0 19 "ChargeStages$Battery" "rest" "[I", Cond.fieldLink RX0 22 "ChargeStages$Battery" "cameIn" "[I", Cond.fieldLink RX0 25 "ChargeStages$Battery" "stored" "[I", Cond.fieldLink RX0 28 "ChargeStages$Battery" "spilled" "[I", Cond.fieldLink RX0 31 "ChargeStages$Battery" "bled" "[I", Cond.fieldLink RX0 34 "ChargeStages$Battery" "used" "[I", Cond.methodLink RX4 75 yX3_copyFrom, Cond.instanceMethod yX3_copyFrom, Cond.selects RX3 yX3_copyFrom yX3_copyFrom, Cond.initialized RX3, Cond.code yX3_copyFrom cX3_copyFrom 2 none]
def wsX6_set_r4 : List Cond := [Cond.fieldLink RX3 9 "ChargeStages$Profile" "stages" "I", Cond.fieldLink RX3 15 "ChargeStages$Profile" "kind" "[I", Cond.methodLink RX3 28 arraycopyName, Cond.fieldLink RX3 19 "ChargeStages$Profile" "first" "[I", Cond.fieldLink RX3 22 "ChargeStages$Profile" "second" "[I", Cond.fieldLink RX3 25 "ChargeStages$Profile" "timer" "[I", Cond.methodLink RX4 78 yX2_copyFrom, Cond.instanceMethod yX2_copyFrom, Cond.selects RX2 yX2_copyFrom yX2_copyFrom, Cond.initialized RX2, Cond.code yX2_copyFrom cX2_copyFrom 2 none, Cond.fieldLink RX2 9 "ChargeStages$Log" "events" "I", Cond.fieldLink RX2 15 "ChargeStages$Log" "next" "I", Cond.fieldLink RX2 18 "ChargeStages$Log" "kind" "[I", Cond.methodLink RX2 34 arraycopyName, Cond.fieldLink RX2 22 "ChargeStages$Log" "tick" "[I", Cond.fieldLink RX2 25 "ChargeStages$Log" "stage" "[I"]
def wsX6_set : List Cond := .code yX6_set cX6_set 4 (some .int) :: ((wsX6_set_r1 ++ (wsX6_set_r2 ++ (wsX6_set_r3 ++ wsX6_set_r4))) ++ wsX60 ++ wsX40 ++ wsX00 ++ wsX10 ++ wsX30 ++ wsX20)
def wsX6_readProfile_r1 : List Cond := [Cond.fieldLink RX6 36 "ChargeStages" "text" "LChargeStages$Text;", Cond.fieldLink RX6 43 "ChargeStages" "draft" "LChargeStages$Profile;", Cond.fieldLink RX6 109 "ChargeStages$Text" "place" "I", Cond.fieldLink RX6 10 "ChargeStages" "now" "LChargeStages$State;", Cond.fieldLink RX6 68 "ChargeStages$State" "mode" "I", Cond.fieldLink RX6 29 "ChargeStages" "history" "LChargeStages$History;", Cond.fieldLink RX6 116 "ChargeStages$State" "profile" "LChargeStages$Profile;", Cond.fieldLink RX6 123 "ChargeStages$Profile" "stages" "I", Cond.methodLink RX6 105 yX5_readInto, Cond.instanceMethod yX5_readInto, Cond.selects RX5 yX5_readInto yX5_readInto, Cond.initialized RX5, Cond.code yX5_readInto cX5_readInto 3 (some .boolean), Cond.fieldLink RX5 15 "ChargeStages$Text" "place" "I", Cond.fieldLink RX5 22 "ChargeStages$Profile" "stages" "I", Cond.fieldLink RX5 9 "ChargeStages$Text" "length" "I", Cond.methodLink RX5 27 yX5_readStage, Cond.instanceMethod yX5_readStage, Cond.selects RX5 yX5_readStage yX5_readStage, Cond.code yX5_readStage cX5_readStage 3 (some .boolean), Cond.methodLink RX5 31 yX5_accepts, Cond.instanceMethod yX5_accepts, Cond.selects RX5 yX5_accepts yX5_accepts, Cond.code yX5_accepts cX5_accepts 2 (some .boolean)]
def wsX6_readProfile_r2 : List Cond := [Cond.fieldLink RX5 18 "ChargeStages$Text" "characters" "[C", Cond.methodLink RX5 35 yX3_addStage, Cond.instanceMethod yX3_addStage, Cond.selects RX3 yX3_addStage yX3_addStage, Cond.initialized RX3, Cond.code yX3_addStage cX3_addStage 2 (some .boolean), Cond.fieldLink RX3 9 "ChargeStages$Profile" "stages" "I", Cond.fieldLink RX3 15 "ChargeStages$Profile" "kind" "[I", Cond.fieldLink RX3 19 "ChargeStages$Profile" "first" "[I", Cond.fieldLink RX3 22 "ChargeStages$Profile" "second" "[I", Cond.fieldLink RX3 25 "ChargeStages$Profile" "timer" "[I", Cond.methodLink RX5 39 yX5_readPair, Cond.instanceMethod yX5_readPair, Cond.selects RX5 yX5_readPair yX5_readPair, Cond.code yX5_readPair cX5_readPair 4 (some .boolean), Cond.fieldLink RX5 53 "ChargeStages$Profile" "second" "[I", Cond.methodLink RX5 46 yX5_readFirst, Cond.instanceMethod yX5_readFirst, Cond.selects RX5 yX5_readFirst yX5_readFirst, Cond.code yX5_readFirst cX5_readFirst 4 (some .boolean), Cond.fieldLink RX5 57 "ChargeStages$Profile" "first" "[I", Cond.methodLink RX5 49 yX5_readNumber, Cond.instanceMethod yX5_readNumber, Cond.selects RX5 yX5_readNumber yX5_readNumber]
def wsX6_readProfile_r3 : List Cond := [Cond.code yX5_readNumber cX5_readNumber 4 (some .int), Cond.methodLink RX5 63 yX5_isDigitAhead, Cond.instanceMethod yX5_isDigitAhead, Cond.selects RX5 yX5_isDigitAhead yX5_isDigitAhead, Cond.code yX5_isDigitAhead cX5_isDigitAhead 2 (some .boolean), Cond.methodLink RX5 43 yX5_readTimer, Cond.instanceMethod yX5_readTimer, Cond.selects RX5 yX5_readTimer yX5_readTimer, Cond.code yX5_readTimer cX5_readTimer 4 (some .boolean), Cond.fieldLink RX5 60 "ChargeStages$Profile" "timer" "[I", Cond.methodLink RX6 112 yX3_isInRange, Cond.instanceMethod yX3_isInRange, Cond.selects RX3 yX3_isInRange yX3_isInRange, Cond.code yX3_isInRange cX3_isInRange 2 (some .boolean), Cond.methodLink RX3 34 yX3_hasNumbersInRange, Cond.instanceMethod yX3_hasNumbersInRange, Cond.selects RX3 yX3_hasNumbersInRange yX3_hasNumbersInRange, Cond.code yX3_hasNumbersInRange cX3_hasNumbersInRange 2 (some .boolean), Cond.static yX6_isIn, Cond.initialized RX6, Cond.code yX6_isIn cX6_isIn 3 (some .boolean), Cond.methodLink RX6 60 yX1_add, Cond.instanceMethod yX1_add, Cond.selects RX1 yX1_add yX1_add]
def wsX6_readProfile_r4 : List Cond := [Cond.initialized RX1, Cond.code yX1_add cX1_add 2 none, Cond.fieldLink RX1 9 "ChargeStages$History" "states" "I", Cond.fieldLink RX1 17 "ChargeStages$History" "kept" "[LChargeStages$State;", Cond.methodLink RX1 22 yX1_dropOldest, Cond.instanceMethod yX1_dropOldest, Cond.selects RX1 yX1_dropOldest yX1_dropOldest, Cond.code yX1_dropOldest cX1_dropOldest 3 none, Cond.methodLink RX1 25 yX4_copyFrom, Cond.instanceMethod yX4_copyFrom, Cond.selects RX4 yX4_copyFrom yX4_copyFrom, Cond.initialized RX4, Cond.code yX4_copyFrom cX4_copyFrom 2 none, Cond.fieldLink RX4 9 "ChargeStages$State" "settings" "[I", Cond.methodLink RX4 65 arraycopyName, Cond.native arraycopyName, Cond.static arraycopyName, Cond.initialized "java/lang/System", Cond.fieldLink RX4 18 "ChargeStages$State" "row" "LChargeStages$Battery;", Cond.fieldLink RX4 25 "ChargeStages$State" "profile" "LChargeStages$Profile;", Cond.fieldLink RX4 32 "ChargeStages$State" "log" "LChargeStages$Log;", Cond.fieldLink RX4 36 "ChargeStages$State" "mode" "I", Cond.fieldLink RX4 40 "ChargeStages$State" "stage" "I", Cond.fieldLink RX4 43 "ChargeStages$State" "lasted" "I"]
def wsX6_readProfile_r5 : List Cond := [Cond.fieldLink RX4 46 "ChargeStages$State" "tick" "I", Cond.fieldLink RX4 49 "ChargeStages$State" "pausedTicks" "I", Cond.fieldLink RX4 52 "ChargeStages$State" "wasPaused" "Z", Cond.fieldLink RX4 56 "ChargeStages$State" "timesDone" "I", Cond.fieldLink RX4 59 "ChargeStages$State" "timesAtFault" "I", Cond.methodLink RX4 71 yX0_copyFrom, Cond.instanceMethod yX0_copyFrom, Cond.selects RX0 yX0_copyFrom yX0_copyFrom, Cond.initialized RX0, Cond.code yX0_copyFrom cX0_copyFrom 2 none, Cond.fieldLink RX0 9 "ChargeStages$Battery" "cells" "I", Cond.fieldLink RX0 15 "ChargeStages$Battery" "charge" "[I", Cond.methodLink RX0 46 arraycopyName, Cond.fieldLink RX0 19 "ChargeStages$Battery" "rest" "[I", Cond.fieldLink RX0 22 "ChargeStages$Battery" "cameIn" "[I", Cond.fieldLink RX0 25 "ChargeStages$Battery" "stored" "[I", Cond.fieldLink RX0 28 "ChargeStages$Battery" "spilled" "[I", Cond.fieldLink RX0 31 "ChargeStages$Battery" "bled" "[I", Cond.fieldLink RX0 34 "ChargeStages$Battery" "used" "[I", Cond.methodLink RX4 75 yX3_copyFrom, Cond.instanceMethod yX3_copyFrom, Cond.selects RX3 yX3_copyFrom yX3_copyFrom, Cond.code yX3_copyFrom cX3_copyFrom 2 none, Cond.methodLink RX3 28 arraycopyName]
def wsX6_readProfile_r6 : List Cond := [Cond.methodLink RX4 78 yX2_copyFrom, Cond.instanceMethod yX2_copyFrom, Cond.selects RX2 yX2_copyFrom yX2_copyFrom, Cond.initialized RX2, Cond.code yX2_copyFrom cX2_copyFrom 2 none, Cond.fieldLink RX2 9 "ChargeStages$Log" "events" "I", Cond.fieldLink RX2 15 "ChargeStages$Log" "next" "I", Cond.fieldLink RX2 18 "ChargeStages$Log" "kind" "[I", Cond.methodLink RX2 34 arraycopyName, Cond.fieldLink RX2 22 "ChargeStages$Log" "tick" "[I", Cond.fieldLink RX2 25 "ChargeStages$Log" "stage" "[I", Cond.methodLink RX6 119 yX3_copyFrom]
def wsX6_readProfile : List Cond := .code yX6_readProfile cX6_readProfile 1 (some .int) :: ((wsX6_readProfile_r1 ++ (wsX6_readProfile_r2 ++ (wsX6_readProfile_r3 ++ (wsX6_readProfile_r4 ++ (wsX6_readProfile_r5 ++ wsX6_readProfile_r6))))) ++ wsX60 ++ wsX50 ++ wsX40 ++ wsX30 ++ wsX10 ++ wsX00 ++ wsX20)
def wsX6_start_r1 : List Cond := [Cond.fieldLink RX6 10 "ChargeStages" "now" "LChargeStages$State;", Cond.fieldLink RX6 68 "ChargeStages$State" "mode" "I", Cond.fieldLink RX6 116 "ChargeStages$State" "profile" "LChargeStages$Profile;", Cond.fieldLink RX6 123 "ChargeStages$Profile" "stages" "I", Cond.fieldLink RX6 29 "ChargeStages" "history" "LChargeStages$History;", Cond.methodLink RX6 60 yX1_add, Cond.instanceMethod yX1_add, Cond.selects RX1 yX1_add yX1_add, Cond.initialized RX1, Cond.code yX1_add cX1_add 2 none, Cond.fieldLink RX1 9 "ChargeStages$History" "states" "I", Cond.fieldLink RX1 17 "ChargeStages$History" "kept" "[LChargeStages$State;", Cond.methodLink RX1 22 yX1_dropOldest, Cond.instanceMethod yX1_dropOldest, Cond.selects RX1 yX1_dropOldest yX1_dropOldest, Cond.code yX1_dropOldest cX1_dropOldest 3 none, Cond.methodLink RX1 25 yX4_copyFrom, Cond.instanceMethod yX4_copyFrom, Cond.selects RX4 yX4_copyFrom yX4_copyFrom, Cond.initialized RX4, Cond.code yX4_copyFrom cX4_copyFrom 2 none, Cond.fieldLink RX4 9 "ChargeStages$State" "settings" "[I", Cond.methodLink RX4 65 arraycopyName, Cond.native arraycopyName]
def wsX6_start_r2 : List Cond := [Cond.static arraycopyName, Cond.initialized "java/lang/System", Cond.fieldLink RX4 18 "ChargeStages$State" "row" "LChargeStages$Battery;", Cond.fieldLink RX4 25 "ChargeStages$State" "profile" "LChargeStages$Profile;", Cond.fieldLink RX4 32 "ChargeStages$State" "log" "LChargeStages$Log;", Cond.fieldLink RX4 36 "ChargeStages$State" "mode" "I", Cond.fieldLink RX4 40 "ChargeStages$State" "stage" "I", Cond.fieldLink RX4 43 "ChargeStages$State" "lasted" "I", Cond.fieldLink RX4 46 "ChargeStages$State" "tick" "I", Cond.fieldLink RX4 49 "ChargeStages$State" "pausedTicks" "I", Cond.fieldLink RX4 52 "ChargeStages$State" "wasPaused" "Z", Cond.fieldLink RX4 56 "ChargeStages$State" "timesDone" "I", Cond.fieldLink RX4 59 "ChargeStages$State" "timesAtFault" "I", Cond.methodLink RX4 71 yX0_copyFrom, Cond.instanceMethod yX0_copyFrom, Cond.selects RX0 yX0_copyFrom yX0_copyFrom, Cond.initialized RX0, Cond.code yX0_copyFrom cX0_copyFrom 2 none, Cond.fieldLink RX0 9 "ChargeStages$Battery" "cells" "I", Cond.fieldLink RX0 15 "ChargeStages$Battery" "charge" "[I", Cond.methodLink RX0 46 arraycopyName, Cond.fieldLink RX0 19 "ChargeStages$Battery" "rest" "[I", Cond.fieldLink RX0 22 "ChargeStages$Battery" "cameIn" "[I", Cond.fieldLink RX0 25 "ChargeStages$Battery" "stored" "[I"]
def wsX6_start_r3 : List Cond := [Cond.fieldLink RX0 28 "ChargeStages$Battery" "spilled" "[I", Cond.fieldLink RX0 31 "ChargeStages$Battery" "bled" "[I", Cond.fieldLink RX0 34 "ChargeStages$Battery" "used" "[I", Cond.methodLink RX4 75 yX3_copyFrom, Cond.instanceMethod yX3_copyFrom, Cond.selects RX3 yX3_copyFrom yX3_copyFrom, Cond.initialized RX3, Cond.code yX3_copyFrom cX3_copyFrom 2 none, Cond.fieldLink RX3 9 "ChargeStages$Profile" "stages" "I", Cond.fieldLink RX3 15 "ChargeStages$Profile" "kind" "[I", Cond.methodLink RX3 28 arraycopyName, Cond.fieldLink RX3 19 "ChargeStages$Profile" "first" "[I", Cond.fieldLink RX3 22 "ChargeStages$Profile" "second" "[I", Cond.fieldLink RX3 25 "ChargeStages$Profile" "timer" "[I", Cond.methodLink RX4 78 yX2_copyFrom, Cond.instanceMethod yX2_copyFrom, Cond.selects RX2 yX2_copyFrom yX2_copyFrom, Cond.initialized RX2, Cond.code yX2_copyFrom cX2_copyFrom 2 none, Cond.fieldLink RX2 9 "ChargeStages$Log" "events" "I", Cond.fieldLink RX2 15 "ChargeStages$Log" "next" "I", Cond.fieldLink RX2 18 "ChargeStages$Log" "kind" "[I", Cond.methodLink RX2 34 arraycopyName, Cond.fieldLink RX2 22 "ChargeStages$Log" "tick" "[I"]
def wsX6_start_r4 : List Cond := [Cond.fieldLink RX2 25 "ChargeStages$Log" "stage" "[I", Cond.methodLink RX6 126 yX4_beginCharging, Cond.instanceMethod yX4_beginCharging, Cond.selects RX4 yX4_beginCharging yX4_beginCharging, Cond.code yX4_beginCharging cX4_beginCharging 1 none, Cond.methodLink RX4 97 yX4_begin, Cond.instanceMethod yX4_begin, Cond.selects RX4 yX4_begin yX4_begin, Cond.code yX4_begin cX4_begin 2 none, Cond.methodLink RX4 101 yX2_add, Cond.instanceMethod yX2_add, Cond.selects RX2 yX2_add yX2_add, Cond.code yX2_add cX2_add 4 none]
def wsX6_start : List Cond := .code yX6_start cX6_start 2 (some .int) :: ((wsX6_start_r1 ++ (wsX6_start_r2 ++ (wsX6_start_r3 ++ wsX6_start_r4))) ++ wsX60 ++ wsX40 ++ wsX30 ++ wsX10 ++ wsX00 ++ wsX20)
def wsX6_stop_r1 : List Cond := [Cond.fieldLink RX6 10 "ChargeStages" "now" "LChargeStages$State;", Cond.fieldLink RX6 68 "ChargeStages$State" "mode" "I", Cond.fieldLink RX6 29 "ChargeStages" "history" "LChargeStages$History;", Cond.methodLink RX6 60 yX1_add, Cond.instanceMethod yX1_add, Cond.selects RX1 yX1_add yX1_add, Cond.initialized RX1, Cond.code yX1_add cX1_add 2 none, Cond.fieldLink RX1 9 "ChargeStages$History" "states" "I", Cond.fieldLink RX1 17 "ChargeStages$History" "kept" "[LChargeStages$State;", Cond.methodLink RX1 22 yX1_dropOldest, Cond.instanceMethod yX1_dropOldest, Cond.selects RX1 yX1_dropOldest yX1_dropOldest, Cond.code yX1_dropOldest cX1_dropOldest 3 none, Cond.methodLink RX1 25 yX4_copyFrom, Cond.instanceMethod yX4_copyFrom, Cond.selects RX4 yX4_copyFrom yX4_copyFrom, Cond.initialized RX4, Cond.code yX4_copyFrom cX4_copyFrom 2 none, Cond.fieldLink RX4 9 "ChargeStages$State" "settings" "[I", Cond.methodLink RX4 65 arraycopyName, Cond.native arraycopyName, Cond.static arraycopyName, Cond.initialized "java/lang/System"]
def wsX6_stop_r2 : List Cond := [Cond.fieldLink RX4 18 "ChargeStages$State" "row" "LChargeStages$Battery;", Cond.fieldLink RX4 25 "ChargeStages$State" "profile" "LChargeStages$Profile;", Cond.fieldLink RX4 32 "ChargeStages$State" "log" "LChargeStages$Log;", Cond.fieldLink RX4 36 "ChargeStages$State" "mode" "I", Cond.fieldLink RX4 40 "ChargeStages$State" "stage" "I", Cond.fieldLink RX4 43 "ChargeStages$State" "lasted" "I", Cond.fieldLink RX4 46 "ChargeStages$State" "tick" "I", Cond.fieldLink RX4 49 "ChargeStages$State" "pausedTicks" "I", Cond.fieldLink RX4 52 "ChargeStages$State" "wasPaused" "Z", Cond.fieldLink RX4 56 "ChargeStages$State" "timesDone" "I", Cond.fieldLink RX4 59 "ChargeStages$State" "timesAtFault" "I", Cond.methodLink RX4 71 yX0_copyFrom, Cond.instanceMethod yX0_copyFrom, Cond.selects RX0 yX0_copyFrom yX0_copyFrom, Cond.initialized RX0, Cond.code yX0_copyFrom cX0_copyFrom 2 none, Cond.fieldLink RX0 9 "ChargeStages$Battery" "cells" "I", Cond.fieldLink RX0 15 "ChargeStages$Battery" "charge" "[I", Cond.methodLink RX0 46 arraycopyName, Cond.fieldLink RX0 19 "ChargeStages$Battery" "rest" "[I", Cond.fieldLink RX0 22 "ChargeStages$Battery" "cameIn" "[I", Cond.fieldLink RX0 25 "ChargeStages$Battery" "stored" "[I", Cond.fieldLink RX0 28 "ChargeStages$Battery" "spilled" "[I", Cond.fieldLink RX0 31 "ChargeStages$Battery" "bled" "[I"]
def wsX6_stop_r3 : List Cond := [Cond.fieldLink RX0 34 "ChargeStages$Battery" "used" "[I", Cond.methodLink RX4 75 yX3_copyFrom, Cond.instanceMethod yX3_copyFrom, Cond.selects RX3 yX3_copyFrom yX3_copyFrom, Cond.initialized RX3, Cond.code yX3_copyFrom cX3_copyFrom 2 none, Cond.fieldLink RX3 9 "ChargeStages$Profile" "stages" "I", Cond.fieldLink RX3 15 "ChargeStages$Profile" "kind" "[I", Cond.methodLink RX3 28 arraycopyName, Cond.fieldLink RX3 19 "ChargeStages$Profile" "first" "[I", Cond.fieldLink RX3 22 "ChargeStages$Profile" "second" "[I", Cond.fieldLink RX3 25 "ChargeStages$Profile" "timer" "[I", Cond.methodLink RX4 78 yX2_copyFrom, Cond.instanceMethod yX2_copyFrom, Cond.selects RX2 yX2_copyFrom yX2_copyFrom, Cond.initialized RX2, Cond.code yX2_copyFrom cX2_copyFrom 2 none, Cond.fieldLink RX2 9 "ChargeStages$Log" "events" "I", Cond.fieldLink RX2 15 "ChargeStages$Log" "next" "I", Cond.fieldLink RX2 18 "ChargeStages$Log" "kind" "[I", Cond.methodLink RX2 34 arraycopyName, Cond.fieldLink RX2 22 "ChargeStages$Log" "tick" "[I", Cond.fieldLink RX2 25 "ChargeStages$Log" "stage" "[I"]
def wsX6_stop : List Cond := .code yX6_stop cX6_stop 2 (some .int) :: ((wsX6_stop_r1 ++ (wsX6_stop_r2 ++ wsX6_stop_r3)) ++ wsX60 ++ wsX40 ++ wsX10 ++ wsX00 ++ wsX30 ++ wsX20)
def wsX6_pass_r1 : List Cond := [Cond.fieldLink RX6 10 "ChargeStages" "now" "LChargeStages$State;", Cond.fieldLink RX6 129 "ChargeStages$State" "tick" "I", Cond.constant RX6 132 (99999), Cond.fieldLink RX6 29 "ChargeStages" "history" "LChargeStages$History;", Cond.fieldLink RX6 68 "ChargeStages$State" "mode" "I", Cond.methodLink RX6 60 yX1_add, Cond.instanceMethod yX1_add, Cond.selects RX1 yX1_add yX1_add, Cond.initialized RX1, Cond.code yX1_add cX1_add 2 none, Cond.fieldLink RX1 9 "ChargeStages$History" "states" "I", Cond.fieldLink RX1 17 "ChargeStages$History" "kept" "[LChargeStages$State;", Cond.methodLink RX1 22 yX1_dropOldest, Cond.instanceMethod yX1_dropOldest, Cond.selects RX1 yX1_dropOldest yX1_dropOldest, Cond.code yX1_dropOldest cX1_dropOldest 3 none, Cond.methodLink RX1 25 yX4_copyFrom, Cond.instanceMethod yX4_copyFrom, Cond.selects RX4 yX4_copyFrom yX4_copyFrom, Cond.initialized RX4, Cond.code yX4_copyFrom cX4_copyFrom 2 none, Cond.fieldLink RX4 9 "ChargeStages$State" "settings" "[I", Cond.methodLink RX4 65 arraycopyName, Cond.native arraycopyName]
def wsX6_pass_r2 : List Cond := [Cond.static arraycopyName, Cond.initialized "java/lang/System", Cond.fieldLink RX4 18 "ChargeStages$State" "row" "LChargeStages$Battery;", Cond.fieldLink RX4 25 "ChargeStages$State" "profile" "LChargeStages$Profile;", Cond.fieldLink RX4 32 "ChargeStages$State" "log" "LChargeStages$Log;", Cond.fieldLink RX4 36 "ChargeStages$State" "mode" "I", Cond.fieldLink RX4 40 "ChargeStages$State" "stage" "I", Cond.fieldLink RX4 43 "ChargeStages$State" "lasted" "I", Cond.fieldLink RX4 46 "ChargeStages$State" "tick" "I", Cond.fieldLink RX4 49 "ChargeStages$State" "pausedTicks" "I", Cond.fieldLink RX4 52 "ChargeStages$State" "wasPaused" "Z", Cond.fieldLink RX4 56 "ChargeStages$State" "timesDone" "I", Cond.fieldLink RX4 59 "ChargeStages$State" "timesAtFault" "I", Cond.methodLink RX4 71 yX0_copyFrom, Cond.instanceMethod yX0_copyFrom, Cond.selects RX0 yX0_copyFrom yX0_copyFrom, Cond.initialized RX0, Cond.code yX0_copyFrom cX0_copyFrom 2 none, Cond.fieldLink RX0 9 "ChargeStages$Battery" "cells" "I", Cond.fieldLink RX0 15 "ChargeStages$Battery" "charge" "[I", Cond.methodLink RX0 46 arraycopyName, Cond.fieldLink RX0 19 "ChargeStages$Battery" "rest" "[I", Cond.fieldLink RX0 22 "ChargeStages$Battery" "cameIn" "[I", Cond.fieldLink RX0 25 "ChargeStages$Battery" "stored" "[I"]
def wsX6_pass_r3 : List Cond := [Cond.fieldLink RX0 28 "ChargeStages$Battery" "spilled" "[I", Cond.fieldLink RX0 31 "ChargeStages$Battery" "bled" "[I", Cond.fieldLink RX0 34 "ChargeStages$Battery" "used" "[I", Cond.methodLink RX4 75 yX3_copyFrom, Cond.instanceMethod yX3_copyFrom, Cond.selects RX3 yX3_copyFrom yX3_copyFrom, Cond.initialized RX3, Cond.code yX3_copyFrom cX3_copyFrom 2 none, Cond.fieldLink RX3 9 "ChargeStages$Profile" "stages" "I", Cond.fieldLink RX3 15 "ChargeStages$Profile" "kind" "[I", Cond.methodLink RX3 28 arraycopyName, Cond.fieldLink RX3 19 "ChargeStages$Profile" "first" "[I", Cond.fieldLink RX3 22 "ChargeStages$Profile" "second" "[I", Cond.fieldLink RX3 25 "ChargeStages$Profile" "timer" "[I", Cond.methodLink RX4 78 yX2_copyFrom, Cond.instanceMethod yX2_copyFrom, Cond.selects RX2 yX2_copyFrom yX2_copyFrom, Cond.initialized RX2, Cond.code yX2_copyFrom cX2_copyFrom 2 none, Cond.fieldLink RX2 9 "ChargeStages$Log" "events" "I", Cond.fieldLink RX2 15 "ChargeStages$Log" "next" "I", Cond.fieldLink RX2 18 "ChargeStages$Log" "kind" "[I", Cond.methodLink RX2 34 arraycopyName, Cond.fieldLink RX2 22 "ChargeStages$Log" "tick" "[I"]
def wsX6_pass_r4 : List Cond := [Cond.fieldLink RX2 25 "ChargeStages$Log" "stage" "[I", Cond.methodLink RX6 133 yX4_passTicks, Cond.instanceMethod yX4_passTicks, Cond.selects RX4 yX4_passTicks yX4_passTicks, Cond.code yX4_passTicks cX4_passTicks 3 none, Cond.methodLink RX4 105 yX4_passOneTick, Cond.instanceMethod yX4_passOneTick, Cond.selects RX4 yX4_passOneTick yX4_passOneTick, Cond.code yX4_passOneTick cX4_passOneTick 2 none, Cond.methodLink RX4 108 yX4_isPaused, Cond.instanceMethod yX4_isPaused, Cond.selects RX4 yX4_isPaused yX4_isPaused, Cond.code yX4_isPaused cX4_isPaused 1 (some .boolean), Cond.static yX6_isIn, Cond.initialized RX6, Cond.code yX6_isIn cX6_isIn 3 (some .boolean), Cond.methodLink RX4 112 yX4_countPausedTick, Cond.instanceMethod yX4_countPausedTick, Cond.selects RX4 yX4_countPausedTick yX4_countPausedTick, Cond.code yX4_countPausedTick cX4_countPausedTick 1 none, Cond.methodLink RX4 101 yX2_add, Cond.instanceMethod yX2_add, Cond.selects RX2 yX2_add yX2_add, Cond.code yX2_add cX2_add 4 none]
def wsX6_pass_r5 : List Cond := [Cond.methodLink RX4 115 yX4_charge, Cond.instanceMethod yX4_charge, Cond.selects RX4 yX4_charge yX4_charge, Cond.code yX4_charge cX4_charge 3 none, Cond.methodLink RX4 121 yX4_currentOfStage, Cond.instanceMethod yX4_currentOfStage, Cond.selects RX4 yX4_currentOfStage yX4_currentOfStage, Cond.code yX4_currentOfStage cX4_currentOfStage 2 (some .int), Cond.fieldLink RX4 143 "ChargeStages$Profile" "kind" "[I", Cond.fieldLink RX4 146 "ChargeStages$Profile" "first" "[I", Cond.fieldLink RX4 158 "ChargeStages$Profile" "second" "[I", Cond.methodLink RX4 137 yX3_has, Cond.instanceMethod yX3_has, Cond.selects RX3 yX3_has yX3_has, Cond.code yX3_has cX3_has 2 (some .boolean), Cond.methodLink RX4 149 yX4_limitOfNow, Cond.instanceMethod yX4_limitOfNow, Cond.selects RX4 yX4_limitOfNow yX4_limitOfNow, Cond.code yX4_limitOfNow cX4_limitOfNow 2 (some .int), Cond.methodLink RX4 89 yX3_limitOf, Cond.instanceMethod yX3_limitOf, Cond.selects RX3 yX3_limitOf yX3_limitOf, Cond.code yX3_limitOf cX3_limitOf 2 (some .int), Cond.methodLink RX4 152 yX4_greatestVoltage]
def wsX6_pass_r6 : List Cond := [Cond.instanceMethod yX4_greatestVoltage, Cond.selects RX4 yX4_greatestVoltage yX4_greatestVoltage, Cond.code yX4_greatestVoltage cX4_greatestVoltage 2 (some .int), Cond.methodLink RX4 81 yX0_greatestCharge, Cond.instanceMethod yX0_greatestCharge, Cond.selects RX0 yX0_greatestCharge yX0_greatestCharge, Cond.code yX0_greatestCharge cX0_greatestCharge 3 (some .int), Cond.methodLink RX0 43 Lib.Math.max.name, Cond.static Lib.Math.max.name, Cond.initialized "java/lang/Math", Cond.code Lib.Math.max.name Lib.Math.max.code 2 (some .int), Cond.static yX6_baseVoltage, Cond.code yX6_baseVoltage cX6_baseVoltage 2 (some .int), Cond.methodLink RX4 155 yX4_heldCurrent, Cond.instanceMethod yX4_heldCurrent, Cond.selects RX4 yX4_heldCurrent yX4_heldCurrent, Cond.code yX4_heldCurrent cX4_heldCurrent 3 (some .int), Cond.methodLink RX4 161 Lib.Math.min.name, Cond.static Lib.Math.min.name, Cond.code Lib.Math.min.name Lib.Math.min.code 2 (some .int), Cond.methodLink RX4 124 yX0_takeIn, Cond.instanceMethod yX0_takeIn, Cond.selects RX0 yX0_takeIn yX0_takeIn, Cond.code yX0_takeIn cX0_takeIn 9 none]
def wsX6_pass_r7 : List Cond := [Cond.methodLink RX4 127 yX4_endsBehind, Cond.instanceMethod yX4_endsBehind, Cond.selects RX4 yX4_endsBehind yX4_endsBehind, Cond.code yX4_endsBehind cX4_endsBehind 2 (some .boolean), Cond.methodLink RX4 131 yX4_endStage, Cond.instanceMethod yX4_endStage, Cond.selects RX4 yX4_endStage yX4_endStage, Cond.code yX4_endStage cX4_endStage 1 none, Cond.methodLink RX4 97 yX4_begin, Cond.instanceMethod yX4_begin, Cond.selects RX4 yX4_begin yX4_begin, Cond.code yX4_begin cX4_begin 2 none, Cond.methodLink RX4 134 yX4_hasRunOut, Cond.instanceMethod yX4_hasRunOut, Cond.selects RX4 yX4_hasRunOut yX4_hasRunOut, Cond.code yX4_hasRunOut cX4_hasRunOut 1 (some .boolean), Cond.fieldLink RX4 140 "ChargeStages$Profile" "timer" "[I", Cond.methodLink RX4 118 yX0_loseTo, Cond.instanceMethod yX0_loseTo, Cond.selects RX0 yX0_loseTo yX0_loseTo, Cond.code yX0_loseTo cX0_loseTo 7 none, Cond.methodLink RX0 37 Lib.Math.min.name, Cond.methodLink RX0 52 yX0_leastCharge, Cond.instanceMethod yX0_leastCharge]
def wsX6_pass_r8 : List Cond := [Cond.selects RX0 yX0_leastCharge yX0_leastCharge, Cond.code yX0_leastCharge cX0_leastCharge 3 (some .int)]
def wsX6_pass : List Cond := .code yX6_pass cX6_pass 2 (some .int) :: ((wsX6_pass_r1 ++ (wsX6_pass_r2 ++ (wsX6_pass_r3 ++ (wsX6_pass_r4 ++ (wsX6_pass_r5 ++ (wsX6_pass_r6 ++ (wsX6_pass_r7 ++ wsX6_pass_r8))))))) ++ wsX60 ++ wsX40 ++ wsX10 ++ wsX00 ++ wsX30 ++ wsX20)
def wsX6_type : List Cond := .code yX6_type cX6_type 2 (some .int) :: ([.fieldLink RX6 36 "ChargeStages" "text" "LChargeStages$Text;", .fieldLink RX6 136 "ChargeStages$Text" "length" "I", .methodLink RX6 139 yX5_add, .instanceMethod yX5_add, .selects RX5 yX5_add yX5_add, .initialized RX5, .code yX5_add cX5_add 2 none, .fieldLink RX5 9 "ChargeStages$Text" "length" "I", .fieldLink RX5 18 "ChargeStages$Text" "characters" "[C"] ++ wsX60 ++ wsX50)
def wsX6_clearText : List Cond := .code yX6_clearText cX6_clearText 2 (some .int) :: ([.fieldLink RX6 36 "ChargeStages" "text" "LChargeStages$Text;", .fieldLink RX6 136 "ChargeStages$Text" "length" "I"] ++ wsX60 ++ wsX50)
def wsX6_undo_r1 : List Cond := [Cond.fieldLink RX6 29 "ChargeStages" "history" "LChargeStages$History;", Cond.fieldLink RX6 142 "ChargeStages$History" "states" "I", Cond.fieldLink RX6 10 "ChargeStages" "now" "LChargeStages$State;", Cond.methodLink RX6 145 yX1_takeInto, Cond.instanceMethod yX1_takeInto, Cond.selects RX1 yX1_takeInto yX1_takeInto, Cond.initialized RX1, Cond.code yX1_takeInto cX1_takeInto 2 none, Cond.fieldLink RX1 9 "ChargeStages$History" "states" "I", Cond.fieldLink RX1 17 "ChargeStages$History" "kept" "[LChargeStages$State;", Cond.methodLink RX1 25 yX4_copyFrom, Cond.instanceMethod yX4_copyFrom, Cond.selects RX4 yX4_copyFrom yX4_copyFrom, Cond.initialized RX4, Cond.code yX4_copyFrom cX4_copyFrom 2 none, Cond.fieldLink RX4 9 "ChargeStages$State" "settings" "[I", Cond.methodLink RX4 65 arraycopyName, Cond.native arraycopyName, Cond.static arraycopyName, Cond.initialized "java/lang/System", Cond.fieldLink RX4 18 "ChargeStages$State" "row" "LChargeStages$Battery;", Cond.fieldLink RX4 25 "ChargeStages$State" "profile" "LChargeStages$Profile;", Cond.fieldLink RX4 32 "ChargeStages$State" "log" "LChargeStages$Log;", Cond.fieldLink RX4 36 "ChargeStages$State" "mode" "I"]
def wsX6_undo_r2 : List Cond := [Cond.fieldLink RX4 40 "ChargeStages$State" "stage" "I", Cond.fieldLink RX4 43 "ChargeStages$State" "lasted" "I", Cond.fieldLink RX4 46 "ChargeStages$State" "tick" "I", Cond.fieldLink RX4 49 "ChargeStages$State" "pausedTicks" "I", Cond.fieldLink RX4 52 "ChargeStages$State" "wasPaused" "Z", Cond.fieldLink RX4 56 "ChargeStages$State" "timesDone" "I", Cond.fieldLink RX4 59 "ChargeStages$State" "timesAtFault" "I", Cond.methodLink RX4 71 yX0_copyFrom, Cond.instanceMethod yX0_copyFrom, Cond.selects RX0 yX0_copyFrom yX0_copyFrom, Cond.initialized RX0, Cond.code yX0_copyFrom cX0_copyFrom 2 none, Cond.fieldLink RX0 9 "ChargeStages$Battery" "cells" "I", Cond.fieldLink RX0 15 "ChargeStages$Battery" "charge" "[I", Cond.methodLink RX0 46 arraycopyName, Cond.fieldLink RX0 19 "ChargeStages$Battery" "rest" "[I", Cond.fieldLink RX0 22 "ChargeStages$Battery" "cameIn" "[I", Cond.fieldLink RX0 25 "ChargeStages$Battery" "stored" "[I", Cond.fieldLink RX0 28 "ChargeStages$Battery" "spilled" "[I", Cond.fieldLink RX0 31 "ChargeStages$Battery" "bled" "[I", Cond.fieldLink RX0 34 "ChargeStages$Battery" "used" "[I", Cond.methodLink RX4 75 yX3_copyFrom, Cond.instanceMethod yX3_copyFrom, Cond.selects RX3 yX3_copyFrom yX3_copyFrom]
def wsX6_undo_r3 : List Cond := [Cond.initialized RX3, Cond.code yX3_copyFrom cX3_copyFrom 2 none, Cond.fieldLink RX3 9 "ChargeStages$Profile" "stages" "I", Cond.fieldLink RX3 15 "ChargeStages$Profile" "kind" "[I", Cond.methodLink RX3 28 arraycopyName, Cond.fieldLink RX3 19 "ChargeStages$Profile" "first" "[I", Cond.fieldLink RX3 22 "ChargeStages$Profile" "second" "[I", Cond.fieldLink RX3 25 "ChargeStages$Profile" "timer" "[I", Cond.methodLink RX4 78 yX2_copyFrom, Cond.instanceMethod yX2_copyFrom, Cond.selects RX2 yX2_copyFrom yX2_copyFrom, Cond.initialized RX2, Cond.code yX2_copyFrom cX2_copyFrom 2 none, Cond.fieldLink RX2 9 "ChargeStages$Log" "events" "I", Cond.fieldLink RX2 15 "ChargeStages$Log" "next" "I", Cond.fieldLink RX2 18 "ChargeStages$Log" "kind" "[I", Cond.methodLink RX2 34 arraycopyName, Cond.fieldLink RX2 22 "ChargeStages$Log" "tick" "[I", Cond.fieldLink RX2 25 "ChargeStages$Log" "stage" "[I"]
def wsX6_undo : List Cond := .code yX6_undo cX6_undo 1 (some .int) :: ((wsX6_undo_r1 ++ (wsX6_undo_r2 ++ wsX6_undo_r3)) ++ wsX60 ++ wsX10 ++ wsX40 ++ wsX00 ++ wsX30 ++ wsX20)
def wsX6_keep_r1 : List Cond := [Cond.fieldLink RX6 19 "ChargeStages" "snapshot" "LChargeStages$State;", Cond.fieldLink RX6 10 "ChargeStages" "now" "LChargeStages$State;", Cond.fieldLink RX6 22 "ChargeStages" "hasSnapshot" "Z", Cond.fieldLink RX6 129 "ChargeStages$State" "tick" "I", Cond.methodLink RX6 148 yX4_copyFrom, Cond.instanceMethod yX4_copyFrom, Cond.selects RX4 yX4_copyFrom yX4_copyFrom, Cond.initialized RX4, Cond.code yX4_copyFrom cX4_copyFrom 2 none, Cond.fieldLink RX4 9 "ChargeStages$State" "settings" "[I", Cond.methodLink RX4 65 arraycopyName, Cond.native arraycopyName, Cond.static arraycopyName, Cond.initialized "java/lang/System", Cond.fieldLink RX4 18 "ChargeStages$State" "row" "LChargeStages$Battery;", Cond.fieldLink RX4 25 "ChargeStages$State" "profile" "LChargeStages$Profile;", Cond.fieldLink RX4 32 "ChargeStages$State" "log" "LChargeStages$Log;", Cond.fieldLink RX4 36 "ChargeStages$State" "mode" "I", Cond.fieldLink RX4 40 "ChargeStages$State" "stage" "I", Cond.fieldLink RX4 43 "ChargeStages$State" "lasted" "I", Cond.fieldLink RX4 46 "ChargeStages$State" "tick" "I", Cond.fieldLink RX4 49 "ChargeStages$State" "pausedTicks" "I", Cond.fieldLink RX4 52 "ChargeStages$State" "wasPaused" "Z", Cond.fieldLink RX4 56 "ChargeStages$State" "timesDone" "I"]
def wsX6_keep_r2 : List Cond := [Cond.fieldLink RX4 59 "ChargeStages$State" "timesAtFault" "I", Cond.methodLink RX4 71 yX0_copyFrom, Cond.instanceMethod yX0_copyFrom, Cond.selects RX0 yX0_copyFrom yX0_copyFrom, Cond.initialized RX0, Cond.code yX0_copyFrom cX0_copyFrom 2 none, Cond.fieldLink RX0 9 "ChargeStages$Battery" "cells" "I", Cond.fieldLink RX0 15 "ChargeStages$Battery" "charge" "[I", Cond.methodLink RX0 46 arraycopyName, Cond.fieldLink RX0 19 "ChargeStages$Battery" "rest" "[I", Cond.fieldLink RX0 22 "ChargeStages$Battery" "cameIn" "[I", Cond.fieldLink RX0 25 "ChargeStages$Battery" "stored" "[I", Cond.fieldLink RX0 28 "ChargeStages$Battery" "spilled" "[I", Cond.fieldLink RX0 31 "ChargeStages$Battery" "bled" "[I", Cond.fieldLink RX0 34 "ChargeStages$Battery" "used" "[I", Cond.methodLink RX4 75 yX3_copyFrom, Cond.instanceMethod yX3_copyFrom, Cond.selects RX3 yX3_copyFrom yX3_copyFrom, Cond.initialized RX3, Cond.code yX3_copyFrom cX3_copyFrom 2 none, Cond.fieldLink RX3 9 "ChargeStages$Profile" "stages" "I", Cond.fieldLink RX3 15 "ChargeStages$Profile" "kind" "[I", Cond.methodLink RX3 28 arraycopyName, Cond.fieldLink RX3 19 "ChargeStages$Profile" "first" "[I"]
def wsX6_keep_r3 : List Cond := [Cond.fieldLink RX3 22 "ChargeStages$Profile" "second" "[I", Cond.fieldLink RX3 25 "ChargeStages$Profile" "timer" "[I", Cond.methodLink RX4 78 yX2_copyFrom, Cond.instanceMethod yX2_copyFrom, Cond.selects RX2 yX2_copyFrom yX2_copyFrom, Cond.initialized RX2, Cond.code yX2_copyFrom cX2_copyFrom 2 none, Cond.fieldLink RX2 9 "ChargeStages$Log" "events" "I", Cond.fieldLink RX2 15 "ChargeStages$Log" "next" "I", Cond.fieldLink RX2 18 "ChargeStages$Log" "kind" "[I", Cond.methodLink RX2 34 arraycopyName, Cond.fieldLink RX2 22 "ChargeStages$Log" "tick" "[I", Cond.fieldLink RX2 25 "ChargeStages$Log" "stage" "[I"]
def wsX6_keep : List Cond := .code yX6_keep cX6_keep 1 (some .int) :: ((wsX6_keep_r1 ++ (wsX6_keep_r2 ++ wsX6_keep_r3)) ++ wsX60 ++ wsX40 ++ wsX00 ++ wsX30 ++ wsX20)
def wsX6_restore_r1 : List Cond := [Cond.fieldLink RX6 22 "ChargeStages" "hasSnapshot" "Z", Cond.fieldLink RX6 29 "ChargeStages" "history" "LChargeStages$History;", Cond.fieldLink RX6 10 "ChargeStages" "now" "LChargeStages$State;", Cond.fieldLink RX6 19 "ChargeStages" "snapshot" "LChargeStages$State;", Cond.fieldLink RX6 129 "ChargeStages$State" "tick" "I", Cond.methodLink RX6 60 yX1_add, Cond.instanceMethod yX1_add, Cond.selects RX1 yX1_add yX1_add, Cond.initialized RX1, Cond.code yX1_add cX1_add 2 none, Cond.fieldLink RX1 9 "ChargeStages$History" "states" "I", Cond.fieldLink RX1 17 "ChargeStages$History" "kept" "[LChargeStages$State;", Cond.methodLink RX1 22 yX1_dropOldest, Cond.instanceMethod yX1_dropOldest, Cond.selects RX1 yX1_dropOldest yX1_dropOldest, Cond.code yX1_dropOldest cX1_dropOldest 3 none, Cond.methodLink RX1 25 yX4_copyFrom, Cond.instanceMethod yX4_copyFrom, Cond.selects RX4 yX4_copyFrom yX4_copyFrom, Cond.initialized RX4, Cond.code yX4_copyFrom cX4_copyFrom 2 none, Cond.fieldLink RX4 9 "ChargeStages$State" "settings" "[I", Cond.methodLink RX4 65 arraycopyName, Cond.native arraycopyName]
def wsX6_restore_r2 : List Cond := [Cond.static arraycopyName, Cond.initialized "java/lang/System", Cond.fieldLink RX4 18 "ChargeStages$State" "row" "LChargeStages$Battery;", Cond.fieldLink RX4 25 "ChargeStages$State" "profile" "LChargeStages$Profile;", Cond.fieldLink RX4 32 "ChargeStages$State" "log" "LChargeStages$Log;", Cond.fieldLink RX4 36 "ChargeStages$State" "mode" "I", Cond.fieldLink RX4 40 "ChargeStages$State" "stage" "I", Cond.fieldLink RX4 43 "ChargeStages$State" "lasted" "I", Cond.fieldLink RX4 46 "ChargeStages$State" "tick" "I", Cond.fieldLink RX4 49 "ChargeStages$State" "pausedTicks" "I", Cond.fieldLink RX4 52 "ChargeStages$State" "wasPaused" "Z", Cond.fieldLink RX4 56 "ChargeStages$State" "timesDone" "I", Cond.fieldLink RX4 59 "ChargeStages$State" "timesAtFault" "I", Cond.methodLink RX4 71 yX0_copyFrom, Cond.instanceMethod yX0_copyFrom, Cond.selects RX0 yX0_copyFrom yX0_copyFrom, Cond.initialized RX0, Cond.code yX0_copyFrom cX0_copyFrom 2 none, Cond.fieldLink RX0 9 "ChargeStages$Battery" "cells" "I", Cond.fieldLink RX0 15 "ChargeStages$Battery" "charge" "[I", Cond.methodLink RX0 46 arraycopyName, Cond.fieldLink RX0 19 "ChargeStages$Battery" "rest" "[I", Cond.fieldLink RX0 22 "ChargeStages$Battery" "cameIn" "[I", Cond.fieldLink RX0 25 "ChargeStages$Battery" "stored" "[I"]
def wsX6_restore_r3 : List Cond := [Cond.fieldLink RX0 28 "ChargeStages$Battery" "spilled" "[I", Cond.fieldLink RX0 31 "ChargeStages$Battery" "bled" "[I", Cond.fieldLink RX0 34 "ChargeStages$Battery" "used" "[I", Cond.methodLink RX4 75 yX3_copyFrom, Cond.instanceMethod yX3_copyFrom, Cond.selects RX3 yX3_copyFrom yX3_copyFrom, Cond.initialized RX3, Cond.code yX3_copyFrom cX3_copyFrom 2 none, Cond.fieldLink RX3 9 "ChargeStages$Profile" "stages" "I", Cond.fieldLink RX3 15 "ChargeStages$Profile" "kind" "[I", Cond.methodLink RX3 28 arraycopyName, Cond.fieldLink RX3 19 "ChargeStages$Profile" "first" "[I", Cond.fieldLink RX3 22 "ChargeStages$Profile" "second" "[I", Cond.fieldLink RX3 25 "ChargeStages$Profile" "timer" "[I", Cond.methodLink RX4 78 yX2_copyFrom, Cond.instanceMethod yX2_copyFrom, Cond.selects RX2 yX2_copyFrom yX2_copyFrom, Cond.initialized RX2, Cond.code yX2_copyFrom cX2_copyFrom 2 none, Cond.fieldLink RX2 9 "ChargeStages$Log" "events" "I", Cond.fieldLink RX2 15 "ChargeStages$Log" "next" "I", Cond.fieldLink RX2 18 "ChargeStages$Log" "kind" "[I", Cond.methodLink RX2 34 arraycopyName, Cond.fieldLink RX2 22 "ChargeStages$Log" "tick" "[I"]
def wsX6_restore_r4 : List Cond := [Cond.fieldLink RX2 25 "ChargeStages$Log" "stage" "[I", Cond.methodLink RX6 148 yX4_copyFrom]
def wsX6_restore : List Cond := .code yX6_restore cX6_restore 1 (some .int) :: ((wsX6_restore_r1 ++ (wsX6_restore_r2 ++ (wsX6_restore_r3 ++ wsX6_restore_r4))) ++ wsX60 ++ wsX40 ++ wsX10 ++ wsX00 ++ wsX30 ++ wsX20)
def wsX6_cell : List Cond := .code yX6_cell cX6_cell 3 (some .int) :: ([.fieldLink RX6 10 "ChargeStages" "now" "LChargeStages$State;", .fieldLink RX6 50 "ChargeStages$State" "row" "LChargeStages$Battery;", .fieldLink RX6 79 "ChargeStages$Battery" "charge" "[I", .fieldLink RX6 75 "ChargeStages$State" "settings" "[I", .fieldLink RX6 82 "ChargeStages$Battery" "rest" "[I", .fieldLink RX6 154 "ChargeStages$Battery" "cameIn" "[I", .fieldLink RX6 157 "ChargeStages$Battery" "stored" "[I", .fieldLink RX6 160 "ChargeStages$Battery" "spilled" "[I", .fieldLink RX6 163 "ChargeStages$Battery" "bled" "[I", .fieldLink RX6 166 "ChargeStages$Battery" "used" "[I", .methodLink RX6 71 yX0_has, .instanceMethod yX0_has, .selects RX0 yX0_has yX0_has, .initialized RX0, .code yX0_has cX0_has 2 (some .boolean), .fieldLink RX0 9 "ChargeStages$Battery" "cells" "I", .methodLink RX6 150 yX6_baseVoltage, .static yX6_baseVoltage, .initialized RX6, .code yX6_baseVoltage cX6_baseVoltage 2 (some .int)] ++ wsX60 ++ wsX40 ++ wsX00)
def wsX6_setting : List Cond := .code yX6_setting cX6_setting 2 (some .int) :: ([.fieldLink RX6 10 "ChargeStages" "now" "LChargeStages$State;", .fieldLink RX6 75 "ChargeStages$State" "settings" "[I", .methodLink RX6 92 yX6_isSetting, .static yX6_isSetting, .initialized RX6, .code yX6_isSetting cX6_isSetting 1 (some .boolean)] ++ wsX60 ++ wsX40)
def wsX6_stage_r1 : List Cond := [Cond.fieldLink RX6 10 "ChargeStages" "now" "LChargeStages$State;", Cond.fieldLink RX6 116 "ChargeStages$State" "profile" "LChargeStages$Profile;", Cond.fieldLink RX6 170 "ChargeStages$Profile" "kind" "[I", Cond.fieldLink RX6 173 "ChargeStages$Profile" "first" "[I", Cond.fieldLink RX6 176 "ChargeStages$Profile" "second" "[I", Cond.fieldLink RX6 179 "ChargeStages$Profile" "timer" "[I", Cond.methodLink RX6 169 yX3_has, Cond.instanceMethod yX3_has, Cond.selects RX3 yX3_has yX3_has, Cond.initialized RX3, Cond.code yX3_has cX3_has 2 (some .boolean), Cond.fieldLink RX3 9 "ChargeStages$Profile" "stages" "I", Cond.methodLink RX6 182 yX4_limitOfNow, Cond.instanceMethod yX4_limitOfNow, Cond.selects RX4 yX4_limitOfNow yX4_limitOfNow, Cond.initialized RX4, Cond.code yX4_limitOfNow cX4_limitOfNow 2 (some .int), Cond.fieldLink RX4 25 "ChargeStages$State" "profile" "LChargeStages$Profile;", Cond.fieldLink RX4 9 "ChargeStages$State" "settings" "[I", Cond.methodLink RX4 89 yX3_limitOf, Cond.instanceMethod yX3_limitOf, Cond.selects RX3 yX3_limitOf yX3_limitOf, Cond.code yX3_limitOf cX3_limitOf 2 (some .int), Cond.fieldLink RX3 15 "ChargeStages$Profile" "kind" "[I"]
def wsX6_stage_r2 : List Cond := [Cond.fieldLink RX3 19 "ChargeStages$Profile" "first" "[I", Cond.fieldLink RX3 22 "ChargeStages$Profile" "second" "[I"]
def wsX6_stage : List Cond := .code yX6_stage cX6_stage 4 (some .int) :: ((wsX6_stage_r1 ++ wsX6_stage_r2) ++ wsX60 ++ wsX40 ++ wsX30)
def wsX6_voltage : List Cond := .code yX6_voltage cX6_voltage 2 (some .int) :: ([.fieldLink RX6 10 "ChargeStages" "now" "LChargeStages$State;", .methodLink RX6 186 yX4_greatestVoltage, .instanceMethod yX4_greatestVoltage, .selects RX4 yX4_greatestVoltage yX4_greatestVoltage, .initialized RX4, .code yX4_greatestVoltage cX4_greatestVoltage 2 (some .int), .fieldLink RX4 18 "ChargeStages$State" "row" "LChargeStages$Battery;", .fieldLink RX4 9 "ChargeStages$State" "settings" "[I", .methodLink RX4 81 yX0_greatestCharge, .instanceMethod yX0_greatestCharge, .selects RX0 yX0_greatestCharge yX0_greatestCharge, .initialized RX0, .code yX0_greatestCharge cX0_greatestCharge 3 (some .int), .fieldLink RX0 15 "ChargeStages$Battery" "charge" "[I", .fieldLink RX0 9 "ChargeStages$Battery" "cells" "I", .methodLink RX0 43 Lib.Math.max.name, .static Lib.Math.max.name, .initialized "java/lang/Math", .code Lib.Math.max.name Lib.Math.max.code 2 (some .int), .static yX6_baseVoltage, .initialized RX6, .code yX6_baseVoltage cX6_baseVoltage 2 (some .int)] ++ wsX60 ++ wsX40 ++ wsX00)
def wsX6_current_r1 : List Cond := [Cond.fieldLink RX6 10 "ChargeStages" "now" "LChargeStages$State;", Cond.fieldLink RX6 68 "ChargeStages$State" "mode" "I", Cond.methodLink RX6 195 Lib.Math.max.name, Cond.static Lib.Math.max.name, Cond.initialized "java/lang/Math", Cond.code Lib.Math.max.name Lib.Math.max.code 2 (some .int), Cond.methodLink RX6 189 yX4_isPaused, Cond.instanceMethod yX4_isPaused, Cond.selects RX4 yX4_isPaused yX4_isPaused, Cond.initialized RX4, Cond.code yX4_isPaused cX4_isPaused 1 (some .boolean), Cond.fieldLink RX4 36 "ChargeStages$State" "mode" "I", Cond.fieldLink RX4 9 "ChargeStages$State" "settings" "[I", Cond.static yX6_isIn, Cond.initialized RX6, Cond.code yX6_isIn cX6_isIn 3 (some .boolean), Cond.methodLink RX6 192 yX4_currentOfStage, Cond.instanceMethod yX4_currentOfStage, Cond.selects RX4 yX4_currentOfStage yX4_currentOfStage, Cond.code yX4_currentOfStage cX4_currentOfStage 2 (some .int), Cond.fieldLink RX4 25 "ChargeStages$State" "profile" "LChargeStages$Profile;", Cond.fieldLink RX4 40 "ChargeStages$State" "stage" "I", Cond.fieldLink RX4 143 "ChargeStages$Profile" "kind" "[I", Cond.fieldLink RX4 146 "ChargeStages$Profile" "first" "[I"]
def wsX6_current_r2 : List Cond := [Cond.fieldLink RX4 158 "ChargeStages$Profile" "second" "[I", Cond.methodLink RX4 137 yX3_has, Cond.instanceMethod yX3_has, Cond.selects RX3 yX3_has yX3_has, Cond.initialized RX3, Cond.code yX3_has cX3_has 2 (some .boolean), Cond.fieldLink RX3 9 "ChargeStages$Profile" "stages" "I", Cond.methodLink RX4 149 yX4_limitOfNow, Cond.instanceMethod yX4_limitOfNow, Cond.selects RX4 yX4_limitOfNow yX4_limitOfNow, Cond.code yX4_limitOfNow cX4_limitOfNow 2 (some .int), Cond.methodLink RX4 89 yX3_limitOf, Cond.instanceMethod yX3_limitOf, Cond.selects RX3 yX3_limitOf yX3_limitOf, Cond.code yX3_limitOf cX3_limitOf 2 (some .int), Cond.fieldLink RX3 15 "ChargeStages$Profile" "kind" "[I", Cond.fieldLink RX3 19 "ChargeStages$Profile" "first" "[I", Cond.fieldLink RX3 22 "ChargeStages$Profile" "second" "[I", Cond.methodLink RX4 152 yX4_greatestVoltage, Cond.instanceMethod yX4_greatestVoltage, Cond.selects RX4 yX4_greatestVoltage yX4_greatestVoltage, Cond.code yX4_greatestVoltage cX4_greatestVoltage 2 (some .int), Cond.fieldLink RX4 18 "ChargeStages$State" "row" "LChargeStages$Battery;", Cond.methodLink RX4 81 yX0_greatestCharge]
def wsX6_current_r3 : List Cond := [Cond.instanceMethod yX0_greatestCharge, Cond.selects RX0 yX0_greatestCharge yX0_greatestCharge, Cond.initialized RX0, Cond.code yX0_greatestCharge cX0_greatestCharge 3 (some .int), Cond.fieldLink RX0 15 "ChargeStages$Battery" "charge" "[I", Cond.fieldLink RX0 9 "ChargeStages$Battery" "cells" "I", Cond.methodLink RX0 43 Lib.Math.max.name, Cond.static yX6_baseVoltage, Cond.code yX6_baseVoltage cX6_baseVoltage 2 (some .int), Cond.methodLink RX4 155 yX4_heldCurrent, Cond.instanceMethod yX4_heldCurrent, Cond.selects RX4 yX4_heldCurrent yX4_heldCurrent, Cond.code yX4_heldCurrent cX4_heldCurrent 3 (some .int), Cond.methodLink RX4 161 Lib.Math.min.name, Cond.static Lib.Math.min.name, Cond.code Lib.Math.min.name Lib.Math.min.code 2 (some .int)]
def wsX6_current : List Cond := .code yX6_current cX6_current 1 (some .int) :: ((wsX6_current_r1 ++ (wsX6_current_r2 ++ wsX6_current_r3)) ++ wsX60 ++ wsX40 ++ wsX30 ++ wsX00)
def wsX6_doneIn_r1 : List Cond := [Cond.fieldLink RX6 10 "ChargeStages" "now" "LChargeStages$State;", Cond.fieldLink RX6 68 "ChargeStages$State" "mode" "I", Cond.fieldLink RX6 16 "ChargeStages" "forecast" "LChargeStages$State;", Cond.methodLink RX6 148 yX4_copyFrom, Cond.instanceMethod yX4_copyFrom, Cond.selects RX4 yX4_copyFrom yX4_copyFrom, Cond.initialized RX4, Cond.code yX4_copyFrom cX4_copyFrom 2 none, Cond.fieldLink RX4 9 "ChargeStages$State" "settings" "[I", Cond.methodLink RX4 65 arraycopyName, Cond.native arraycopyName, Cond.static arraycopyName, Cond.initialized "java/lang/System", Cond.fieldLink RX4 18 "ChargeStages$State" "row" "LChargeStages$Battery;", Cond.fieldLink RX4 25 "ChargeStages$State" "profile" "LChargeStages$Profile;", Cond.fieldLink RX4 32 "ChargeStages$State" "log" "LChargeStages$Log;", Cond.fieldLink RX4 36 "ChargeStages$State" "mode" "I", Cond.fieldLink RX4 40 "ChargeStages$State" "stage" "I", Cond.fieldLink RX4 43 "ChargeStages$State" "lasted" "I", Cond.fieldLink RX4 46 "ChargeStages$State" "tick" "I", Cond.fieldLink RX4 49 "ChargeStages$State" "pausedTicks" "I", Cond.fieldLink RX4 52 "ChargeStages$State" "wasPaused" "Z", Cond.fieldLink RX4 56 "ChargeStages$State" "timesDone" "I", Cond.fieldLink RX4 59 "ChargeStages$State" "timesAtFault" "I"]
def wsX6_doneIn_r2 : List Cond := [Cond.methodLink RX4 71 yX0_copyFrom, Cond.instanceMethod yX0_copyFrom, Cond.selects RX0 yX0_copyFrom yX0_copyFrom, Cond.initialized RX0, Cond.code yX0_copyFrom cX0_copyFrom 2 none, Cond.fieldLink RX0 9 "ChargeStages$Battery" "cells" "I", Cond.fieldLink RX0 15 "ChargeStages$Battery" "charge" "[I", Cond.methodLink RX0 46 arraycopyName, Cond.fieldLink RX0 19 "ChargeStages$Battery" "rest" "[I", Cond.fieldLink RX0 22 "ChargeStages$Battery" "cameIn" "[I", Cond.fieldLink RX0 25 "ChargeStages$Battery" "stored" "[I", Cond.fieldLink RX0 28 "ChargeStages$Battery" "spilled" "[I", Cond.fieldLink RX0 31 "ChargeStages$Battery" "bled" "[I", Cond.fieldLink RX0 34 "ChargeStages$Battery" "used" "[I", Cond.methodLink RX4 75 yX3_copyFrom, Cond.instanceMethod yX3_copyFrom, Cond.selects RX3 yX3_copyFrom yX3_copyFrom, Cond.initialized RX3, Cond.code yX3_copyFrom cX3_copyFrom 2 none, Cond.fieldLink RX3 9 "ChargeStages$Profile" "stages" "I", Cond.fieldLink RX3 15 "ChargeStages$Profile" "kind" "[I", Cond.methodLink RX3 28 arraycopyName, Cond.fieldLink RX3 19 "ChargeStages$Profile" "first" "[I", Cond.fieldLink RX3 22 "ChargeStages$Profile" "second" "[I"]
def wsX6_doneIn_r3 : List Cond := [Cond.fieldLink RX3 25 "ChargeStages$Profile" "timer" "[I", Cond.methodLink RX4 78 yX2_copyFrom, Cond.instanceMethod yX2_copyFrom, Cond.selects RX2 yX2_copyFrom yX2_copyFrom, Cond.initialized RX2, Cond.code yX2_copyFrom cX2_copyFrom 2 none, Cond.fieldLink RX2 9 "ChargeStages$Log" "events" "I", Cond.fieldLink RX2 15 "ChargeStages$Log" "next" "I", Cond.fieldLink RX2 18 "ChargeStages$Log" "kind" "[I", Cond.methodLink RX2 34 arraycopyName, Cond.fieldLink RX2 22 "ChargeStages$Log" "tick" "[I", Cond.fieldLink RX2 25 "ChargeStages$Log" "stage" "[I", Cond.methodLink RX6 200 yX4_runUntilDone, Cond.instanceMethod yX4_runUntilDone, Cond.selects RX4 yX4_runUntilDone yX4_runUntilDone, Cond.code yX4_runUntilDone cX4_runUntilDone 3 (some .int), Cond.methodLink RX4 108 yX4_isPaused, Cond.instanceMethod yX4_isPaused, Cond.selects RX4 yX4_isPaused yX4_isPaused, Cond.code yX4_isPaused cX4_isPaused 1 (some .boolean), Cond.static yX6_isIn, Cond.initialized RX6, Cond.code yX6_isIn cX6_isIn 3 (some .boolean), Cond.methodLink RX4 105 yX4_passOneTick]
def wsX6_doneIn_r4 : List Cond := [Cond.instanceMethod yX4_passOneTick, Cond.selects RX4 yX4_passOneTick yX4_passOneTick, Cond.code yX4_passOneTick cX4_passOneTick 2 none, Cond.methodLink RX4 112 yX4_countPausedTick, Cond.instanceMethod yX4_countPausedTick, Cond.selects RX4 yX4_countPausedTick yX4_countPausedTick, Cond.code yX4_countPausedTick cX4_countPausedTick 1 none, Cond.methodLink RX4 101 yX2_add, Cond.instanceMethod yX2_add, Cond.selects RX2 yX2_add yX2_add, Cond.code yX2_add cX2_add 4 none, Cond.methodLink RX4 115 yX4_charge, Cond.instanceMethod yX4_charge, Cond.selects RX4 yX4_charge yX4_charge, Cond.code yX4_charge cX4_charge 3 none, Cond.methodLink RX4 121 yX4_currentOfStage, Cond.instanceMethod yX4_currentOfStage, Cond.selects RX4 yX4_currentOfStage yX4_currentOfStage, Cond.code yX4_currentOfStage cX4_currentOfStage 2 (some .int), Cond.fieldLink RX4 143 "ChargeStages$Profile" "kind" "[I", Cond.fieldLink RX4 146 "ChargeStages$Profile" "first" "[I", Cond.fieldLink RX4 158 "ChargeStages$Profile" "second" "[I", Cond.methodLink RX4 137 yX3_has, Cond.instanceMethod yX3_has]
def wsX6_doneIn_r5 : List Cond := [Cond.selects RX3 yX3_has yX3_has, Cond.code yX3_has cX3_has 2 (some .boolean), Cond.methodLink RX4 149 yX4_limitOfNow, Cond.instanceMethod yX4_limitOfNow, Cond.selects RX4 yX4_limitOfNow yX4_limitOfNow, Cond.code yX4_limitOfNow cX4_limitOfNow 2 (some .int), Cond.methodLink RX4 89 yX3_limitOf, Cond.instanceMethod yX3_limitOf, Cond.selects RX3 yX3_limitOf yX3_limitOf, Cond.code yX3_limitOf cX3_limitOf 2 (some .int), Cond.methodLink RX4 152 yX4_greatestVoltage, Cond.instanceMethod yX4_greatestVoltage, Cond.selects RX4 yX4_greatestVoltage yX4_greatestVoltage, Cond.code yX4_greatestVoltage cX4_greatestVoltage 2 (some .int), Cond.methodLink RX4 81 yX0_greatestCharge, Cond.instanceMethod yX0_greatestCharge, Cond.selects RX0 yX0_greatestCharge yX0_greatestCharge, Cond.code yX0_greatestCharge cX0_greatestCharge 3 (some .int), Cond.methodLink RX0 43 Lib.Math.max.name, Cond.static Lib.Math.max.name, Cond.initialized "java/lang/Math", Cond.code Lib.Math.max.name Lib.Math.max.code 2 (some .int), Cond.static yX6_baseVoltage, Cond.code yX6_baseVoltage cX6_baseVoltage 2 (some .int)]
def wsX6_doneIn_r6 : List Cond := [Cond.methodLink RX4 155 yX4_heldCurrent, Cond.instanceMethod yX4_heldCurrent, Cond.selects RX4 yX4_heldCurrent yX4_heldCurrent, Cond.code yX4_heldCurrent cX4_heldCurrent 3 (some .int), Cond.methodLink RX4 161 Lib.Math.min.name, Cond.static Lib.Math.min.name, Cond.code Lib.Math.min.name Lib.Math.min.code 2 (some .int), Cond.methodLink RX4 124 yX0_takeIn, Cond.instanceMethod yX0_takeIn, Cond.selects RX0 yX0_takeIn yX0_takeIn, Cond.code yX0_takeIn cX0_takeIn 9 none, Cond.methodLink RX4 127 yX4_endsBehind, Cond.instanceMethod yX4_endsBehind, Cond.selects RX4 yX4_endsBehind yX4_endsBehind, Cond.code yX4_endsBehind cX4_endsBehind 2 (some .boolean), Cond.methodLink RX4 131 yX4_endStage, Cond.instanceMethod yX4_endStage, Cond.selects RX4 yX4_endStage yX4_endStage, Cond.code yX4_endStage cX4_endStage 1 none, Cond.methodLink RX4 97 yX4_begin, Cond.instanceMethod yX4_begin, Cond.selects RX4 yX4_begin yX4_begin, Cond.code yX4_begin cX4_begin 2 none, Cond.methodLink RX4 134 yX4_hasRunOut]
def wsX6_doneIn_r7 : List Cond := [Cond.instanceMethod yX4_hasRunOut, Cond.selects RX4 yX4_hasRunOut yX4_hasRunOut, Cond.code yX4_hasRunOut cX4_hasRunOut 1 (some .boolean), Cond.fieldLink RX4 140 "ChargeStages$Profile" "timer" "[I", Cond.methodLink RX4 118 yX0_loseTo, Cond.instanceMethod yX0_loseTo, Cond.selects RX0 yX0_loseTo yX0_loseTo, Cond.code yX0_loseTo cX0_loseTo 7 none, Cond.methodLink RX0 37 Lib.Math.min.name, Cond.methodLink RX0 52 yX0_leastCharge, Cond.instanceMethod yX0_leastCharge, Cond.selects RX0 yX0_leastCharge yX0_leastCharge, Cond.code yX0_leastCharge cX0_leastCharge 3 (some .int)]
def wsX6_doneIn : List Cond := .code yX6_doneIn cX6_doneIn 1 (some .int) :: ((wsX6_doneIn_r1 ++ (wsX6_doneIn_r2 ++ (wsX6_doneIn_r3 ++ (wsX6_doneIn_r4 ++ (wsX6_doneIn_r5 ++ (wsX6_doneIn_r6 ++ wsX6_doneIn_r7)))))) ++ wsX60 ++ wsX40 ++ wsX00 ++ wsX30 ++ wsX20)
def wsX6_chargeIn_r1 : List Cond := [Cond.fieldLink RX6 10 "ChargeStages" "now" "LChargeStages$State;", Cond.fieldLink RX6 50 "ChargeStages$State" "row" "LChargeStages$Battery;", Cond.fieldLink RX6 16 "ChargeStages" "forecast" "LChargeStages$State;", Cond.fieldLink RX6 79 "ChargeStages$Battery" "charge" "[I", Cond.methodLink RX6 71 yX0_has, Cond.instanceMethod yX0_has, Cond.selects RX0 yX0_has yX0_has, Cond.initialized RX0, Cond.code yX0_has cX0_has 2 (some .boolean), Cond.fieldLink RX0 9 "ChargeStages$Battery" "cells" "I", Cond.methodLink RX6 148 yX4_copyFrom, Cond.instanceMethod yX4_copyFrom, Cond.selects RX4 yX4_copyFrom yX4_copyFrom, Cond.initialized RX4, Cond.code yX4_copyFrom cX4_copyFrom 2 none, Cond.fieldLink RX4 9 "ChargeStages$State" "settings" "[I", Cond.methodLink RX4 65 arraycopyName, Cond.native arraycopyName, Cond.static arraycopyName, Cond.initialized "java/lang/System", Cond.fieldLink RX4 18 "ChargeStages$State" "row" "LChargeStages$Battery;", Cond.fieldLink RX4 25 "ChargeStages$State" "profile" "LChargeStages$Profile;", Cond.fieldLink RX4 32 "ChargeStages$State" "log" "LChargeStages$Log;", Cond.fieldLink RX4 36 "ChargeStages$State" "mode" "I"]
def wsX6_chargeIn_r2 : List Cond := [Cond.fieldLink RX4 40 "ChargeStages$State" "stage" "I", Cond.fieldLink RX4 43 "ChargeStages$State" "lasted" "I", Cond.fieldLink RX4 46 "ChargeStages$State" "tick" "I", Cond.fieldLink RX4 49 "ChargeStages$State" "pausedTicks" "I", Cond.fieldLink RX4 52 "ChargeStages$State" "wasPaused" "Z", Cond.fieldLink RX4 56 "ChargeStages$State" "timesDone" "I", Cond.fieldLink RX4 59 "ChargeStages$State" "timesAtFault" "I", Cond.methodLink RX4 71 yX0_copyFrom, Cond.instanceMethod yX0_copyFrom, Cond.selects RX0 yX0_copyFrom yX0_copyFrom, Cond.code yX0_copyFrom cX0_copyFrom 2 none, Cond.fieldLink RX0 15 "ChargeStages$Battery" "charge" "[I", Cond.methodLink RX0 46 arraycopyName, Cond.fieldLink RX0 19 "ChargeStages$Battery" "rest" "[I", Cond.fieldLink RX0 22 "ChargeStages$Battery" "cameIn" "[I", Cond.fieldLink RX0 25 "ChargeStages$Battery" "stored" "[I", Cond.fieldLink RX0 28 "ChargeStages$Battery" "spilled" "[I", Cond.fieldLink RX0 31 "ChargeStages$Battery" "bled" "[I", Cond.fieldLink RX0 34 "ChargeStages$Battery" "used" "[I", Cond.methodLink RX4 75 yX3_copyFrom, Cond.instanceMethod yX3_copyFrom, Cond.selects RX3 yX3_copyFrom yX3_copyFrom, Cond.initialized RX3, Cond.code yX3_copyFrom cX3_copyFrom 2 none]
def wsX6_chargeIn_r3 : List Cond := [Cond.fieldLink RX3 9 "ChargeStages$Profile" "stages" "I", Cond.fieldLink RX3 15 "ChargeStages$Profile" "kind" "[I", Cond.methodLink RX3 28 arraycopyName, Cond.fieldLink RX3 19 "ChargeStages$Profile" "first" "[I", Cond.fieldLink RX3 22 "ChargeStages$Profile" "second" "[I", Cond.fieldLink RX3 25 "ChargeStages$Profile" "timer" "[I", Cond.methodLink RX4 78 yX2_copyFrom, Cond.instanceMethod yX2_copyFrom, Cond.selects RX2 yX2_copyFrom yX2_copyFrom, Cond.initialized RX2, Cond.code yX2_copyFrom cX2_copyFrom 2 none, Cond.fieldLink RX2 9 "ChargeStages$Log" "events" "I", Cond.fieldLink RX2 15 "ChargeStages$Log" "next" "I", Cond.fieldLink RX2 18 "ChargeStages$Log" "kind" "[I", Cond.methodLink RX2 34 arraycopyName, Cond.fieldLink RX2 22 "ChargeStages$Log" "tick" "[I", Cond.fieldLink RX2 25 "ChargeStages$Log" "stage" "[I", Cond.methodLink RX6 133 yX4_passTicks, Cond.instanceMethod yX4_passTicks, Cond.selects RX4 yX4_passTicks yX4_passTicks, Cond.code yX4_passTicks cX4_passTicks 3 none, Cond.methodLink RX4 105 yX4_passOneTick, Cond.instanceMethod yX4_passOneTick, Cond.selects RX4 yX4_passOneTick yX4_passOneTick]
def wsX6_chargeIn_r4 : List Cond := [Cond.code yX4_passOneTick cX4_passOneTick 2 none, Cond.methodLink RX4 108 yX4_isPaused, Cond.instanceMethod yX4_isPaused, Cond.selects RX4 yX4_isPaused yX4_isPaused, Cond.code yX4_isPaused cX4_isPaused 1 (some .boolean), Cond.static yX6_isIn, Cond.initialized RX6, Cond.code yX6_isIn cX6_isIn 3 (some .boolean), Cond.methodLink RX4 112 yX4_countPausedTick, Cond.instanceMethod yX4_countPausedTick, Cond.selects RX4 yX4_countPausedTick yX4_countPausedTick, Cond.code yX4_countPausedTick cX4_countPausedTick 1 none, Cond.methodLink RX4 101 yX2_add, Cond.instanceMethod yX2_add, Cond.selects RX2 yX2_add yX2_add, Cond.code yX2_add cX2_add 4 none, Cond.methodLink RX4 115 yX4_charge, Cond.instanceMethod yX4_charge, Cond.selects RX4 yX4_charge yX4_charge, Cond.code yX4_charge cX4_charge 3 none, Cond.methodLink RX4 121 yX4_currentOfStage, Cond.instanceMethod yX4_currentOfStage, Cond.selects RX4 yX4_currentOfStage yX4_currentOfStage, Cond.code yX4_currentOfStage cX4_currentOfStage 2 (some .int)]
def wsX6_chargeIn_r5 : List Cond := [Cond.fieldLink RX4 143 "ChargeStages$Profile" "kind" "[I", Cond.fieldLink RX4 146 "ChargeStages$Profile" "first" "[I", Cond.fieldLink RX4 158 "ChargeStages$Profile" "second" "[I", Cond.methodLink RX4 137 yX3_has, Cond.instanceMethod yX3_has, Cond.selects RX3 yX3_has yX3_has, Cond.code yX3_has cX3_has 2 (some .boolean), Cond.methodLink RX4 149 yX4_limitOfNow, Cond.instanceMethod yX4_limitOfNow, Cond.selects RX4 yX4_limitOfNow yX4_limitOfNow, Cond.code yX4_limitOfNow cX4_limitOfNow 2 (some .int), Cond.methodLink RX4 89 yX3_limitOf, Cond.instanceMethod yX3_limitOf, Cond.selects RX3 yX3_limitOf yX3_limitOf, Cond.code yX3_limitOf cX3_limitOf 2 (some .int), Cond.methodLink RX4 152 yX4_greatestVoltage, Cond.instanceMethod yX4_greatestVoltage, Cond.selects RX4 yX4_greatestVoltage yX4_greatestVoltage, Cond.code yX4_greatestVoltage cX4_greatestVoltage 2 (some .int), Cond.methodLink RX4 81 yX0_greatestCharge, Cond.instanceMethod yX0_greatestCharge, Cond.selects RX0 yX0_greatestCharge yX0_greatestCharge, Cond.code yX0_greatestCharge cX0_greatestCharge 3 (some .int), Cond.methodLink RX0 43 Lib.Math.max.name]
def wsX6_chargeIn_r6 : List Cond := [Cond.static Lib.Math.max.name, Cond.initialized "java/lang/Math", Cond.code Lib.Math.max.name Lib.Math.max.code 2 (some .int), Cond.static yX6_baseVoltage, Cond.code yX6_baseVoltage cX6_baseVoltage 2 (some .int), Cond.methodLink RX4 155 yX4_heldCurrent, Cond.instanceMethod yX4_heldCurrent, Cond.selects RX4 yX4_heldCurrent yX4_heldCurrent, Cond.code yX4_heldCurrent cX4_heldCurrent 3 (some .int), Cond.methodLink RX4 161 Lib.Math.min.name, Cond.static Lib.Math.min.name, Cond.code Lib.Math.min.name Lib.Math.min.code 2 (some .int), Cond.methodLink RX4 124 yX0_takeIn, Cond.instanceMethod yX0_takeIn, Cond.selects RX0 yX0_takeIn yX0_takeIn, Cond.code yX0_takeIn cX0_takeIn 9 none, Cond.methodLink RX4 127 yX4_endsBehind, Cond.instanceMethod yX4_endsBehind, Cond.selects RX4 yX4_endsBehind yX4_endsBehind, Cond.code yX4_endsBehind cX4_endsBehind 2 (some .boolean), Cond.methodLink RX4 131 yX4_endStage, Cond.instanceMethod yX4_endStage, Cond.selects RX4 yX4_endStage yX4_endStage, Cond.code yX4_endStage cX4_endStage 1 none]
def wsX6_chargeIn_r7 : List Cond := [Cond.methodLink RX4 97 yX4_begin, Cond.instanceMethod yX4_begin, Cond.selects RX4 yX4_begin yX4_begin, Cond.code yX4_begin cX4_begin 2 none, Cond.methodLink RX4 134 yX4_hasRunOut, Cond.instanceMethod yX4_hasRunOut, Cond.selects RX4 yX4_hasRunOut yX4_hasRunOut, Cond.code yX4_hasRunOut cX4_hasRunOut 1 (some .boolean), Cond.fieldLink RX4 140 "ChargeStages$Profile" "timer" "[I", Cond.methodLink RX4 118 yX0_loseTo, Cond.instanceMethod yX0_loseTo, Cond.selects RX0 yX0_loseTo yX0_loseTo, Cond.code yX0_loseTo cX0_loseTo 7 none, Cond.methodLink RX0 37 Lib.Math.min.name, Cond.methodLink RX0 52 yX0_leastCharge, Cond.instanceMethod yX0_leastCharge, Cond.selects RX0 yX0_leastCharge yX0_leastCharge, Cond.code yX0_leastCharge cX0_leastCharge 3 (some .int)]
def wsX6_chargeIn : List Cond := .code yX6_chargeIn cX6_chargeIn 3 (some .int) :: ((wsX6_chargeIn_r1 ++ (wsX6_chargeIn_r2 ++ (wsX6_chargeIn_r3 ++ (wsX6_chargeIn_r4 ++ (wsX6_chargeIn_r5 ++ (wsX6_chargeIn_r6 ++ wsX6_chargeIn_r7)))))) ++ wsX60 ++ wsX40 ++ wsX00 ++ wsX30 ++ wsX20)
def wsX6_warmest_r1 : List Cond := [Cond.fieldLink RX6 10 "ChargeStages" "now" "LChargeStages$State;", Cond.fieldLink RX6 68 "ChargeStages$State" "mode" "I", Cond.fieldLink RX6 75 "ChargeStages$State" "settings" "[I", Cond.fieldLink RX6 16 "ChargeStages" "forecast" "LChargeStages$State;", Cond.methodLink RX6 148 yX4_copyFrom, Cond.instanceMethod yX4_copyFrom, Cond.selects RX4 yX4_copyFrom yX4_copyFrom, Cond.initialized RX4, Cond.code yX4_copyFrom cX4_copyFrom 2 none, Cond.fieldLink RX4 9 "ChargeStages$State" "settings" "[I", Cond.methodLink RX4 65 arraycopyName, Cond.native arraycopyName, Cond.static arraycopyName, Cond.initialized "java/lang/System", Cond.fieldLink RX4 18 "ChargeStages$State" "row" "LChargeStages$Battery;", Cond.fieldLink RX4 25 "ChargeStages$State" "profile" "LChargeStages$Profile;", Cond.fieldLink RX4 32 "ChargeStages$State" "log" "LChargeStages$Log;", Cond.fieldLink RX4 36 "ChargeStages$State" "mode" "I", Cond.fieldLink RX4 40 "ChargeStages$State" "stage" "I", Cond.fieldLink RX4 43 "ChargeStages$State" "lasted" "I", Cond.fieldLink RX4 46 "ChargeStages$State" "tick" "I", Cond.fieldLink RX4 49 "ChargeStages$State" "pausedTicks" "I", Cond.fieldLink RX4 52 "ChargeStages$State" "wasPaused" "Z", Cond.fieldLink RX4 56 "ChargeStages$State" "timesDone" "I"]
def wsX6_warmest_r2 : List Cond := [Cond.fieldLink RX4 59 "ChargeStages$State" "timesAtFault" "I", Cond.methodLink RX4 71 yX0_copyFrom, Cond.instanceMethod yX0_copyFrom, Cond.selects RX0 yX0_copyFrom yX0_copyFrom, Cond.initialized RX0, Cond.code yX0_copyFrom cX0_copyFrom 2 none, Cond.fieldLink RX0 9 "ChargeStages$Battery" "cells" "I", Cond.fieldLink RX0 15 "ChargeStages$Battery" "charge" "[I", Cond.methodLink RX0 46 arraycopyName, Cond.fieldLink RX0 19 "ChargeStages$Battery" "rest" "[I", Cond.fieldLink RX0 22 "ChargeStages$Battery" "cameIn" "[I", Cond.fieldLink RX0 25 "ChargeStages$Battery" "stored" "[I", Cond.fieldLink RX0 28 "ChargeStages$Battery" "spilled" "[I", Cond.fieldLink RX0 31 "ChargeStages$Battery" "bled" "[I", Cond.fieldLink RX0 34 "ChargeStages$Battery" "used" "[I", Cond.methodLink RX4 75 yX3_copyFrom, Cond.instanceMethod yX3_copyFrom, Cond.selects RX3 yX3_copyFrom yX3_copyFrom, Cond.initialized RX3, Cond.code yX3_copyFrom cX3_copyFrom 2 none, Cond.fieldLink RX3 9 "ChargeStages$Profile" "stages" "I", Cond.fieldLink RX3 15 "ChargeStages$Profile" "kind" "[I", Cond.methodLink RX3 28 arraycopyName, Cond.fieldLink RX3 19 "ChargeStages$Profile" "first" "[I"]
def wsX6_warmest_r3 : List Cond := [Cond.fieldLink RX3 22 "ChargeStages$Profile" "second" "[I", Cond.fieldLink RX3 25 "ChargeStages$Profile" "timer" "[I", Cond.methodLink RX4 78 yX2_copyFrom, Cond.instanceMethod yX2_copyFrom, Cond.selects RX2 yX2_copyFrom yX2_copyFrom, Cond.initialized RX2, Cond.code yX2_copyFrom cX2_copyFrom 2 none, Cond.fieldLink RX2 9 "ChargeStages$Log" "events" "I", Cond.fieldLink RX2 15 "ChargeStages$Log" "next" "I", Cond.fieldLink RX2 18 "ChargeStages$Log" "kind" "[I", Cond.methodLink RX2 34 arraycopyName, Cond.fieldLink RX2 22 "ChargeStages$Log" "tick" "[I", Cond.fieldLink RX2 25 "ChargeStages$Log" "stage" "[I", Cond.methodLink RX6 200 yX4_runUntilDone, Cond.instanceMethod yX4_runUntilDone, Cond.selects RX4 yX4_runUntilDone yX4_runUntilDone, Cond.code yX4_runUntilDone cX4_runUntilDone 3 (some .int), Cond.methodLink RX4 108 yX4_isPaused, Cond.instanceMethod yX4_isPaused, Cond.selects RX4 yX4_isPaused yX4_isPaused, Cond.code yX4_isPaused cX4_isPaused 1 (some .boolean), Cond.static yX6_isIn, Cond.initialized RX6, Cond.code yX6_isIn cX6_isIn 3 (some .boolean)]
def wsX6_warmest_r4 : List Cond := [Cond.methodLink RX4 105 yX4_passOneTick, Cond.instanceMethod yX4_passOneTick, Cond.selects RX4 yX4_passOneTick yX4_passOneTick, Cond.code yX4_passOneTick cX4_passOneTick 2 none, Cond.methodLink RX4 112 yX4_countPausedTick, Cond.instanceMethod yX4_countPausedTick, Cond.selects RX4 yX4_countPausedTick yX4_countPausedTick, Cond.code yX4_countPausedTick cX4_countPausedTick 1 none, Cond.methodLink RX4 101 yX2_add, Cond.instanceMethod yX2_add, Cond.selects RX2 yX2_add yX2_add, Cond.code yX2_add cX2_add 4 none, Cond.methodLink RX4 115 yX4_charge, Cond.instanceMethod yX4_charge, Cond.selects RX4 yX4_charge yX4_charge, Cond.code yX4_charge cX4_charge 3 none, Cond.methodLink RX4 121 yX4_currentOfStage, Cond.instanceMethod yX4_currentOfStage, Cond.selects RX4 yX4_currentOfStage yX4_currentOfStage, Cond.code yX4_currentOfStage cX4_currentOfStage 2 (some .int), Cond.fieldLink RX4 143 "ChargeStages$Profile" "kind" "[I", Cond.fieldLink RX4 146 "ChargeStages$Profile" "first" "[I", Cond.fieldLink RX4 158 "ChargeStages$Profile" "second" "[I", Cond.methodLink RX4 137 yX3_has]
def wsX6_warmest_r5 : List Cond := [Cond.instanceMethod yX3_has, Cond.selects RX3 yX3_has yX3_has, Cond.code yX3_has cX3_has 2 (some .boolean), Cond.methodLink RX4 149 yX4_limitOfNow, Cond.instanceMethod yX4_limitOfNow, Cond.selects RX4 yX4_limitOfNow yX4_limitOfNow, Cond.code yX4_limitOfNow cX4_limitOfNow 2 (some .int), Cond.methodLink RX4 89 yX3_limitOf, Cond.instanceMethod yX3_limitOf, Cond.selects RX3 yX3_limitOf yX3_limitOf, Cond.code yX3_limitOf cX3_limitOf 2 (some .int), Cond.methodLink RX4 152 yX4_greatestVoltage, Cond.instanceMethod yX4_greatestVoltage, Cond.selects RX4 yX4_greatestVoltage yX4_greatestVoltage, Cond.code yX4_greatestVoltage cX4_greatestVoltage 2 (some .int), Cond.methodLink RX4 81 yX0_greatestCharge, Cond.instanceMethod yX0_greatestCharge, Cond.selects RX0 yX0_greatestCharge yX0_greatestCharge, Cond.code yX0_greatestCharge cX0_greatestCharge 3 (some .int), Cond.methodLink RX0 43 Lib.Math.max.name, Cond.static Lib.Math.max.name, Cond.initialized "java/lang/Math", Cond.code Lib.Math.max.name Lib.Math.max.code 2 (some .int), Cond.static yX6_baseVoltage]
def wsX6_warmest_r6 : List Cond := [Cond.code yX6_baseVoltage cX6_baseVoltage 2 (some .int), Cond.methodLink RX4 155 yX4_heldCurrent, Cond.instanceMethod yX4_heldCurrent, Cond.selects RX4 yX4_heldCurrent yX4_heldCurrent, Cond.code yX4_heldCurrent cX4_heldCurrent 3 (some .int), Cond.methodLink RX4 161 Lib.Math.min.name, Cond.static Lib.Math.min.name, Cond.code Lib.Math.min.name Lib.Math.min.code 2 (some .int), Cond.methodLink RX4 124 yX0_takeIn, Cond.instanceMethod yX0_takeIn, Cond.selects RX0 yX0_takeIn yX0_takeIn, Cond.code yX0_takeIn cX0_takeIn 9 none, Cond.methodLink RX4 127 yX4_endsBehind, Cond.instanceMethod yX4_endsBehind, Cond.selects RX4 yX4_endsBehind yX4_endsBehind, Cond.code yX4_endsBehind cX4_endsBehind 2 (some .boolean), Cond.methodLink RX4 131 yX4_endStage, Cond.instanceMethod yX4_endStage, Cond.selects RX4 yX4_endStage yX4_endStage, Cond.code yX4_endStage cX4_endStage 1 none, Cond.methodLink RX4 97 yX4_begin, Cond.instanceMethod yX4_begin, Cond.selects RX4 yX4_begin yX4_begin, Cond.code yX4_begin cX4_begin 2 none]
def wsX6_warmest_r7 : List Cond := [Cond.methodLink RX4 134 yX4_hasRunOut, Cond.instanceMethod yX4_hasRunOut, Cond.selects RX4 yX4_hasRunOut yX4_hasRunOut, Cond.code yX4_hasRunOut cX4_hasRunOut 1 (some .boolean), Cond.fieldLink RX4 140 "ChargeStages$Profile" "timer" "[I", Cond.methodLink RX4 118 yX0_loseTo, Cond.instanceMethod yX0_loseTo, Cond.selects RX0 yX0_loseTo yX0_loseTo, Cond.code yX0_loseTo cX0_loseTo 7 none, Cond.methodLink RX0 37 Lib.Math.min.name, Cond.methodLink RX0 52 yX0_leastCharge, Cond.instanceMethod yX0_leastCharge, Cond.selects RX0 yX0_leastCharge yX0_leastCharge, Cond.code yX0_leastCharge cX0_leastCharge 3 (some .int)]
def wsX6_warmest : List Cond := .code yX6_warmest cX6_warmest 3 (some .int) :: ((wsX6_warmest_r1 ++ (wsX6_warmest_r2 ++ (wsX6_warmest_r3 ++ (wsX6_warmest_r4 ++ (wsX6_warmest_r5 ++ (wsX6_warmest_r6 ++ wsX6_warmest_r7)))))) ++ wsX60 ++ wsX40 ++ wsX00 ++ wsX30 ++ wsX20)
def wsX6_event : List Cond := .code yX6_event cX6_event 4 (some .int) :: ([.fieldLink RX6 10 "ChargeStages" "now" "LChargeStages$State;", .fieldLink RX6 203 "ChargeStages$State" "log" "LChargeStages$Log;", .fieldLink RX6 207 "ChargeStages$Log" "events" "I", .fieldLink RX6 215 "ChargeStages$Log" "kind" "[I", .fieldLink RX6 216 "ChargeStages$Log" "tick" "[I", .fieldLink RX6 218 "ChargeStages$Log" "stage" "[I", .methodLink RX6 212 yX2_placeOf, .instanceMethod yX2_placeOf, .selects RX2 yX2_placeOf yX2_placeOf, .initialized RX2, .code yX2_placeOf cX2_placeOf 2 (some .int), .fieldLink RX2 15 "ChargeStages$Log" "next" "I", .methodLink RX2 28 yJ9_floorMod_7cf53, .static yJ9_floorMod_7cf53, .initialized RJ9, .code yJ9_floorMod_7cf53 cJ9_floorMod_7cf53 3 (some .int)] ++ wsX60 ++ wsX40 ++ wsX20)
def wsX6_count_r1 : List Cond := [Cond.fieldLink RX6 10 "ChargeStages" "now" "LChargeStages$State;", Cond.fieldLink RX6 129 "ChargeStages$State" "tick" "I", Cond.fieldLink RX6 50 "ChargeStages$State" "row" "LChargeStages$Battery;", Cond.fieldLink RX6 54 "ChargeStages$Battery" "cells" "I", Cond.fieldLink RX6 116 "ChargeStages$State" "profile" "LChargeStages$Profile;", Cond.fieldLink RX6 123 "ChargeStages$Profile" "stages" "I", Cond.fieldLink RX6 68 "ChargeStages$State" "mode" "I", Cond.fieldLink RX6 221 "ChargeStages$State" "stage" "I", Cond.fieldLink RX6 223 "ChargeStages$State" "lasted" "I", Cond.fieldLink RX6 226 "ChargeStages$State" "pausedTicks" "I", Cond.fieldLink RX6 232 "ChargeStages$State" "timesDone" "I", Cond.fieldLink RX6 235 "ChargeStages$State" "timesAtFault" "I", Cond.fieldLink RX6 29 "ChargeStages" "history" "LChargeStages$History;", Cond.fieldLink RX6 142 "ChargeStages$History" "states" "I", Cond.fieldLink RX6 36 "ChargeStages" "text" "LChargeStages$Text;", Cond.fieldLink RX6 136 "ChargeStages$Text" "length" "I", Cond.methodLink RX6 85 yX0_leastCharge, Cond.instanceMethod yX0_leastCharge, Cond.selects RX0 yX0_leastCharge yX0_leastCharge, Cond.initialized RX0, Cond.code yX0_leastCharge cX0_leastCharge 3 (some .int), Cond.fieldLink RX0 15 "ChargeStages$Battery" "charge" "[I", Cond.fieldLink RX0 9 "ChargeStages$Battery" "cells" "I", Cond.methodLink RX0 37 Lib.Math.min.name]
def wsX6_count_r2 : List Cond := [Cond.static Lib.Math.min.name, Cond.initialized "java/lang/Math", Cond.code Lib.Math.min.name Lib.Math.min.code 2 (some .int), Cond.methodLink RX6 229 yX0_greatestCharge, Cond.instanceMethod yX0_greatestCharge, Cond.selects RX0 yX0_greatestCharge yX0_greatestCharge, Cond.code yX0_greatestCharge cX0_greatestCharge 3 (some .int), Cond.methodLink RX0 43 Lib.Math.max.name, Cond.static Lib.Math.max.name, Cond.code Lib.Math.max.name Lib.Math.max.code 2 (some .int), Cond.methodLink RX6 189 yX4_isPaused, Cond.instanceMethod yX4_isPaused, Cond.selects RX4 yX4_isPaused yX4_isPaused, Cond.initialized RX4, Cond.code yX4_isPaused cX4_isPaused 1 (some .boolean), Cond.fieldLink RX4 36 "ChargeStages$State" "mode" "I", Cond.fieldLink RX4 9 "ChargeStages$State" "settings" "[I", Cond.static yX6_isIn, Cond.initialized RX6, Cond.code yX6_isIn cX6_isIn 3 (some .boolean)]
def wsX6_count : List Cond := .code yX6_count cX6_count 2 (some .int) :: ((wsX6_count_r1 ++ wsX6_count_r2) ++ wsX60 ++ wsX40 ++ wsX00 ++ wsX30 ++ wsX10 ++ wsX50)
def wsX7_init : List Cond := .code yX7_init cX7_init 1 none :: ([.methodLink RX7 1 objectInit, .instanceMethod objectInit, .code objectInit ⟨#[0xb1]⟩ 1 none, .arrayClass .int, .fieldLink RX7 7 "ChargeStagesModel" "s" "[I", .fieldLink RX7 13 "ChargeStagesModel" "trial" "[I", .fieldLink RX7 16 "ChargeStagesModel" "was" "[I", .fieldLink RX7 19 "ChargeStagesModel" "slot" "[I", .arrayClass .char, .fieldLink RX7 22 "ChargeStagesModel" "text" "[C", .fieldLink RX7 26 "ChargeStagesModel" "read" "[I"] ++ wsX70)
def wsX7_in : List Cond := .code yX7_in cX7_in 3 (some .boolean) :: ([])
def wsX7_copies : List Cond := .code yX7_copies cX7_copies 4 none :: ([])
def wsX7_records : List Cond := .code yX7_records cX7_records 2 none :: ([.fieldLink RX7 29 "ChargeStagesModel" "states" "I", .fieldLink RX7 16 "ChargeStagesModel" "was" "[I", .fieldLink RX7 7 "ChargeStagesModel" "s" "[I", .methodLink RX7 33 yX7_copies, .static yX7_copies, .initialized RX7, .code yX7_copies cX7_copies 4 none] ++ wsX70)
def wsX7_undo : List Cond := .code yX7_undo cX7_undo 2 (some .int) :: ([.fieldLink RX7 29 "ChargeStagesModel" "states" "I", .fieldLink RX7 7 "ChargeStagesModel" "s" "[I", .fieldLink RX7 16 "ChargeStagesModel" "was" "[I"] ++ wsX70)
def wsX7_keep : List Cond := .code yX7_keep cX7_keep 1 (some .int) :: ([.fieldLink RX7 7 "ChargeStagesModel" "s" "[I", .fieldLink RX7 19 "ChargeStagesModel" "slot" "[I", .fieldLink RX7 37 "ChargeStagesModel" "isFilled" "Z", .methodLink RX7 33 yX7_copies, .static yX7_copies, .initialized RX7, .code yX7_copies cX7_copies 4 none] ++ wsX70)
def wsX7_restore : List Cond := .code yX7_restore cX7_restore 1 (some .int) :: ([.fieldLink RX7 37 "ChargeStagesModel" "isFilled" "Z", .fieldLink RX7 19 "ChargeStagesModel" "slot" "[I", .fieldLink RX7 7 "ChargeStagesModel" "s" "[I", .methodLink RX7 41 yX7_records, .instanceMethod yX7_records, .selects RX7 yX7_records yX7_records, .initialized RX7, .code yX7_records cX7_records 2 none, .fieldLink RX7 29 "ChargeStagesModel" "states" "I", .fieldLink RX7 16 "ChargeStagesModel" "was" "[I", .methodLink RX7 33 yX7_copies, .static yX7_copies, .code yX7_copies cX7_copies 4 none] ++ wsX70)
def wsX7_isCell : List Cond := .code yX7_isCell cX7_isCell 2 (some .boolean) :: ([.fieldLink RX7 7 "ChargeStagesModel" "s" "[I", .methodLink RX7 44 yX7_in, .static yX7_in, .initialized RX7, .code yX7_in cX7_in 3 (some .boolean)] ++ wsX70)
def wsX7_of : List Cond := .code yX7_of cX7_of 3 (some .int) :: ([])
def wsX7_base : List Cond := .code yX7_base cX7_base 2 (some .int) :: ([.methodLink RX7 48 yX7_of, .static yX7_of, .initialized RX7, .code yX7_of cX7_of 3 (some .int)])
def wsX7_highest : List Cond := .code yX7_highest cX7_highest 3 (some .int) :: ([.methodLink RX7 52 yX7_base, .static yX7_base, .initialized RX7, .code yX7_base cX7_base 2 (some .int), .methodLink RX7 48 yX7_of, .static yX7_of, .code yX7_of cX7_of 3 (some .int)])
def wsX7_lowest : List Cond := .code yX7_lowest cX7_lowest 3 (some .int) :: ([.methodLink RX7 52 yX7_base, .static yX7_base, .initialized RX7, .code yX7_base cX7_base 2 (some .int), .methodLink RX7 48 yX7_of, .static yX7_of, .code yX7_of cX7_of 3 (some .int)])
def wsX7_more : List Cond := .code yX7_more cX7_more 2 (some .int) :: ([])
def wsX7_charged : List Cond := .code yX7_charged cX7_charged 5 (some .int) :: ([.methodLink RX7 48 yX7_of, .static yX7_of, .initialized RX7, .code yX7_of cX7_of 3 (some .int)])
def wsX7_logs : List Cond := .code yX7_logs cX7_logs 3 none :: ([])
def wsX7_isOut : List Cond := .code yX7_isOut cX7_isOut 1 (some .boolean) :: ([.methodLink RX7 44 yX7_in, .static yX7_in, .initialized RX7, .code yX7_in cX7_in 3 (some .boolean)])
def wsX7_ofStage : List Cond := .code yX7_ofStage cX7_ofStage 3 (some .int) :: ([])
def wsX7_limit : List Cond := .code yX7_limit cX7_limit 3 (some .int) :: ([.methodLink RX7 56 yX7_ofStage, .static yX7_ofStage, .initialized RX7, .code yX7_ofStage cX7_ofStage 3 (some .int)])
def wsX7_held : List Cond := .code yX7_held cX7_held 3 (some .int) :: ([.methodLink RX7 59 yX7_limit, .static yX7_limit, .initialized RX7, .code yX7_limit cX7_limit 3 (some .int), .methodLink RX7 56 yX7_ofStage, .static yX7_ofStage, .code yX7_ofStage cX7_ofStage 3 (some .int), .methodLink RX7 62 yX7_highest, .static yX7_highest, .code yX7_highest cX7_highest 3 (some .int), .methodLink RX7 52 yX7_base, .static yX7_base, .code yX7_base cX7_base 2 (some .int), .methodLink RX7 48 yX7_of, .static yX7_of, .code yX7_of cX7_of 3 (some .int)])
def wsX7_told : List Cond := .code yX7_told cX7_told 2 (some .int) :: ([.methodLink RX7 56 yX7_ofStage, .static yX7_ofStage, .initialized RX7, .code yX7_ofStage cX7_ofStage 3 (some .int), .methodLink RX7 66 yX7_held, .static yX7_held, .code yX7_held cX7_held 3 (some .int), .methodLink RX7 59 yX7_limit, .static yX7_limit, .code yX7_limit cX7_limit 3 (some .int), .methodLink RX7 62 yX7_highest, .static yX7_highest, .code yX7_highest cX7_highest 3 (some .int), .methodLink RX7 52 yX7_base, .static yX7_base, .code yX7_base cX7_base 2 (some .int), .methodLink RX7 48 yX7_of, .static yX7_of, .code yX7_of cX7_of 3 (some .int)])
def wsX7_endsAtOnce : List Cond := .code yX7_endsAtOnce cX7_endsAtOnce 2 (some .boolean) :: ([.methodLink RX7 56 yX7_ofStage, .static yX7_ofStage, .initialized RX7, .code yX7_ofStage cX7_ofStage 3 (some .int)])
def wsX7_takesIn : List Cond := .code yX7_takesIn cX7_takesIn 7 none :: ([])
def wsX7_endsBehind : List Cond := .code yX7_endsBehind cX7_endsBehind 3 (some .boolean) :: ([.methodLink RX7 56 yX7_ofStage, .static yX7_ofStage, .initialized RX7, .code yX7_ofStage cX7_ofStage 3 (some .int), .methodLink RX7 62 yX7_highest, .static yX7_highest, .code yX7_highest cX7_highest 3 (some .int), .methodLink RX7 52 yX7_base, .static yX7_base, .code yX7_base cX7_base 2 (some .int), .methodLink RX7 48 yX7_of, .static yX7_of, .code yX7_of cX7_of 3 (some .int), .methodLink RX7 69 yX7_more, .static yX7_more, .code yX7_more cX7_more 2 (some .int), .methodLink RX7 59 yX7_limit, .static yX7_limit, .code yX7_limit cX7_limit 3 (some .int)])
def wsX7_goesOn : List Cond := .code yX7_goesOn cX7_goesOn 1 none :: ([.methodLink RX7 72 yX7_logs, .static yX7_logs, .initialized RX7, .code yX7_logs cX7_logs 3 none])
def wsX7_charges_r1 : List Cond := [Cond.methodLink RX7 76 yX7_told, Cond.static yX7_told, Cond.initialized RX7, Cond.code yX7_told cX7_told 2 (some .int), Cond.methodLink RX7 56 yX7_ofStage, Cond.static yX7_ofStage, Cond.code yX7_ofStage cX7_ofStage 3 (some .int), Cond.methodLink RX7 66 yX7_held, Cond.static yX7_held, Cond.code yX7_held cX7_held 3 (some .int), Cond.methodLink RX7 59 yX7_limit, Cond.static yX7_limit, Cond.code yX7_limit cX7_limit 3 (some .int), Cond.methodLink RX7 62 yX7_highest, Cond.static yX7_highest, Cond.code yX7_highest cX7_highest 3 (some .int), Cond.methodLink RX7 52 yX7_base, Cond.static yX7_base, Cond.code yX7_base cX7_base 2 (some .int), Cond.methodLink RX7 48 yX7_of, Cond.static yX7_of, Cond.code yX7_of cX7_of 3 (some .int), Cond.methodLink RX7 79 yX7_endsAtOnce, Cond.static yX7_endsAtOnce]
def wsX7_charges_r2 : List Cond := [Cond.code yX7_endsAtOnce cX7_endsAtOnce 2 (some .boolean), Cond.methodLink RX7 83 yX7_takesIn, Cond.static yX7_takesIn, Cond.code yX7_takesIn cX7_takesIn 7 none, Cond.methodLink RX7 87 yX7_endsBehind, Cond.static yX7_endsBehind, Cond.code yX7_endsBehind cX7_endsBehind 3 (some .boolean), Cond.methodLink RX7 69 yX7_more, Cond.static yX7_more, Cond.code yX7_more cX7_more 2 (some .int), Cond.methodLink RX7 90 yX7_goesOn, Cond.static yX7_goesOn, Cond.code yX7_goesOn cX7_goesOn 1 none, Cond.methodLink RX7 72 yX7_logs, Cond.static yX7_logs, Cond.code yX7_logs cX7_logs 3 none]
def wsX7_charges : List Cond := .code yX7_charges cX7_charges 4 none :: ((wsX7_charges_r1 ++ wsX7_charges_r2))
def wsX7_bleeds : List Cond := .code yX7_bleeds cX7_bleeds 6 none :: ([.methodLink RX7 94 yX7_lowest, .static yX7_lowest, .initialized RX7, .code yX7_lowest cX7_lowest 3 (some .int), .methodLink RX7 52 yX7_base, .static yX7_base, .code yX7_base cX7_base 2 (some .int), .methodLink RX7 48 yX7_of, .static yX7_of, .code yX7_of cX7_of 3 (some .int)])
def wsX7_tick_r1 : List Cond := [Cond.methodLink RX7 97 yX7_isOut, Cond.static yX7_isOut, Cond.initialized RX7, Cond.code yX7_isOut cX7_isOut 1 (some .boolean), Cond.methodLink RX7 44 yX7_in, Cond.static yX7_in, Cond.code yX7_in cX7_in 3 (some .boolean), Cond.methodLink RX7 72 yX7_logs, Cond.static yX7_logs, Cond.code yX7_logs cX7_logs 3 none, Cond.methodLink RX7 101 yX7_charges, Cond.static yX7_charges, Cond.code yX7_charges cX7_charges 4 none, Cond.methodLink RX7 76 yX7_told, Cond.static yX7_told, Cond.code yX7_told cX7_told 2 (some .int), Cond.methodLink RX7 56 yX7_ofStage, Cond.static yX7_ofStage, Cond.code yX7_ofStage cX7_ofStage 3 (some .int), Cond.methodLink RX7 66 yX7_held, Cond.static yX7_held, Cond.code yX7_held cX7_held 3 (some .int), Cond.methodLink RX7 59 yX7_limit, Cond.static yX7_limit]
def wsX7_tick_r2 : List Cond := [Cond.code yX7_limit cX7_limit 3 (some .int), Cond.methodLink RX7 62 yX7_highest, Cond.static yX7_highest, Cond.code yX7_highest cX7_highest 3 (some .int), Cond.methodLink RX7 52 yX7_base, Cond.static yX7_base, Cond.code yX7_base cX7_base 2 (some .int), Cond.methodLink RX7 48 yX7_of, Cond.static yX7_of, Cond.code yX7_of cX7_of 3 (some .int), Cond.methodLink RX7 79 yX7_endsAtOnce, Cond.static yX7_endsAtOnce, Cond.code yX7_endsAtOnce cX7_endsAtOnce 2 (some .boolean), Cond.methodLink RX7 83 yX7_takesIn, Cond.static yX7_takesIn, Cond.code yX7_takesIn cX7_takesIn 7 none, Cond.methodLink RX7 87 yX7_endsBehind, Cond.static yX7_endsBehind, Cond.code yX7_endsBehind cX7_endsBehind 3 (some .boolean), Cond.methodLink RX7 69 yX7_more, Cond.static yX7_more, Cond.code yX7_more cX7_more 2 (some .int), Cond.methodLink RX7 90 yX7_goesOn, Cond.static yX7_goesOn]
def wsX7_tick_r3 : List Cond := [Cond.code yX7_goesOn cX7_goesOn 1 none, Cond.methodLink RX7 104 yX7_bleeds, Cond.static yX7_bleeds, Cond.code yX7_bleeds cX7_bleeds 6 none, Cond.methodLink RX7 94 yX7_lowest, Cond.static yX7_lowest, Cond.code yX7_lowest cX7_lowest 3 (some .int)]
def wsX7_tick : List Cond := .code yX7_tick cX7_tick 2 none :: ((wsX7_tick_r1 ++ (wsX7_tick_r2 ++ wsX7_tick_r3)))
def wsX7_battery : List Cond := .code yX7_battery cX7_battery 4 (some .int) :: ([.fieldLink RX7 7 "ChargeStagesModel" "s" "[I", .methodLink RX7 44 yX7_in, .static yX7_in, .initialized RX7, .code yX7_in cX7_in 3 (some .boolean), .methodLink RX7 41 yX7_records, .instanceMethod yX7_records, .selects RX7 yX7_records yX7_records, .code yX7_records cX7_records 2 none, .fieldLink RX7 29 "ChargeStagesModel" "states" "I", .fieldLink RX7 16 "ChargeStagesModel" "was" "[I", .methodLink RX7 33 yX7_copies, .static yX7_copies, .code yX7_copies cX7_copies 4 none] ++ wsX70)
def wsX7_setCharge : List Cond := .code yX7_setCharge cX7_setCharge 4 (some .int) :: ([.fieldLink RX7 7 "ChargeStagesModel" "s" "[I", .methodLink RX7 107 yX7_isCell, .instanceMethod yX7_isCell, .selects RX7 yX7_isCell yX7_isCell, .initialized RX7, .code yX7_isCell cX7_isCell 2 (some .boolean), .methodLink RX7 44 yX7_in, .static yX7_in, .code yX7_in cX7_in 3 (some .boolean), .methodLink RX7 48 yX7_of, .static yX7_of, .code yX7_of cX7_of 3 (some .int), .methodLink RX7 41 yX7_records, .instanceMethod yX7_records, .selects RX7 yX7_records yX7_records, .code yX7_records cX7_records 2 none, .fieldLink RX7 29 "ChargeStagesModel" "states" "I", .fieldLink RX7 16 "ChargeStagesModel" "was" "[I", .methodLink RX7 33 yX7_copies, .static yX7_copies, .code yX7_copies cX7_copies 4 none] ++ wsX70)
def wsX7_use : List Cond := .code yX7_use cX7_use 3 (some .int) :: ([.fieldLink RX7 7 "ChargeStagesModel" "s" "[I", .methodLink RX7 44 yX7_in, .static yX7_in, .initialized RX7, .code yX7_in cX7_in 3 (some .boolean), .methodLink RX7 111 yX7_charged, .static yX7_charged, .code yX7_charged cX7_charged 5 (some .int), .methodLink RX7 48 yX7_of, .static yX7_of, .code yX7_of cX7_of 3 (some .int), .methodLink RX7 41 yX7_records, .instanceMethod yX7_records, .selects RX7 yX7_records yX7_records, .code yX7_records cX7_records 2 none, .fieldLink RX7 29 "ChargeStagesModel" "states" "I", .fieldLink RX7 16 "ChargeStagesModel" "was" "[I", .methodLink RX7 33 yX7_copies, .static yX7_copies, .code yX7_copies cX7_copies 4 none] ++ wsX70)
def wsX7_isInRange : List Cond := .code yX7_isInRange cX7_isInRange 2 (some .boolean) :: ([.methodLink RX7 44 yX7_in, .static yX7_in, .initialized RX7, .code yX7_in cX7_in 3 (some .boolean)])
def wsX7_cannotBe : List Cond := .code yX7_cannotBe cX7_cannotBe 3 (some .boolean) :: ([.fieldLink RX7 7 "ChargeStagesModel" "s" "[I", .methodLink RX7 111 yX7_charged, .static yX7_charged, .initialized RX7, .code yX7_charged cX7_charged 5 (some .int), .methodLink RX7 48 yX7_of, .static yX7_of, .code yX7_of cX7_of 3 (some .int)] ++ wsX70)
def wsX7_set_r1 : List Cond := [Cond.fieldLink RX7 7 "ChargeStagesModel" "s" "[I", Cond.methodLink RX7 44 yX7_in, Cond.static yX7_in, Cond.initialized RX7, Cond.code yX7_in cX7_in 3 (some .boolean), Cond.methodLink RX7 115 yX7_isInRange, Cond.static yX7_isInRange, Cond.code yX7_isInRange cX7_isInRange 2 (some .boolean), Cond.methodLink RX7 119 yX7_cannotBe, Cond.instanceMethod yX7_cannotBe, Cond.selects RX7 yX7_cannotBe yX7_cannotBe, Cond.code yX7_cannotBe cX7_cannotBe 3 (some .boolean), Cond.methodLink RX7 111 yX7_charged, Cond.static yX7_charged, Cond.code yX7_charged cX7_charged 5 (some .int), Cond.methodLink RX7 48 yX7_of, Cond.static yX7_of, Cond.code yX7_of cX7_of 3 (some .int), Cond.methodLink RX7 41 yX7_records, Cond.instanceMethod yX7_records, Cond.selects RX7 yX7_records yX7_records, Cond.code yX7_records cX7_records 2 none, Cond.fieldLink RX7 29 "ChargeStagesModel" "states" "I", Cond.fieldLink RX7 16 "ChargeStagesModel" "was" "[I"]
def wsX7_set_r2 : List Cond := [Cond.methodLink RX7 33 yX7_copies, Cond.static yX7_copies, Cond.code yX7_copies cX7_copies 4 none]
def wsX7_set : List Cond := .code yX7_set cX7_set 4 (some .int) :: ((wsX7_set_r1 ++ wsX7_set_r2) ++ wsX70)
def wsX7_start : List Cond := .code yX7_start cX7_start 2 (some .int) :: ([.fieldLink RX7 7 "ChargeStagesModel" "s" "[I", .methodLink RX7 41 yX7_records, .instanceMethod yX7_records, .selects RX7 yX7_records yX7_records, .initialized RX7, .code yX7_records cX7_records 2 none, .fieldLink RX7 29 "ChargeStagesModel" "states" "I", .fieldLink RX7 16 "ChargeStagesModel" "was" "[I", .methodLink RX7 33 yX7_copies, .static yX7_copies, .code yX7_copies cX7_copies 4 none, .methodLink RX7 72 yX7_logs, .static yX7_logs, .code yX7_logs cX7_logs 3 none] ++ wsX70)
def wsX7_stop : List Cond := .code yX7_stop cX7_stop 2 (some .int) :: ([.fieldLink RX7 7 "ChargeStagesModel" "s" "[I", .methodLink RX7 41 yX7_records, .instanceMethod yX7_records, .selects RX7 yX7_records yX7_records, .initialized RX7, .code yX7_records cX7_records 2 none, .fieldLink RX7 29 "ChargeStagesModel" "states" "I", .fieldLink RX7 16 "ChargeStagesModel" "was" "[I", .methodLink RX7 33 yX7_copies, .static yX7_copies, .code yX7_copies cX7_copies 4 none] ++ wsX70)
def wsX7_pass_r1 : List Cond := [Cond.fieldLink RX7 7 "ChargeStagesModel" "s" "[I", Cond.constant RX7 122 (99999), Cond.methodLink RX7 44 yX7_in, Cond.static yX7_in, Cond.initialized RX7, Cond.code yX7_in cX7_in 3 (some .boolean), Cond.methodLink RX7 41 yX7_records, Cond.instanceMethod yX7_records, Cond.selects RX7 yX7_records yX7_records, Cond.code yX7_records cX7_records 2 none, Cond.fieldLink RX7 29 "ChargeStagesModel" "states" "I", Cond.fieldLink RX7 16 "ChargeStagesModel" "was" "[I", Cond.methodLink RX7 33 yX7_copies, Cond.static yX7_copies, Cond.code yX7_copies cX7_copies 4 none, Cond.methodLink RX7 123 yX7_tick, Cond.static yX7_tick, Cond.code yX7_tick cX7_tick 2 none, Cond.methodLink RX7 97 yX7_isOut, Cond.static yX7_isOut, Cond.code yX7_isOut cX7_isOut 1 (some .boolean), Cond.methodLink RX7 72 yX7_logs, Cond.static yX7_logs, Cond.code yX7_logs cX7_logs 3 none]
def wsX7_pass_r2 : List Cond := [Cond.methodLink RX7 101 yX7_charges, Cond.static yX7_charges, Cond.code yX7_charges cX7_charges 4 none, Cond.methodLink RX7 76 yX7_told, Cond.static yX7_told, Cond.code yX7_told cX7_told 2 (some .int), Cond.methodLink RX7 56 yX7_ofStage, Cond.static yX7_ofStage, Cond.code yX7_ofStage cX7_ofStage 3 (some .int), Cond.methodLink RX7 66 yX7_held, Cond.static yX7_held, Cond.code yX7_held cX7_held 3 (some .int), Cond.methodLink RX7 59 yX7_limit, Cond.static yX7_limit, Cond.code yX7_limit cX7_limit 3 (some .int), Cond.methodLink RX7 62 yX7_highest, Cond.static yX7_highest, Cond.code yX7_highest cX7_highest 3 (some .int), Cond.methodLink RX7 52 yX7_base, Cond.static yX7_base, Cond.code yX7_base cX7_base 2 (some .int), Cond.methodLink RX7 48 yX7_of, Cond.static yX7_of, Cond.code yX7_of cX7_of 3 (some .int)]
def wsX7_pass_r3 : List Cond := [Cond.methodLink RX7 79 yX7_endsAtOnce, Cond.static yX7_endsAtOnce, Cond.code yX7_endsAtOnce cX7_endsAtOnce 2 (some .boolean), Cond.methodLink RX7 83 yX7_takesIn, Cond.static yX7_takesIn, Cond.code yX7_takesIn cX7_takesIn 7 none, Cond.methodLink RX7 87 yX7_endsBehind, Cond.static yX7_endsBehind, Cond.code yX7_endsBehind cX7_endsBehind 3 (some .boolean), Cond.methodLink RX7 69 yX7_more, Cond.static yX7_more, Cond.code yX7_more cX7_more 2 (some .int), Cond.methodLink RX7 90 yX7_goesOn, Cond.static yX7_goesOn, Cond.code yX7_goesOn cX7_goesOn 1 none, Cond.methodLink RX7 104 yX7_bleeds, Cond.static yX7_bleeds, Cond.code yX7_bleeds cX7_bleeds 6 none, Cond.methodLink RX7 94 yX7_lowest, Cond.static yX7_lowest, Cond.code yX7_lowest cX7_lowest 3 (some .int)]
def wsX7_pass : List Cond := .code yX7_pass cX7_pass 3 (some .int) :: ((wsX7_pass_r1 ++ (wsX7_pass_r2 ++ wsX7_pass_r3)) ++ wsX70)
def wsX7_type : List Cond := .code yX7_type cX7_type 2 (some .int) :: ([.fieldLink RX7 126 "ChargeStagesModel" "length" "I", .fieldLink RX7 22 "ChargeStagesModel" "text" "[C"] ++ wsX70)
def wsX7_clearText : List Cond := .code yX7_clearText cX7_clearText 2 (some .int) :: ([.fieldLink RX7 126 "ChargeStagesModel" "length" "I"] ++ wsX70)
def wsX7_sees : List Cond := .code yX7_sees cX7_sees 3 (some .boolean) :: ([.fieldLink RX7 129 "ChargeStagesModel" "at" "I", .fieldLink RX7 126 "ChargeStagesModel" "length" "I", .fieldLink RX7 22 "ChargeStagesModel" "text" "[C", .methodLink RX7 44 yX7_in, .static yX7_in, .initialized RX7, .code yX7_in cX7_in 3 (some .boolean)] ++ wsX70)
def wsX7_takes : List Cond := .code yX7_takes cX7_takes 3 (some .boolean) :: ([.fieldLink RX7 129 "ChargeStagesModel" "at" "I", .methodLink RX7 132 yX7_sees, .instanceMethod yX7_sees, .selects RX7 yX7_sees yX7_sees, .initialized RX7, .code yX7_sees cX7_sees 3 (some .boolean), .fieldLink RX7 126 "ChargeStagesModel" "length" "I", .fieldLink RX7 22 "ChargeStagesModel" "text" "[C", .methodLink RX7 44 yX7_in, .static yX7_in, .code yX7_in cX7_in 3 (some .boolean)] ++ wsX70)
def wsX7_takesNumber : List Cond := .code yX7_takesNumber cX7_takesNumber 3 (some .boolean) :: ([.fieldLink RX7 22 "ChargeStagesModel" "text" "[C", .fieldLink RX7 129 "ChargeStagesModel" "at" "I", .fieldLink RX7 135 "ChargeStagesModel" "number" "I", .methodLink RX7 132 yX7_sees, .instanceMethod yX7_sees, .selects RX7 yX7_sees yX7_sees, .initialized RX7, .code yX7_sees cX7_sees 3 (some .boolean), .fieldLink RX7 126 "ChargeStagesModel" "length" "I", .methodLink RX7 44 yX7_in, .static yX7_in, .code yX7_in cX7_in 3 (some .boolean)] ++ wsX70)
def wsX7_takesStage : List Cond := .code yX7_takesStage cX7_takesStage 3 (some .boolean) :: ([.fieldLink RX7 138 "ChargeStagesModel" "reads" "I", .fieldLink RX7 26 "ChargeStagesModel" "read" "[I", .fieldLink RX7 135 "ChargeStagesModel" "number" "I", .methodLink RX7 141 yX7_takes, .instanceMethod yX7_takes, .selects RX7 yX7_takes yX7_takes, .initialized RX7, .code yX7_takes cX7_takes 3 (some .boolean), .fieldLink RX7 129 "ChargeStagesModel" "at" "I", .methodLink RX7 132 yX7_sees, .instanceMethod yX7_sees, .selects RX7 yX7_sees yX7_sees, .code yX7_sees cX7_sees 3 (some .boolean), .fieldLink RX7 126 "ChargeStagesModel" "length" "I", .fieldLink RX7 22 "ChargeStagesModel" "text" "[C", .methodLink RX7 44 yX7_in, .static yX7_in, .code yX7_in cX7_in 3 (some .boolean), .methodLink RX7 144 yX7_takesNumber, .instanceMethod yX7_takesNumber, .selects RX7 yX7_takesNumber yX7_takesNumber, .code yX7_takesNumber cX7_takesNumber 3 (some .boolean)] ++ wsX70)
def wsX7_readsText_r1 : List Cond := [Cond.fieldLink RX7 129 "ChargeStagesModel" "at" "I", Cond.fieldLink RX7 138 "ChargeStagesModel" "reads" "I", Cond.fieldLink RX7 126 "ChargeStagesModel" "length" "I", Cond.methodLink RX7 147 yX7_takesStage, Cond.instanceMethod yX7_takesStage, Cond.selects RX7 yX7_takesStage yX7_takesStage, Cond.initialized RX7, Cond.code yX7_takesStage cX7_takesStage 3 (some .boolean), Cond.fieldLink RX7 26 "ChargeStagesModel" "read" "[I", Cond.fieldLink RX7 135 "ChargeStagesModel" "number" "I", Cond.methodLink RX7 141 yX7_takes, Cond.instanceMethod yX7_takes, Cond.selects RX7 yX7_takes yX7_takes, Cond.code yX7_takes cX7_takes 3 (some .boolean), Cond.methodLink RX7 132 yX7_sees, Cond.instanceMethod yX7_sees, Cond.selects RX7 yX7_sees yX7_sees, Cond.code yX7_sees cX7_sees 3 (some .boolean), Cond.fieldLink RX7 22 "ChargeStagesModel" "text" "[C", Cond.methodLink RX7 44 yX7_in, Cond.static yX7_in, Cond.code yX7_in cX7_in 3 (some .boolean), Cond.methodLink RX7 144 yX7_takesNumber, Cond.instanceMethod yX7_takesNumber]
def wsX7_readsText_r2 : List Cond := [Cond.selects RX7 yX7_takesNumber yX7_takesNumber, Cond.code yX7_takesNumber cX7_takesNumber 3 (some .boolean)]
def wsX7_readsText : List Cond := .code yX7_readsText cX7_readsText 2 (some .boolean) :: ((wsX7_readsText_r1 ++ wsX7_readsText_r2) ++ wsX70)
def wsX7_isGood : List Cond := .code yX7_isGood cX7_isGood 6 (some .boolean) :: ([.fieldLink RX7 26 "ChargeStagesModel" "read" "[I", .methodLink RX7 44 yX7_in, .static yX7_in, .initialized RX7, .code yX7_in cX7_in 3 (some .boolean)] ++ wsX70)
def wsX7_readProfile_r1 : List Cond := [Cond.fieldLink RX7 129 "ChargeStagesModel" "at" "I", Cond.fieldLink RX7 138 "ChargeStagesModel" "reads" "I", Cond.fieldLink RX7 7 "ChargeStagesModel" "s" "[I", Cond.fieldLink RX7 26 "ChargeStagesModel" "read" "[I", Cond.methodLink RX7 151 yX7_readsText, Cond.instanceMethod yX7_readsText, Cond.selects RX7 yX7_readsText yX7_readsText, Cond.initialized RX7, Cond.code yX7_readsText cX7_readsText 2 (some .boolean), Cond.fieldLink RX7 126 "ChargeStagesModel" "length" "I", Cond.methodLink RX7 147 yX7_takesStage, Cond.instanceMethod yX7_takesStage, Cond.selects RX7 yX7_takesStage yX7_takesStage, Cond.code yX7_takesStage cX7_takesStage 3 (some .boolean), Cond.fieldLink RX7 135 "ChargeStagesModel" "number" "I", Cond.methodLink RX7 141 yX7_takes, Cond.instanceMethod yX7_takes, Cond.selects RX7 yX7_takes yX7_takes, Cond.code yX7_takes cX7_takes 3 (some .boolean), Cond.methodLink RX7 132 yX7_sees, Cond.instanceMethod yX7_sees, Cond.selects RX7 yX7_sees yX7_sees, Cond.code yX7_sees cX7_sees 3 (some .boolean), Cond.fieldLink RX7 22 "ChargeStagesModel" "text" "[C"]
def wsX7_readProfile_r2 : List Cond := [Cond.methodLink RX7 44 yX7_in, Cond.static yX7_in, Cond.code yX7_in cX7_in 3 (some .boolean), Cond.methodLink RX7 144 yX7_takesNumber, Cond.instanceMethod yX7_takesNumber, Cond.selects RX7 yX7_takesNumber yX7_takesNumber, Cond.code yX7_takesNumber cX7_takesNumber 3 (some .boolean), Cond.methodLink RX7 154 yX7_isGood, Cond.instanceMethod yX7_isGood, Cond.selects RX7 yX7_isGood yX7_isGood, Cond.code yX7_isGood cX7_isGood 6 (some .boolean), Cond.methodLink RX7 41 yX7_records, Cond.instanceMethod yX7_records, Cond.selects RX7 yX7_records yX7_records, Cond.code yX7_records cX7_records 2 none, Cond.fieldLink RX7 29 "ChargeStagesModel" "states" "I", Cond.fieldLink RX7 16 "ChargeStagesModel" "was" "[I", Cond.methodLink RX7 33 yX7_copies, Cond.static yX7_copies, Cond.code yX7_copies cX7_copies 4 none]
def wsX7_readProfile : List Cond := .code yX7_readProfile cX7_readProfile 2 (some .int) :: ((wsX7_readProfile_r1 ++ wsX7_readProfile_r2) ++ wsX70)
def wsX7_cell : List Cond := .code yX7_cell cX7_cell 3 (some .int) :: ([.fieldLink RX7 7 "ChargeStagesModel" "s" "[I", .methodLink RX7 107 yX7_isCell, .instanceMethod yX7_isCell, .selects RX7 yX7_isCell yX7_isCell, .initialized RX7, .code yX7_isCell cX7_isCell 2 (some .boolean), .methodLink RX7 44 yX7_in, .static yX7_in, .code yX7_in cX7_in 3 (some .boolean), .methodLink RX7 48 yX7_of, .static yX7_of, .code yX7_of cX7_of 3 (some .int), .methodLink RX7 52 yX7_base, .static yX7_base, .code yX7_base cX7_base 2 (some .int)] ++ wsX70)
def wsX7_setting : List Cond := .code yX7_setting cX7_setting 2 (some .int) :: ([.fieldLink RX7 7 "ChargeStagesModel" "s" "[I", .methodLink RX7 44 yX7_in, .static yX7_in, .initialized RX7, .code yX7_in cX7_in 3 (some .boolean)] ++ wsX70)
def wsX7_stage : List Cond := .code yX7_stage cX7_stage 3 (some .int) :: ([.fieldLink RX7 7 "ChargeStagesModel" "s" "[I", .methodLink RX7 44 yX7_in, .static yX7_in, .initialized RX7, .code yX7_in cX7_in 3 (some .boolean), .methodLink RX7 56 yX7_ofStage, .static yX7_ofStage, .code yX7_ofStage cX7_ofStage 3 (some .int), .methodLink RX7 59 yX7_limit, .static yX7_limit, .code yX7_limit cX7_limit 3 (some .int)] ++ wsX70)
def wsX7_voltage : List Cond := .code yX7_voltage cX7_voltage 2 (some .int) :: ([.fieldLink RX7 7 "ChargeStagesModel" "s" "[I", .methodLink RX7 44 yX7_in, .static yX7_in, .initialized RX7, .code yX7_in cX7_in 3 (some .boolean), .methodLink RX7 62 yX7_highest, .static yX7_highest, .code yX7_highest cX7_highest 3 (some .int), .methodLink RX7 52 yX7_base, .static yX7_base, .code yX7_base cX7_base 2 (some .int), .methodLink RX7 48 yX7_of, .static yX7_of, .code yX7_of cX7_of 3 (some .int), .methodLink RX7 69 yX7_more, .static yX7_more, .code yX7_more cX7_more 2 (some .int)] ++ wsX70)
def wsX7_current_r1 : List Cond := [Cond.fieldLink RX7 7 "ChargeStagesModel" "s" "[I", Cond.methodLink RX7 97 yX7_isOut, Cond.static yX7_isOut, Cond.initialized RX7, Cond.code yX7_isOut cX7_isOut 1 (some .boolean), Cond.methodLink RX7 44 yX7_in, Cond.static yX7_in, Cond.code yX7_in cX7_in 3 (some .boolean), Cond.methodLink RX7 76 yX7_told, Cond.static yX7_told, Cond.code yX7_told cX7_told 2 (some .int), Cond.methodLink RX7 56 yX7_ofStage, Cond.static yX7_ofStage, Cond.code yX7_ofStage cX7_ofStage 3 (some .int), Cond.methodLink RX7 66 yX7_held, Cond.static yX7_held, Cond.code yX7_held cX7_held 3 (some .int), Cond.methodLink RX7 59 yX7_limit, Cond.static yX7_limit, Cond.code yX7_limit cX7_limit 3 (some .int), Cond.methodLink RX7 62 yX7_highest, Cond.static yX7_highest, Cond.code yX7_highest cX7_highest 3 (some .int), Cond.methodLink RX7 52 yX7_base]
def wsX7_current_r2 : List Cond := [Cond.static yX7_base, Cond.code yX7_base cX7_base 2 (some .int), Cond.methodLink RX7 48 yX7_of, Cond.static yX7_of, Cond.code yX7_of cX7_of 3 (some .int), Cond.methodLink RX7 79 yX7_endsAtOnce, Cond.static yX7_endsAtOnce, Cond.code yX7_endsAtOnce cX7_endsAtOnce 2 (some .boolean)]
def wsX7_current : List Cond := .code yX7_current cX7_current 2 (some .int) :: ((wsX7_current_r1 ++ wsX7_current_r2) ++ wsX70)
def wsX7_doneBy_r1 : List Cond := [Cond.fieldLink RX7 13 "ChargeStagesModel" "trial" "[I", Cond.methodLink RX7 123 yX7_tick, Cond.static yX7_tick, Cond.initialized RX7, Cond.code yX7_tick cX7_tick 2 none, Cond.methodLink RX7 97 yX7_isOut, Cond.static yX7_isOut, Cond.code yX7_isOut cX7_isOut 1 (some .boolean), Cond.methodLink RX7 44 yX7_in, Cond.static yX7_in, Cond.code yX7_in cX7_in 3 (some .boolean), Cond.methodLink RX7 72 yX7_logs, Cond.static yX7_logs, Cond.code yX7_logs cX7_logs 3 none, Cond.methodLink RX7 101 yX7_charges, Cond.static yX7_charges, Cond.code yX7_charges cX7_charges 4 none, Cond.methodLink RX7 76 yX7_told, Cond.static yX7_told, Cond.code yX7_told cX7_told 2 (some .int), Cond.methodLink RX7 56 yX7_ofStage, Cond.static yX7_ofStage, Cond.code yX7_ofStage cX7_ofStage 3 (some .int), Cond.methodLink RX7 66 yX7_held]
def wsX7_doneBy_r2 : List Cond := [Cond.static yX7_held, Cond.code yX7_held cX7_held 3 (some .int), Cond.methodLink RX7 59 yX7_limit, Cond.static yX7_limit, Cond.code yX7_limit cX7_limit 3 (some .int), Cond.methodLink RX7 62 yX7_highest, Cond.static yX7_highest, Cond.code yX7_highest cX7_highest 3 (some .int), Cond.methodLink RX7 52 yX7_base, Cond.static yX7_base, Cond.code yX7_base cX7_base 2 (some .int), Cond.methodLink RX7 48 yX7_of, Cond.static yX7_of, Cond.code yX7_of cX7_of 3 (some .int), Cond.methodLink RX7 79 yX7_endsAtOnce, Cond.static yX7_endsAtOnce, Cond.code yX7_endsAtOnce cX7_endsAtOnce 2 (some .boolean), Cond.methodLink RX7 83 yX7_takesIn, Cond.static yX7_takesIn, Cond.code yX7_takesIn cX7_takesIn 7 none, Cond.methodLink RX7 87 yX7_endsBehind, Cond.static yX7_endsBehind, Cond.code yX7_endsBehind cX7_endsBehind 3 (some .boolean), Cond.methodLink RX7 69 yX7_more]
def wsX7_doneBy_r3 : List Cond := [Cond.static yX7_more, Cond.code yX7_more cX7_more 2 (some .int), Cond.methodLink RX7 90 yX7_goesOn, Cond.static yX7_goesOn, Cond.code yX7_goesOn cX7_goesOn 1 none, Cond.methodLink RX7 104 yX7_bleeds, Cond.static yX7_bleeds, Cond.code yX7_bleeds cX7_bleeds 6 none, Cond.methodLink RX7 94 yX7_lowest, Cond.static yX7_lowest, Cond.code yX7_lowest cX7_lowest 3 (some .int)]
def wsX7_doneBy : List Cond := .code yX7_doneBy cX7_doneBy 3 (some .int) :: ((wsX7_doneBy_r1 ++ (wsX7_doneBy_r2 ++ wsX7_doneBy_r3)) ++ wsX70)
def wsX7_doneIn_r1 : List Cond := [Cond.fieldLink RX7 7 "ChargeStagesModel" "s" "[I", Cond.fieldLink RX7 13 "ChargeStagesModel" "trial" "[I", Cond.methodLink RX7 33 yX7_copies, Cond.static yX7_copies, Cond.initialized RX7, Cond.code yX7_copies cX7_copies 4 none, Cond.methodLink RX7 157 yX7_doneBy, Cond.instanceMethod yX7_doneBy, Cond.selects RX7 yX7_doneBy yX7_doneBy, Cond.code yX7_doneBy cX7_doneBy 3 (some .int), Cond.methodLink RX7 123 yX7_tick, Cond.static yX7_tick, Cond.code yX7_tick cX7_tick 2 none, Cond.methodLink RX7 97 yX7_isOut, Cond.static yX7_isOut, Cond.code yX7_isOut cX7_isOut 1 (some .boolean), Cond.methodLink RX7 44 yX7_in, Cond.static yX7_in, Cond.code yX7_in cX7_in 3 (some .boolean), Cond.methodLink RX7 72 yX7_logs, Cond.static yX7_logs, Cond.code yX7_logs cX7_logs 3 none, Cond.methodLink RX7 101 yX7_charges, Cond.static yX7_charges]
def wsX7_doneIn_r2 : List Cond := [Cond.code yX7_charges cX7_charges 4 none, Cond.methodLink RX7 76 yX7_told, Cond.static yX7_told, Cond.code yX7_told cX7_told 2 (some .int), Cond.methodLink RX7 56 yX7_ofStage, Cond.static yX7_ofStage, Cond.code yX7_ofStage cX7_ofStage 3 (some .int), Cond.methodLink RX7 66 yX7_held, Cond.static yX7_held, Cond.code yX7_held cX7_held 3 (some .int), Cond.methodLink RX7 59 yX7_limit, Cond.static yX7_limit, Cond.code yX7_limit cX7_limit 3 (some .int), Cond.methodLink RX7 62 yX7_highest, Cond.static yX7_highest, Cond.code yX7_highest cX7_highest 3 (some .int), Cond.methodLink RX7 52 yX7_base, Cond.static yX7_base, Cond.code yX7_base cX7_base 2 (some .int), Cond.methodLink RX7 48 yX7_of, Cond.static yX7_of, Cond.code yX7_of cX7_of 3 (some .int), Cond.methodLink RX7 79 yX7_endsAtOnce, Cond.static yX7_endsAtOnce]
def wsX7_doneIn_r3 : List Cond := [Cond.code yX7_endsAtOnce cX7_endsAtOnce 2 (some .boolean), Cond.methodLink RX7 83 yX7_takesIn, Cond.static yX7_takesIn, Cond.code yX7_takesIn cX7_takesIn 7 none, Cond.methodLink RX7 87 yX7_endsBehind, Cond.static yX7_endsBehind, Cond.code yX7_endsBehind cX7_endsBehind 3 (some .boolean), Cond.methodLink RX7 69 yX7_more, Cond.static yX7_more, Cond.code yX7_more cX7_more 2 (some .int), Cond.methodLink RX7 90 yX7_goesOn, Cond.static yX7_goesOn, Cond.code yX7_goesOn cX7_goesOn 1 none, Cond.methodLink RX7 104 yX7_bleeds, Cond.static yX7_bleeds, Cond.code yX7_bleeds cX7_bleeds 6 none, Cond.methodLink RX7 94 yX7_lowest, Cond.static yX7_lowest, Cond.code yX7_lowest cX7_lowest 3 (some .int)]
def wsX7_doneIn : List Cond := .code yX7_doneIn cX7_doneIn 1 (some .int) :: ((wsX7_doneIn_r1 ++ (wsX7_doneIn_r2 ++ wsX7_doneIn_r3)) ++ wsX70)
def wsX7_chargeIn_r1 : List Cond := [Cond.fieldLink RX7 7 "ChargeStagesModel" "s" "[I", Cond.fieldLink RX7 13 "ChargeStagesModel" "trial" "[I", Cond.methodLink RX7 107 yX7_isCell, Cond.instanceMethod yX7_isCell, Cond.selects RX7 yX7_isCell yX7_isCell, Cond.initialized RX7, Cond.code yX7_isCell cX7_isCell 2 (some .boolean), Cond.methodLink RX7 44 yX7_in, Cond.static yX7_in, Cond.code yX7_in cX7_in 3 (some .boolean), Cond.methodLink RX7 33 yX7_copies, Cond.static yX7_copies, Cond.code yX7_copies cX7_copies 4 none, Cond.methodLink RX7 123 yX7_tick, Cond.static yX7_tick, Cond.code yX7_tick cX7_tick 2 none, Cond.methodLink RX7 97 yX7_isOut, Cond.static yX7_isOut, Cond.code yX7_isOut cX7_isOut 1 (some .boolean), Cond.methodLink RX7 72 yX7_logs, Cond.static yX7_logs, Cond.code yX7_logs cX7_logs 3 none, Cond.methodLink RX7 101 yX7_charges, Cond.static yX7_charges]
def wsX7_chargeIn_r2 : List Cond := [Cond.code yX7_charges cX7_charges 4 none, Cond.methodLink RX7 76 yX7_told, Cond.static yX7_told, Cond.code yX7_told cX7_told 2 (some .int), Cond.methodLink RX7 56 yX7_ofStage, Cond.static yX7_ofStage, Cond.code yX7_ofStage cX7_ofStage 3 (some .int), Cond.methodLink RX7 66 yX7_held, Cond.static yX7_held, Cond.code yX7_held cX7_held 3 (some .int), Cond.methodLink RX7 59 yX7_limit, Cond.static yX7_limit, Cond.code yX7_limit cX7_limit 3 (some .int), Cond.methodLink RX7 62 yX7_highest, Cond.static yX7_highest, Cond.code yX7_highest cX7_highest 3 (some .int), Cond.methodLink RX7 52 yX7_base, Cond.static yX7_base, Cond.code yX7_base cX7_base 2 (some .int), Cond.methodLink RX7 48 yX7_of, Cond.static yX7_of, Cond.code yX7_of cX7_of 3 (some .int), Cond.methodLink RX7 79 yX7_endsAtOnce, Cond.static yX7_endsAtOnce]
def wsX7_chargeIn_r3 : List Cond := [Cond.code yX7_endsAtOnce cX7_endsAtOnce 2 (some .boolean), Cond.methodLink RX7 83 yX7_takesIn, Cond.static yX7_takesIn, Cond.code yX7_takesIn cX7_takesIn 7 none, Cond.methodLink RX7 87 yX7_endsBehind, Cond.static yX7_endsBehind, Cond.code yX7_endsBehind cX7_endsBehind 3 (some .boolean), Cond.methodLink RX7 69 yX7_more, Cond.static yX7_more, Cond.code yX7_more cX7_more 2 (some .int), Cond.methodLink RX7 90 yX7_goesOn, Cond.static yX7_goesOn, Cond.code yX7_goesOn cX7_goesOn 1 none, Cond.methodLink RX7 104 yX7_bleeds, Cond.static yX7_bleeds, Cond.code yX7_bleeds cX7_bleeds 6 none, Cond.methodLink RX7 94 yX7_lowest, Cond.static yX7_lowest, Cond.code yX7_lowest cX7_lowest 3 (some .int)]
def wsX7_chargeIn : List Cond := .code yX7_chargeIn cX7_chargeIn 4 (some .int) :: ((wsX7_chargeIn_r1 ++ (wsX7_chargeIn_r2 ++ wsX7_chargeIn_r3)) ++ wsX70)
def wsX7_warmest_r1 : List Cond := [Cond.fieldLink RX7 7 "ChargeStagesModel" "s" "[I", Cond.fieldLink RX7 13 "ChargeStagesModel" "trial" "[I", Cond.methodLink RX7 33 yX7_copies, Cond.static yX7_copies, Cond.initialized RX7, Cond.code yX7_copies cX7_copies 4 none, Cond.methodLink RX7 157 yX7_doneBy, Cond.instanceMethod yX7_doneBy, Cond.selects RX7 yX7_doneBy yX7_doneBy, Cond.code yX7_doneBy cX7_doneBy 3 (some .int), Cond.methodLink RX7 123 yX7_tick, Cond.static yX7_tick, Cond.code yX7_tick cX7_tick 2 none, Cond.methodLink RX7 97 yX7_isOut, Cond.static yX7_isOut, Cond.code yX7_isOut cX7_isOut 1 (some .boolean), Cond.methodLink RX7 44 yX7_in, Cond.static yX7_in, Cond.code yX7_in cX7_in 3 (some .boolean), Cond.methodLink RX7 72 yX7_logs, Cond.static yX7_logs, Cond.code yX7_logs cX7_logs 3 none, Cond.methodLink RX7 101 yX7_charges, Cond.static yX7_charges]
def wsX7_warmest_r2 : List Cond := [Cond.code yX7_charges cX7_charges 4 none, Cond.methodLink RX7 76 yX7_told, Cond.static yX7_told, Cond.code yX7_told cX7_told 2 (some .int), Cond.methodLink RX7 56 yX7_ofStage, Cond.static yX7_ofStage, Cond.code yX7_ofStage cX7_ofStage 3 (some .int), Cond.methodLink RX7 66 yX7_held, Cond.static yX7_held, Cond.code yX7_held cX7_held 3 (some .int), Cond.methodLink RX7 59 yX7_limit, Cond.static yX7_limit, Cond.code yX7_limit cX7_limit 3 (some .int), Cond.methodLink RX7 62 yX7_highest, Cond.static yX7_highest, Cond.code yX7_highest cX7_highest 3 (some .int), Cond.methodLink RX7 52 yX7_base, Cond.static yX7_base, Cond.code yX7_base cX7_base 2 (some .int), Cond.methodLink RX7 48 yX7_of, Cond.static yX7_of, Cond.code yX7_of cX7_of 3 (some .int), Cond.methodLink RX7 79 yX7_endsAtOnce, Cond.static yX7_endsAtOnce]
def wsX7_warmest_r3 : List Cond := [Cond.code yX7_endsAtOnce cX7_endsAtOnce 2 (some .boolean), Cond.methodLink RX7 83 yX7_takesIn, Cond.static yX7_takesIn, Cond.code yX7_takesIn cX7_takesIn 7 none, Cond.methodLink RX7 87 yX7_endsBehind, Cond.static yX7_endsBehind, Cond.code yX7_endsBehind cX7_endsBehind 3 (some .boolean), Cond.methodLink RX7 69 yX7_more, Cond.static yX7_more, Cond.code yX7_more cX7_more 2 (some .int), Cond.methodLink RX7 90 yX7_goesOn, Cond.static yX7_goesOn, Cond.code yX7_goesOn cX7_goesOn 1 none, Cond.methodLink RX7 104 yX7_bleeds, Cond.static yX7_bleeds, Cond.code yX7_bleeds cX7_bleeds 6 none, Cond.methodLink RX7 94 yX7_lowest, Cond.static yX7_lowest, Cond.code yX7_lowest cX7_lowest 3 (some .int)]
def wsX7_warmest : List Cond := .code yX7_warmest cX7_warmest 2 (some .int) :: ((wsX7_warmest_r1 ++ (wsX7_warmest_r2 ++ wsX7_warmest_r3)) ++ wsX70)
def wsX7_event : List Cond := .code yX7_event cX7_event 3 (some .int) :: ([.fieldLink RX7 7 "ChargeStagesModel" "s" "[I", .methodLink RX7 44 yX7_in, .static yX7_in, .initialized RX7, .code yX7_in cX7_in 3 (some .boolean)] ++ wsX70)
def wsX7_count : List Cond := .code yX7_count cX7_count 2 (some .int) :: ([.fieldLink RX7 7 "ChargeStagesModel" "s" "[I", .fieldLink RX7 29 "ChargeStagesModel" "states" "I", .fieldLink RX7 126 "ChargeStagesModel" "length" "I", .methodLink RX7 111 yX7_charged, .static yX7_charged, .initialized RX7, .code yX7_charged cX7_charged 5 (some .int), .methodLink RX7 48 yX7_of, .static yX7_of, .code yX7_of cX7_of 3 (some .int), .methodLink RX7 97 yX7_isOut, .static yX7_isOut, .code yX7_isOut cX7_isOut 1 (some .boolean), .methodLink RX7 44 yX7_in, .static yX7_in, .code yX7_in cX7_in 3 (some .boolean)] ++ wsX70)
def wsJ9_max_7cf53 : List Cond := .code yJ9_max_7cf53 cJ9_max_7cf53 2 (some .int) :: ([])
def wsJ9_min_7cf53 : List Cond := .code yJ9_min_7cf53 cJ9_min_7cf53 2 (some .int) :: ([])
abbrev vwCl : List vw_C := [(RX0, TX0, 8), (RX1, TX1, 2), (RX2, TX2, 5), (RX3, TX3, 5), (RX4, TX4, 12), (RX5, TX5, 3), (RX6, TX6, 7), (RX7, TX7, 12)]
theorem dX0_init_0 : decode cX0_init 0 = .ok (.aload_n 0, 1) := by decide +kernel
theorem dX0_init_1 : decode cX0_init 1 = .ok (.invokespecial 3, 3) := by decide +kernel
theorem dX0_init_4 : decode cX0_init 4 = .ok (.aload_n 0, 1) := by decide +kernel
theorem dX0_init_5 : decode cX0_init 5 = .ok (.iconst 3, 1) := by decide +kernel
theorem dX0_init_6 : decode cX0_init 6 = .ok (.putfield 9, 3) := by decide +kernel
theorem dX0_init_9 : decode cX0_init 9 = .ok (.aload_n 0, 1) := by decide +kernel
theorem dX0_init_10 : decode cX0_init 10 = .ok (.bipush 6, 2) := by decide +kernel
theorem dX0_init_12 : decode cX0_init 12 = .ok (.newarray .int, 2) := by decide +kernel
theorem dX0_init_14 : decode cX0_init 14 = .ok (.putfield 15, 3) := by decide +kernel
theorem dX0_init_17 : decode cX0_init 17 = .ok (.aload_n 0, 1) := by decide +kernel
theorem dX0_init_18 : decode cX0_init 18 = .ok (.bipush 6, 2) := by decide +kernel
theorem dX0_init_20 : decode cX0_init 20 = .ok (.newarray .int, 2) := by decide +kernel
theorem dX0_init_22 : decode cX0_init 22 = .ok (.putfield 19, 3) := by decide +kernel
theorem dX0_init_25 : decode cX0_init 25 = .ok (.aload_n 0, 1) := by decide +kernel
theorem dX0_init_26 : decode cX0_init 26 = .ok (.bipush 6, 2) := by decide +kernel
theorem dX0_init_28 : decode cX0_init 28 = .ok (.newarray .int, 2) := by decide +kernel
theorem dX0_init_30 : decode cX0_init 30 = .ok (.putfield 22, 3) := by decide +kernel
theorem dX0_init_33 : decode cX0_init 33 = .ok (.aload_n 0, 1) := by decide +kernel
theorem dX0_init_34 : decode cX0_init 34 = .ok (.bipush 6, 2) := by decide +kernel
theorem dX0_init_36 : decode cX0_init 36 = .ok (.newarray .int, 2) := by decide +kernel
theorem dX0_init_38 : decode cX0_init 38 = .ok (.putfield 25, 3) := by decide +kernel
theorem dX0_init_41 : decode cX0_init 41 = .ok (.aload_n 0, 1) := by decide +kernel
theorem dX0_init_42 : decode cX0_init 42 = .ok (.bipush 6, 2) := by decide +kernel
theorem dX0_init_44 : decode cX0_init 44 = .ok (.newarray .int, 2) := by decide +kernel
theorem dX0_init_46 : decode cX0_init 46 = .ok (.putfield 28, 3) := by decide +kernel
theorem dX0_init_49 : decode cX0_init 49 = .ok (.aload_n 0, 1) := by decide +kernel
theorem dX0_init_50 : decode cX0_init 50 = .ok (.bipush 6, 2) := by decide +kernel
theorem dX0_init_52 : decode cX0_init 52 = .ok (.newarray .int, 2) := by decide +kernel
theorem dX0_init_54 : decode cX0_init 54 = .ok (.putfield 31, 3) := by decide +kernel
theorem dX0_init_57 : decode cX0_init 57 = .ok (.aload_n 0, 1) := by decide +kernel
theorem dX0_init_58 : decode cX0_init 58 = .ok (.bipush 6, 2) := by decide +kernel
theorem dX0_init_60 : decode cX0_init 60 = .ok (.newarray .int, 2) := by decide +kernel
theorem dX0_init_62 : decode cX0_init 62 = .ok (.putfield 34, 3) := by decide +kernel
theorem dX0_init_65 : decode cX0_init 65 = .ok (.return_, 1) := by decide +kernel
theorem dX0_has_0 : decode cX0_has 0 = .ok (.iload_n 1, 1) := by decide +kernel
theorem dX0_has_1 : decode cX0_has 1 = .ok (.ifCond .lt 15, 3) := by decide +kernel
theorem dX0_has_4 : decode cX0_has 4 = .ok (.iload_n 1, 1) := by decide +kernel
theorem dX0_has_5 : decode cX0_has 5 = .ok (.aload_n 0, 1) := by decide +kernel
theorem dX0_has_6 : decode cX0_has 6 = .ok (.getfield 9, 3) := by decide +kernel
theorem dX0_has_9 : decode cX0_has 9 = .ok (.if_icmp .ge 7, 3) := by decide +kernel
theorem dX0_has_12 : decode cX0_has 12 = .ok (.iconst 1, 1) := by decide +kernel
theorem dX0_has_13 : decode cX0_has 13 = .ok (.goto 4, 3) := by decide +kernel
theorem dX0_has_16 : decode cX0_has 16 = .ok (.iconst 0, 1) := by decide +kernel
theorem dX0_has_17 : decode cX0_has 17 = .ok (.ireturn, 1) := by decide +kernel
theorem dX0_putEmpty_0 : decode cX0_putEmpty 0 = .ok (.aload_n 0, 1) := by decide +kernel
theorem dX0_putEmpty_1 : decode cX0_putEmpty 1 = .ok (.iconst 1, 1) := by decide +kernel
theorem dX0_putEmpty_2 : decode cX0_putEmpty 2 = .ok (.iload_n 1, 1) := by decide +kernel
theorem dX0_putEmpty_3 : decode cX0_putEmpty 3 = .ok (.bipush 6, 2) := by decide +kernel
theorem dX0_putEmpty_5 : decode cX0_putEmpty 5 = .ok (.invokestatic 37, 3) := by decide +kernel
theorem dX0_putEmpty_8 : decode cX0_putEmpty 8 = .ok (.invokestatic 43, 3) := by decide +kernel
theorem dX0_putEmpty_11 : decode cX0_putEmpty 11 = .ok (.putfield 9, 3) := by decide +kernel
theorem dX0_putEmpty_14 : decode cX0_putEmpty 14 = .ok (.iconst 0, 1) := by decide +kernel
theorem dX0_putEmpty_15 : decode cX0_putEmpty 15 = .ok (.istore_n 2, 1) := by decide +kernel
theorem dX0_putEmpty_16 : decode cX0_putEmpty 16 = .ok (.iload_n 2, 1) := by decide +kernel
theorem dX0_putEmpty_17 : decode cX0_putEmpty 17 = .ok (.bipush 6, 2) := by decide +kernel
theorem dX0_putEmpty_19 : decode cX0_putEmpty 19 = .ok (.if_icmp .ge 58, 3) := by decide +kernel
theorem dX0_putEmpty_22 : decode cX0_putEmpty 22 = .ok (.aload_n 0, 1) := by decide +kernel
theorem dX0_putEmpty_23 : decode cX0_putEmpty 23 = .ok (.getfield 15, 3) := by decide +kernel
theorem dX0_putEmpty_26 : decode cX0_putEmpty 26 = .ok (.iload_n 2, 1) := by decide +kernel
theorem dX0_putEmpty_27 : decode cX0_putEmpty 27 = .ok (.iconst 0, 1) := by decide +kernel
theorem dX0_putEmpty_28 : decode cX0_putEmpty 28 = .ok (.iastore, 1) := by decide +kernel
theorem dX0_putEmpty_29 : decode cX0_putEmpty 29 = .ok (.aload_n 0, 1) := by decide +kernel
theorem dX0_putEmpty_30 : decode cX0_putEmpty 30 = .ok (.getfield 19, 3) := by decide +kernel
theorem dX0_putEmpty_33 : decode cX0_putEmpty 33 = .ok (.iload_n 2, 1) := by decide +kernel
theorem dX0_putEmpty_34 : decode cX0_putEmpty 34 = .ok (.iconst 0, 1) := by decide +kernel
theorem dX0_putEmpty_35 : decode cX0_putEmpty 35 = .ok (.iastore, 1) := by decide +kernel
theorem dX0_putEmpty_36 : decode cX0_putEmpty 36 = .ok (.aload_n 0, 1) := by decide +kernel
theorem dX0_putEmpty_37 : decode cX0_putEmpty 37 = .ok (.getfield 22, 3) := by decide +kernel
theorem dX0_putEmpty_40 : decode cX0_putEmpty 40 = .ok (.iload_n 2, 1) := by decide +kernel
theorem dX0_putEmpty_41 : decode cX0_putEmpty 41 = .ok (.iconst 0, 1) := by decide +kernel
theorem dX0_putEmpty_42 : decode cX0_putEmpty 42 = .ok (.iastore, 1) := by decide +kernel
theorem dX0_putEmpty_43 : decode cX0_putEmpty 43 = .ok (.aload_n 0, 1) := by decide +kernel
theorem dX0_putEmpty_44 : decode cX0_putEmpty 44 = .ok (.getfield 25, 3) := by decide +kernel
theorem dX0_putEmpty_47 : decode cX0_putEmpty 47 = .ok (.iload_n 2, 1) := by decide +kernel
theorem dX0_putEmpty_48 : decode cX0_putEmpty 48 = .ok (.iconst 0, 1) := by decide +kernel
theorem dX0_putEmpty_49 : decode cX0_putEmpty 49 = .ok (.iastore, 1) := by decide +kernel
theorem dX0_putEmpty_50 : decode cX0_putEmpty 50 = .ok (.aload_n 0, 1) := by decide +kernel
theorem dX0_putEmpty_51 : decode cX0_putEmpty 51 = .ok (.getfield 28, 3) := by decide +kernel
theorem dX0_putEmpty_54 : decode cX0_putEmpty 54 = .ok (.iload_n 2, 1) := by decide +kernel
theorem dX0_putEmpty_55 : decode cX0_putEmpty 55 = .ok (.iconst 0, 1) := by decide +kernel
theorem dX0_putEmpty_56 : decode cX0_putEmpty 56 = .ok (.iastore, 1) := by decide +kernel
theorem dX0_putEmpty_57 : decode cX0_putEmpty 57 = .ok (.aload_n 0, 1) := by decide +kernel
theorem dX0_putEmpty_58 : decode cX0_putEmpty 58 = .ok (.getfield 31, 3) := by decide +kernel
theorem dX0_putEmpty_61 : decode cX0_putEmpty 61 = .ok (.iload_n 2, 1) := by decide +kernel
theorem dX0_putEmpty_62 : decode cX0_putEmpty 62 = .ok (.iconst 0, 1) := by decide +kernel
theorem dX0_putEmpty_63 : decode cX0_putEmpty 63 = .ok (.iastore, 1) := by decide +kernel
theorem dX0_putEmpty_64 : decode cX0_putEmpty 64 = .ok (.aload_n 0, 1) := by decide +kernel
theorem dX0_putEmpty_65 : decode cX0_putEmpty 65 = .ok (.getfield 34, 3) := by decide +kernel
theorem dX0_putEmpty_68 : decode cX0_putEmpty 68 = .ok (.iload_n 2, 1) := by decide +kernel
theorem dX0_putEmpty_69 : decode cX0_putEmpty 69 = .ok (.iconst 0, 1) := by decide +kernel
theorem dX0_putEmpty_70 : decode cX0_putEmpty 70 = .ok (.iastore, 1) := by decide +kernel
theorem dX0_putEmpty_71 : decode cX0_putEmpty 71 = .ok (.iinc 2 1, 3) := by decide +kernel
theorem dX0_putEmpty_74 : decode cX0_putEmpty 74 = .ok (.goto (-58), 3) := by decide +kernel
theorem dX0_putEmpty_77 : decode cX0_putEmpty 77 = .ok (.return_, 1) := by decide +kernel
theorem dX0_copyFrom_0 : decode cX0_copyFrom 0 = .ok (.aload_n 0, 1) := by decide +kernel
theorem dX0_copyFrom_1 : decode cX0_copyFrom 1 = .ok (.aload_n 1, 1) := by decide +kernel
theorem dX0_copyFrom_2 : decode cX0_copyFrom 2 = .ok (.getfield 9, 3) := by decide +kernel
theorem dX0_copyFrom_5 : decode cX0_copyFrom 5 = .ok (.putfield 9, 3) := by decide +kernel
theorem dX0_copyFrom_8 : decode cX0_copyFrom 8 = .ok (.aload_n 1, 1) := by decide +kernel
end
section
theorem dX0_copyFrom_9 : decode cX0_copyFrom 9 = .ok (.getfield 15, 3) := by decide +kernel
theorem dX0_copyFrom_12 : decode cX0_copyFrom 12 = .ok (.iconst 0, 1) := by decide +kernel
theorem dX0_copyFrom_13 : decode cX0_copyFrom 13 = .ok (.aload_n 0, 1) := by decide +kernel
theorem dX0_copyFrom_14 : decode cX0_copyFrom 14 = .ok (.getfield 15, 3) := by decide +kernel
theorem dX0_copyFrom_17 : decode cX0_copyFrom 17 = .ok (.iconst 0, 1) := by decide +kernel
theorem dX0_copyFrom_18 : decode cX0_copyFrom 18 = .ok (.bipush 6, 2) := by decide +kernel
theorem dX0_copyFrom_20 : decode cX0_copyFrom 20 = .ok (.invokestatic 46, 3) := by decide +kernel
theorem dX0_copyFrom_23 : decode cX0_copyFrom 23 = .ok (.aload_n 1, 1) := by decide +kernel
theorem dX0_copyFrom_24 : decode cX0_copyFrom 24 = .ok (.getfield 19, 3) := by decide +kernel
theorem dX0_copyFrom_27 : decode cX0_copyFrom 27 = .ok (.iconst 0, 1) := by decide +kernel
theorem dX0_copyFrom_28 : decode cX0_copyFrom 28 = .ok (.aload_n 0, 1) := by decide +kernel
theorem dX0_copyFrom_29 : decode cX0_copyFrom 29 = .ok (.getfield 19, 3) := by decide +kernel
theorem dX0_copyFrom_32 : decode cX0_copyFrom 32 = .ok (.iconst 0, 1) := by decide +kernel
theorem dX0_copyFrom_33 : decode cX0_copyFrom 33 = .ok (.bipush 6, 2) := by decide +kernel
theorem dX0_copyFrom_35 : decode cX0_copyFrom 35 = .ok (.invokestatic 46, 3) := by decide +kernel
theorem dX0_copyFrom_38 : decode cX0_copyFrom 38 = .ok (.aload_n 1, 1) := by decide +kernel
theorem dX0_copyFrom_39 : decode cX0_copyFrom 39 = .ok (.getfield 22, 3) := by decide +kernel
theorem dX0_copyFrom_42 : decode cX0_copyFrom 42 = .ok (.iconst 0, 1) := by decide +kernel
theorem dX0_copyFrom_43 : decode cX0_copyFrom 43 = .ok (.aload_n 0, 1) := by decide +kernel
theorem dX0_copyFrom_44 : decode cX0_copyFrom 44 = .ok (.getfield 22, 3) := by decide +kernel
theorem dX0_copyFrom_47 : decode cX0_copyFrom 47 = .ok (.iconst 0, 1) := by decide +kernel
theorem dX0_copyFrom_48 : decode cX0_copyFrom 48 = .ok (.bipush 6, 2) := by decide +kernel
theorem dX0_copyFrom_50 : decode cX0_copyFrom 50 = .ok (.invokestatic 46, 3) := by decide +kernel
theorem dX0_copyFrom_53 : decode cX0_copyFrom 53 = .ok (.aload_n 1, 1) := by decide +kernel
theorem dX0_copyFrom_54 : decode cX0_copyFrom 54 = .ok (.getfield 25, 3) := by decide +kernel
theorem dX0_copyFrom_57 : decode cX0_copyFrom 57 = .ok (.iconst 0, 1) := by decide +kernel
theorem dX0_copyFrom_58 : decode cX0_copyFrom 58 = .ok (.aload_n 0, 1) := by decide +kernel
theorem dX0_copyFrom_59 : decode cX0_copyFrom 59 = .ok (.getfield 25, 3) := by decide +kernel
theorem dX0_copyFrom_62 : decode cX0_copyFrom 62 = .ok (.iconst 0, 1) := by decide +kernel
theorem dX0_copyFrom_63 : decode cX0_copyFrom 63 = .ok (.bipush 6, 2) := by decide +kernel
theorem dX0_copyFrom_65 : decode cX0_copyFrom 65 = .ok (.invokestatic 46, 3) := by decide +kernel
theorem dX0_copyFrom_68 : decode cX0_copyFrom 68 = .ok (.aload_n 1, 1) := by decide +kernel
theorem dX0_copyFrom_69 : decode cX0_copyFrom 69 = .ok (.getfield 28, 3) := by decide +kernel
theorem dX0_copyFrom_72 : decode cX0_copyFrom 72 = .ok (.iconst 0, 1) := by decide +kernel
theorem dX0_copyFrom_73 : decode cX0_copyFrom 73 = .ok (.aload_n 0, 1) := by decide +kernel
theorem dX0_copyFrom_74 : decode cX0_copyFrom 74 = .ok (.getfield 28, 3) := by decide +kernel
theorem dX0_copyFrom_77 : decode cX0_copyFrom 77 = .ok (.iconst 0, 1) := by decide +kernel
theorem dX0_copyFrom_78 : decode cX0_copyFrom 78 = .ok (.bipush 6, 2) := by decide +kernel
theorem dX0_copyFrom_80 : decode cX0_copyFrom 80 = .ok (.invokestatic 46, 3) := by decide +kernel
theorem dX0_copyFrom_83 : decode cX0_copyFrom 83 = .ok (.aload_n 1, 1) := by decide +kernel
theorem dX0_copyFrom_84 : decode cX0_copyFrom 84 = .ok (.getfield 31, 3) := by decide +kernel
theorem dX0_copyFrom_87 : decode cX0_copyFrom 87 = .ok (.iconst 0, 1) := by decide +kernel
theorem dX0_copyFrom_88 : decode cX0_copyFrom 88 = .ok (.aload_n 0, 1) := by decide +kernel
theorem dX0_copyFrom_89 : decode cX0_copyFrom 89 = .ok (.getfield 31, 3) := by decide +kernel
theorem dX0_copyFrom_92 : decode cX0_copyFrom 92 = .ok (.iconst 0, 1) := by decide +kernel
theorem dX0_copyFrom_93 : decode cX0_copyFrom 93 = .ok (.bipush 6, 2) := by decide +kernel
theorem dX0_copyFrom_95 : decode cX0_copyFrom 95 = .ok (.invokestatic 46, 3) := by decide +kernel
theorem dX0_copyFrom_98 : decode cX0_copyFrom 98 = .ok (.aload_n 1, 1) := by decide +kernel
theorem dX0_copyFrom_99 : decode cX0_copyFrom 99 = .ok (.getfield 34, 3) := by decide +kernel
theorem dX0_copyFrom_102 : decode cX0_copyFrom 102 = .ok (.iconst 0, 1) := by decide +kernel
theorem dX0_copyFrom_103 : decode cX0_copyFrom 103 = .ok (.aload_n 0, 1) := by decide +kernel
theorem dX0_copyFrom_104 : decode cX0_copyFrom 104 = .ok (.getfield 34, 3) := by decide +kernel
theorem dX0_copyFrom_107 : decode cX0_copyFrom 107 = .ok (.iconst 0, 1) := by decide +kernel
theorem dX0_copyFrom_108 : decode cX0_copyFrom 108 = .ok (.bipush 6, 2) := by decide +kernel
theorem dX0_copyFrom_110 : decode cX0_copyFrom 110 = .ok (.invokestatic 46, 3) := by decide +kernel
theorem dX0_copyFrom_113 : decode cX0_copyFrom 113 = .ok (.return_, 1) := by decide +kernel
theorem dX0_leastCharge_0 : decode cX0_leastCharge 0 = .ok (.aload_n 0, 1) := by decide +kernel
theorem dX0_leastCharge_1 : decode cX0_leastCharge 1 = .ok (.getfield 15, 3) := by decide +kernel
theorem dX0_leastCharge_4 : decode cX0_leastCharge 4 = .ok (.iconst 0, 1) := by decide +kernel
theorem dX0_leastCharge_5 : decode cX0_leastCharge 5 = .ok (.iaload, 1) := by decide +kernel
theorem dX0_leastCharge_6 : decode cX0_leastCharge 6 = .ok (.istore_n 1, 1) := by decide +kernel
theorem dX0_leastCharge_7 : decode cX0_leastCharge 7 = .ok (.iconst 1, 1) := by decide +kernel
theorem dX0_leastCharge_8 : decode cX0_leastCharge 8 = .ok (.istore_n 2, 1) := by decide +kernel
theorem dX0_leastCharge_9 : decode cX0_leastCharge 9 = .ok (.iload_n 2, 1) := by decide +kernel
theorem dX0_leastCharge_10 : decode cX0_leastCharge 10 = .ok (.aload_n 0, 1) := by decide +kernel
theorem dX0_leastCharge_11 : decode cX0_leastCharge 11 = .ok (.getfield 9, 3) := by decide +kernel
theorem dX0_leastCharge_14 : decode cX0_leastCharge 14 = .ok (.if_icmp .ge 20, 3) := by decide +kernel
theorem dX0_leastCharge_17 : decode cX0_leastCharge 17 = .ok (.iload_n 1, 1) := by decide +kernel
theorem dX0_leastCharge_18 : decode cX0_leastCharge 18 = .ok (.aload_n 0, 1) := by decide +kernel
theorem dX0_leastCharge_19 : decode cX0_leastCharge 19 = .ok (.getfield 15, 3) := by decide +kernel
theorem dX0_leastCharge_22 : decode cX0_leastCharge 22 = .ok (.iload_n 2, 1) := by decide +kernel
theorem dX0_leastCharge_23 : decode cX0_leastCharge 23 = .ok (.iaload, 1) := by decide +kernel
theorem dX0_leastCharge_24 : decode cX0_leastCharge 24 = .ok (.invokestatic 37, 3) := by decide +kernel
theorem dX0_leastCharge_27 : decode cX0_leastCharge 27 = .ok (.istore_n 1, 1) := by decide +kernel
theorem dX0_leastCharge_28 : decode cX0_leastCharge 28 = .ok (.iinc 2 1, 3) := by decide +kernel
theorem dX0_leastCharge_31 : decode cX0_leastCharge 31 = .ok (.goto (-22), 3) := by decide +kernel
theorem dX0_leastCharge_34 : decode cX0_leastCharge 34 = .ok (.iload_n 1, 1) := by decide +kernel
theorem dX0_leastCharge_35 : decode cX0_leastCharge 35 = .ok (.ireturn, 1) := by decide +kernel
theorem dX0_greatestCharge_0 : decode cX0_greatestCharge 0 = .ok (.aload_n 0, 1) := by decide +kernel
theorem dX0_greatestCharge_1 : decode cX0_greatestCharge 1 = .ok (.getfield 15, 3) := by decide +kernel
theorem dX0_greatestCharge_4 : decode cX0_greatestCharge 4 = .ok (.iconst 0, 1) := by decide +kernel
theorem dX0_greatestCharge_5 : decode cX0_greatestCharge 5 = .ok (.iaload, 1) := by decide +kernel
theorem dX0_greatestCharge_6 : decode cX0_greatestCharge 6 = .ok (.istore_n 1, 1) := by decide +kernel
theorem dX0_greatestCharge_7 : decode cX0_greatestCharge 7 = .ok (.iconst 1, 1) := by decide +kernel
theorem dX0_greatestCharge_8 : decode cX0_greatestCharge 8 = .ok (.istore_n 2, 1) := by decide +kernel
theorem dX0_greatestCharge_9 : decode cX0_greatestCharge 9 = .ok (.iload_n 2, 1) := by decide +kernel
theorem dX0_greatestCharge_10 : decode cX0_greatestCharge 10 = .ok (.aload_n 0, 1) := by decide +kernel
theorem dX0_greatestCharge_11 : decode cX0_greatestCharge 11 = .ok (.getfield 9, 3) := by decide +kernel
theorem dX0_greatestCharge_14 : decode cX0_greatestCharge 14 = .ok (.if_icmp .ge 20, 3) := by decide +kernel
theorem dX0_greatestCharge_17 : decode cX0_greatestCharge 17 = .ok (.iload_n 1, 1) := by decide +kernel
theorem dX0_greatestCharge_18 : decode cX0_greatestCharge 18 = .ok (.aload_n 0, 1) := by decide +kernel
theorem dX0_greatestCharge_19 : decode cX0_greatestCharge 19 = .ok (.getfield 15, 3) := by decide +kernel
theorem dX0_greatestCharge_22 : decode cX0_greatestCharge 22 = .ok (.iload_n 2, 1) := by decide +kernel
theorem dX0_greatestCharge_23 : decode cX0_greatestCharge 23 = .ok (.iaload, 1) := by decide +kernel
theorem dX0_greatestCharge_24 : decode cX0_greatestCharge 24 = .ok (.invokestatic 43, 3) := by decide +kernel
theorem dX0_greatestCharge_27 : decode cX0_greatestCharge 27 = .ok (.istore_n 1, 1) := by decide +kernel
theorem dX0_greatestCharge_28 : decode cX0_greatestCharge 28 = .ok (.iinc 2 1, 3) := by decide +kernel
theorem dX0_greatestCharge_31 : decode cX0_greatestCharge 31 = .ok (.goto (-22), 3) := by decide +kernel
theorem dX0_greatestCharge_34 : decode cX0_greatestCharge 34 = .ok (.iload_n 1, 1) := by decide +kernel
theorem dX0_greatestCharge_35 : decode cX0_greatestCharge 35 = .ok (.ireturn, 1) := by decide +kernel
theorem dX0_draw_0 : decode cX0_draw 0 = .ok (.iconst 0, 1) := by decide +kernel
theorem dX0_draw_1 : decode cX0_draw 1 = .ok (.istore_n 2, 1) := by decide +kernel
theorem dX0_draw_2 : decode cX0_draw 2 = .ok (.iload_n 2, 1) := by decide +kernel
theorem dX0_draw_3 : decode cX0_draw 3 = .ok (.aload_n 0, 1) := by decide +kernel
theorem dX0_draw_4 : decode cX0_draw 4 = .ok (.getfield 9, 3) := by decide +kernel
theorem dX0_draw_7 : decode cX0_draw 7 = .ok (.if_icmp .ge 29, 3) := by decide +kernel
theorem dX0_draw_10 : decode cX0_draw 10 = .ok (.aload_n 0, 1) := by decide +kernel
theorem dX0_draw_11 : decode cX0_draw 11 = .ok (.getfield 15, 3) := by decide +kernel
theorem dX0_draw_14 : decode cX0_draw 14 = .ok (.iload_n 2, 1) := by decide +kernel
theorem dX0_draw_15 : decode cX0_draw 15 = .ok (.dup2, 1) := by decide +kernel
theorem dX0_draw_16 : decode cX0_draw 16 = .ok (.iaload, 1) := by decide +kernel
theorem dX0_draw_17 : decode cX0_draw 17 = .ok (.iload_n 1, 1) := by decide +kernel
theorem dX0_draw_18 : decode cX0_draw 18 = .ok (.isub, 1) := by decide +kernel
theorem dX0_draw_19 : decode cX0_draw 19 = .ok (.iastore, 1) := by decide +kernel
theorem dX0_draw_20 : decode cX0_draw 20 = .ok (.aload_n 0, 1) := by decide +kernel
theorem dX0_draw_21 : decode cX0_draw 21 = .ok (.getfield 34, 3) := by decide +kernel
theorem dX0_draw_24 : decode cX0_draw 24 = .ok (.iload_n 2, 1) := by decide +kernel
theorem dX0_draw_25 : decode cX0_draw 25 = .ok (.dup2, 1) := by decide +kernel
theorem dX0_draw_26 : decode cX0_draw 26 = .ok (.iaload, 1) := by decide +kernel
theorem dX0_draw_27 : decode cX0_draw 27 = .ok (.iload_n 1, 1) := by decide +kernel
theorem dX0_draw_28 : decode cX0_draw 28 = .ok (.iadd, 1) := by decide +kernel
theorem dX0_draw_29 : decode cX0_draw 29 = .ok (.iastore, 1) := by decide +kernel
theorem dX0_draw_30 : decode cX0_draw 30 = .ok (.iinc 2 1, 3) := by decide +kernel
theorem dX0_draw_33 : decode cX0_draw 33 = .ok (.goto (-31), 3) := by decide +kernel
theorem dX0_draw_36 : decode cX0_draw 36 = .ok (.return_, 1) := by decide +kernel
theorem dX0_takeIn_0 : decode cX0_takeIn 0 = .ok (.iconst 0, 1) := by decide +kernel
theorem dX0_takeIn_1 : decode cX0_takeIn 1 = .ok (.istore 4, 2) := by decide +kernel
theorem dX0_takeIn_3 : decode cX0_takeIn 3 = .ok (.iload 4, 2) := by decide +kernel
theorem dX0_takeIn_5 : decode cX0_takeIn 5 = .ok (.aload_n 0, 1) := by decide +kernel
theorem dX0_takeIn_6 : decode cX0_takeIn 6 = .ok (.getfield 9, 3) := by decide +kernel
theorem dX0_takeIn_9 : decode cX0_takeIn 9 = .ok (.if_icmp .ge 110, 3) := by decide +kernel
theorem dX0_takeIn_12 : decode cX0_takeIn 12 = .ok (.aload_n 0, 1) := by decide +kernel
theorem dX0_takeIn_13 : decode cX0_takeIn 13 = .ok (.getfield 19, 3) := by decide +kernel
theorem dX0_takeIn_16 : decode cX0_takeIn 16 = .ok (.iload 4, 2) := by decide +kernel
theorem dX0_takeIn_18 : decode cX0_takeIn 18 = .ok (.iaload, 1) := by decide +kernel
theorem dX0_takeIn_19 : decode cX0_takeIn 19 = .ok (.iload_n 1, 1) := by decide +kernel
theorem dX0_takeIn_20 : decode cX0_takeIn 20 = .ok (.iload_n 2, 1) := by decide +kernel
theorem dX0_takeIn_21 : decode cX0_takeIn 21 = .ok (.imul, 1) := by decide +kernel
theorem dX0_takeIn_22 : decode cX0_takeIn 22 = .ok (.iadd, 1) := by decide +kernel
theorem dX0_takeIn_23 : decode cX0_takeIn 23 = .ok (.istore 5, 2) := by decide +kernel
theorem dX0_takeIn_25 : decode cX0_takeIn 25 = .ok (.iload 5, 2) := by decide +kernel
theorem dX0_takeIn_27 : decode cX0_takeIn 27 = .ok (.bipush 100, 2) := by decide +kernel
theorem dX0_takeIn_29 : decode cX0_takeIn 29 = .ok (.idiv, 1) := by decide +kernel
theorem dX0_takeIn_30 : decode cX0_takeIn 30 = .ok (.istore 6, 2) := by decide +kernel
theorem dX0_takeIn_32 : decode cX0_takeIn 32 = .ok (.aload_n 0, 1) := by decide +kernel
theorem dX0_takeIn_33 : decode cX0_takeIn 33 = .ok (.getfield 15, 3) := by decide +kernel
theorem dX0_takeIn_36 : decode cX0_takeIn 36 = .ok (.iload 4, 2) := by decide +kernel
theorem dX0_takeIn_38 : decode cX0_takeIn 38 = .ok (.iaload, 1) := by decide +kernel
theorem dX0_takeIn_39 : decode cX0_takeIn 39 = .ok (.iload 6, 2) := by decide +kernel
theorem dX0_takeIn_41 : decode cX0_takeIn 41 = .ok (.iadd, 1) := by decide +kernel
theorem dX0_takeIn_42 : decode cX0_takeIn 42 = .ok (.istore 7, 2) := by decide +kernel
theorem dX0_takeIn_44 : decode cX0_takeIn 44 = .ok (.iconst 0, 1) := by decide +kernel
theorem dX0_takeIn_45 : decode cX0_takeIn 45 = .ok (.iload 7, 2) := by decide +kernel
theorem dX0_takeIn_47 : decode cX0_takeIn 47 = .ok (.iload_n 3, 1) := by decide +kernel
theorem dX0_takeIn_48 : decode cX0_takeIn 48 = .ok (.isub, 1) := by decide +kernel
theorem dX0_takeIn_49 : decode cX0_takeIn 49 = .ok (.invokestatic 43, 3) := by decide +kernel
theorem dX0_takeIn_52 : decode cX0_takeIn 52 = .ok (.istore 8, 2) := by decide +kernel
theorem dX0_takeIn_54 : decode cX0_takeIn 54 = .ok (.aload_n 0, 1) := by decide +kernel
theorem dX0_takeIn_55 : decode cX0_takeIn 55 = .ok (.getfield 22, 3) := by decide +kernel
theorem dX0_takeIn_58 : decode cX0_takeIn 58 = .ok (.iload 4, 2) := by decide +kernel
theorem dX0_takeIn_60 : decode cX0_takeIn 60 = .ok (.dup2, 1) := by decide +kernel
theorem dX0_takeIn_61 : decode cX0_takeIn 61 = .ok (.iaload, 1) := by decide +kernel
theorem dX0_takeIn_62 : decode cX0_takeIn 62 = .ok (.iload_n 1, 1) := by decide +kernel
theorem dX0_takeIn_63 : decode cX0_takeIn 63 = .ok (.iadd, 1) := by decide +kernel
theorem dX0_takeIn_64 : decode cX0_takeIn 64 = .ok (.iastore, 1) := by decide +kernel
theorem dX0_takeIn_65 : decode cX0_takeIn 65 = .ok (.aload_n 0, 1) := by decide +kernel
theorem dX0_takeIn_66 : decode cX0_takeIn 66 = .ok (.getfield 19, 3) := by decide +kernel
theorem dX0_takeIn_69 : decode cX0_takeIn 69 = .ok (.iload 4, 2) := by decide +kernel
theorem dX0_takeIn_71 : decode cX0_takeIn 71 = .ok (.iload 5, 2) := by decide +kernel
theorem dX0_takeIn_73 : decode cX0_takeIn 73 = .ok (.bipush 100, 2) := by decide +kernel
theorem dX0_takeIn_75 : decode cX0_takeIn 75 = .ok (.irem, 1) := by decide +kernel
theorem dX0_takeIn_76 : decode cX0_takeIn 76 = .ok (.iastore, 1) := by decide +kernel
theorem dX0_takeIn_77 : decode cX0_takeIn 77 = .ok (.aload_n 0, 1) := by decide +kernel
theorem dX0_takeIn_78 : decode cX0_takeIn 78 = .ok (.getfield 25, 3) := by decide +kernel
theorem dX0_takeIn_81 : decode cX0_takeIn 81 = .ok (.iload 4, 2) := by decide +kernel
theorem dX0_takeIn_83 : decode cX0_takeIn 83 = .ok (.dup2, 1) := by decide +kernel
theorem dX0_takeIn_84 : decode cX0_takeIn 84 = .ok (.iaload, 1) := by decide +kernel
theorem dX0_takeIn_85 : decode cX0_takeIn 85 = .ok (.iload 6, 2) := by decide +kernel
theorem dX0_takeIn_87 : decode cX0_takeIn 87 = .ok (.iadd, 1) := by decide +kernel
theorem dX0_takeIn_88 : decode cX0_takeIn 88 = .ok (.iastore, 1) := by decide +kernel
theorem dX0_takeIn_89 : decode cX0_takeIn 89 = .ok (.aload_n 0, 1) := by decide +kernel
theorem dX0_takeIn_90 : decode cX0_takeIn 90 = .ok (.getfield 28, 3) := by decide +kernel
theorem dX0_takeIn_93 : decode cX0_takeIn 93 = .ok (.iload 4, 2) := by decide +kernel
theorem dX0_takeIn_95 : decode cX0_takeIn 95 = .ok (.dup2, 1) := by decide +kernel
theorem dX0_takeIn_96 : decode cX0_takeIn 96 = .ok (.iaload, 1) := by decide +kernel
theorem dX0_takeIn_97 : decode cX0_takeIn 97 = .ok (.iload 8, 2) := by decide +kernel
theorem dX0_takeIn_99 : decode cX0_takeIn 99 = .ok (.iadd, 1) := by decide +kernel
theorem dX0_takeIn_100 : decode cX0_takeIn 100 = .ok (.iastore, 1) := by decide +kernel
theorem dX0_takeIn_101 : decode cX0_takeIn 101 = .ok (.aload_n 0, 1) := by decide +kernel
theorem dX0_takeIn_102 : decode cX0_takeIn 102 = .ok (.getfield 15, 3) := by decide +kernel
theorem dX0_takeIn_105 : decode cX0_takeIn 105 = .ok (.iload 4, 2) := by decide +kernel
theorem dX0_takeIn_107 : decode cX0_takeIn 107 = .ok (.iload 7, 2) := by decide +kernel
theorem dX0_takeIn_109 : decode cX0_takeIn 109 = .ok (.iload 8, 2) := by decide +kernel
theorem dX0_takeIn_111 : decode cX0_takeIn 111 = .ok (.isub, 1) := by decide +kernel
theorem dX0_takeIn_112 : decode cX0_takeIn 112 = .ok (.iastore, 1) := by decide +kernel
theorem dX0_takeIn_113 : decode cX0_takeIn 113 = .ok (.iinc 4 1, 3) := by decide +kernel
theorem dX0_takeIn_116 : decode cX0_takeIn 116 = .ok (.goto (-113), 3) := by decide +kernel
theorem dX0_takeIn_119 : decode cX0_takeIn 119 = .ok (.return_, 1) := by decide +kernel
set_option maxRecDepth 20000 in
theorem ggX0_loseTo_X0_leastCharge : GoodIn wsX0_loseTo wsX0_leastCharge := goodIn_r _ [12, 2, 1, 3, 4, 5, 6, 16, 17, 18, 19, 20, 21, 22, 23] (by decide +kernel) (by decide +kernel)
set_option maxRecDepth 20000 in
theorem gX0_loseTo_X0_leastCharge : GoodIn wsX0_loseTo (wsV RX0 52 RX0 yX0_leastCharge wsX0_leastCharge) := goodIn_app (goodIn_of _ (by decide +kernel)) ggX0_loseTo_X0_leastCharge
set_option maxRecDepth 20000 in
theorem ggX0_loseTo_X6_baseVoltage : GoodIn wsX0_loseTo wsX6_baseVoltage := goodIn_r _ [15] (by decide +kernel) (by decide +kernel)
set_option maxRecDepth 20000 in
theorem gX0_loseTo_X6_baseVoltage_n56 : GoodIn wsX0_loseTo (wsX6_baseVoltage) := ggX0_loseTo_X6_baseVoltage
theorem dX0_loseTo_0 : decode cX0_loseTo 0 = .ok (.aload_n 0, 1) := by decide +kernel
theorem dX0_loseTo_1 : decode cX0_loseTo 1 = .ok (.invokevirtual 52, 3) := by decide +kernel
theorem dX0_loseTo_4 : decode cX0_loseTo 4 = .ok (.iload_n 3, 1) := by decide +kernel
theorem dX0_loseTo_5 : decode cX0_loseTo 5 = .ok (.invokestatic 56, 3) := by decide +kernel
theorem dX0_loseTo_8 : decode cX0_loseTo 8 = .ok (.iload_n 2, 1) := by decide +kernel
theorem dX0_loseTo_9 : decode cX0_loseTo 9 = .ok (.iadd, 1) := by decide +kernel
theorem dX0_loseTo_10 : decode cX0_loseTo 10 = .ok (.istore 4, 2) := by decide +kernel
theorem dX0_loseTo_12 : decode cX0_loseTo 12 = .ok (.iconst 0, 1) := by decide +kernel
theorem dX0_loseTo_13 : decode cX0_loseTo 13 = .ok (.istore 5, 2) := by decide +kernel
theorem dX0_loseTo_15 : decode cX0_loseTo 15 = .ok (.iload 5, 2) := by decide +kernel
theorem dX0_loseTo_17 : decode cX0_loseTo 17 = .ok (.aload_n 0, 1) := by decide +kernel
theorem dX0_loseTo_18 : decode cX0_loseTo 18 = .ok (.getfield 9, 3) := by decide +kernel
theorem dX0_loseTo_21 : decode cX0_loseTo 21 = .ok (.if_icmp .ge 62, 3) := by decide +kernel
theorem dX0_loseTo_24 : decode cX0_loseTo 24 = .ok (.aload_n 0, 1) := by decide +kernel
theorem dX0_loseTo_25 : decode cX0_loseTo 25 = .ok (.getfield 15, 3) := by decide +kernel
theorem dX0_loseTo_28 : decode cX0_loseTo 28 = .ok (.iload 5, 2) := by decide +kernel
theorem dX0_loseTo_30 : decode cX0_loseTo 30 = .ok (.iaload, 1) := by decide +kernel
theorem dX0_loseTo_31 : decode cX0_loseTo 31 = .ok (.iload_n 3, 1) := by decide +kernel
theorem dX0_loseTo_32 : decode cX0_loseTo 32 = .ok (.invokestatic 56, 3) := by decide +kernel
theorem dX0_loseTo_35 : decode cX0_loseTo 35 = .ok (.iload 4, 2) := by decide +kernel
theorem dX0_loseTo_37 : decode cX0_loseTo 37 = .ok (.if_icmp .le 40, 3) := by decide +kernel
theorem dX0_loseTo_40 : decode cX0_loseTo 40 = .ok (.iload_n 1, 1) := by decide +kernel
theorem dX0_loseTo_41 : decode cX0_loseTo 41 = .ok (.aload_n 0, 1) := by decide +kernel
theorem dX0_loseTo_42 : decode cX0_loseTo 42 = .ok (.getfield 15, 3) := by decide +kernel
theorem dX0_loseTo_45 : decode cX0_loseTo 45 = .ok (.iload 5, 2) := by decide +kernel
theorem dX0_loseTo_47 : decode cX0_loseTo 47 = .ok (.iaload, 1) := by decide +kernel
theorem dX0_loseTo_48 : decode cX0_loseTo 48 = .ok (.invokestatic 37, 3) := by decide +kernel
theorem dX0_loseTo_51 : decode cX0_loseTo 51 = .ok (.istore 6, 2) := by decide +kernel
theorem dX0_loseTo_53 : decode cX0_loseTo 53 = .ok (.aload_n 0, 1) := by decide +kernel
theorem dX0_loseTo_54 : decode cX0_loseTo 54 = .ok (.getfield 15, 3) := by decide +kernel
theorem dX0_loseTo_57 : decode cX0_loseTo 57 = .ok (.iload 5, 2) := by decide +kernel
theorem dX0_loseTo_59 : decode cX0_loseTo 59 = .ok (.dup2, 1) := by decide +kernel
theorem dX0_loseTo_60 : decode cX0_loseTo 60 = .ok (.iaload, 1) := by decide +kernel
theorem dX0_loseTo_61 : decode cX0_loseTo 61 = .ok (.iload 6, 2) := by decide +kernel
theorem dX0_loseTo_63 : decode cX0_loseTo 63 = .ok (.isub, 1) := by decide +kernel
theorem dX0_loseTo_64 : decode cX0_loseTo 64 = .ok (.iastore, 1) := by decide +kernel
theorem dX0_loseTo_65 : decode cX0_loseTo 65 = .ok (.aload_n 0, 1) := by decide +kernel
theorem dX0_loseTo_66 : decode cX0_loseTo 66 = .ok (.getfield 31, 3) := by decide +kernel
theorem dX0_loseTo_69 : decode cX0_loseTo 69 = .ok (.iload 5, 2) := by decide +kernel
theorem dX0_loseTo_71 : decode cX0_loseTo 71 = .ok (.dup2, 1) := by decide +kernel
theorem dX0_loseTo_72 : decode cX0_loseTo 72 = .ok (.iaload, 1) := by decide +kernel
theorem dX0_loseTo_73 : decode cX0_loseTo 73 = .ok (.iload 6, 2) := by decide +kernel
theorem dX0_loseTo_75 : decode cX0_loseTo 75 = .ok (.iadd, 1) := by decide +kernel
theorem dX0_loseTo_76 : decode cX0_loseTo 76 = .ok (.iastore, 1) := by decide +kernel
theorem dX0_loseTo_77 : decode cX0_loseTo 77 = .ok (.iinc 5 1, 3) := by decide +kernel
theorem dX0_loseTo_80 : decode cX0_loseTo 80 = .ok (.goto (-65), 3) := by decide +kernel
theorem dX0_loseTo_83 : decode cX0_loseTo 83 = .ok (.return_, 1) := by decide +kernel
set_option maxRecDepth 20000 in
theorem ggX1_init_X4_init : GoodIn wsX1_init wsX4_init := goodIn_r _ [10, 11, 2, 3, 12, 13, 14, 15, 16, 17, 18, 19, 20, 21, 22, 23, 24, 25, 26, 27, 28, 29, 30, 31, 32, 33, 34, 35, 36, 37, 38, 39, 40, 41, 42, 43, 44, 45, 46, 47, 48, 49, 50, 51, 52, 53, 54, 55, 56, 57, 58, 59, 60, 63, 64, 65, 66, 67, 68, 69, 70, 71, 72, 73, 74, 75, 76, 77, 78, 79, 80, 81, 82, 83, 84, 85, 86, 87, 88, 89, 90, 91, 92] (by decide +kernel) (by decide +kernel)
set_option maxRecDepth 20000 in
theorem gX1_init_X4_init_n21 : GoodIn wsX1_init (wsX4_init) := ggX1_init_X4_init
theorem dX1_init_0 : decode cX1_init 0 = .ok (.aload_n 0, 1) := by decide +kernel
theorem dX1_init_1 : decode cX1_init 1 = .ok (.invokespecial 3, 3) := by decide +kernel
theorem dX1_init_4 : decode cX1_init 4 = .ok (.aload_n 0, 1) := by decide +kernel
theorem dX1_init_5 : decode cX1_init 5 = .ok (.iconst 0, 1) := by decide +kernel
theorem dX1_init_6 : decode cX1_init 6 = .ok (.putfield 9, 3) := by decide +kernel
theorem dX1_init_9 : decode cX1_init 9 = .ok (.aload_n 0, 1) := by decide +kernel
theorem dX1_init_10 : decode cX1_init 10 = .ok (.iconst 4, 1) := by decide +kernel
theorem dX1_init_11 : decode cX1_init 11 = .ok (.anewarray 15, 3) := by decide +kernel
theorem dX1_init_14 : decode cX1_init 14 = .ok (.putfield 17, 3) := by decide +kernel
theorem dX1_init_17 : decode cX1_init 17 = .ok (.iconst 0, 1) := by decide +kernel
theorem dX1_init_18 : decode cX1_init 18 = .ok (.istore_n 1, 1) := by decide +kernel
theorem dX1_init_19 : decode cX1_init 19 = .ok (.iload_n 1, 1) := by decide +kernel
theorem dX1_init_20 : decode cX1_init 20 = .ok (.iconst 4, 1) := by decide +kernel
theorem dX1_init_21 : decode cX1_init 21 = .ok (.if_icmp .ge 22, 3) := by decide +kernel
theorem dX1_init_24 : decode cX1_init 24 = .ok (.aload_n 0, 1) := by decide +kernel
theorem dX1_init_25 : decode cX1_init 25 = .ok (.getfield 17, 3) := by decide +kernel
theorem dX1_init_28 : decode cX1_init 28 = .ok (.iload_n 1, 1) := by decide +kernel
theorem dX1_init_29 : decode cX1_init 29 = .ok (.new 15, 3) := by decide +kernel
theorem dX1_init_32 : decode cX1_init 32 = .ok (.dup, 1) := by decide +kernel
theorem dX1_init_33 : decode cX1_init 33 = .ok (.invokespecial 21, 3) := by decide +kernel
theorem dX1_init_36 : decode cX1_init 36 = .ok (.aastore, 1) := by decide +kernel
theorem dX1_init_37 : decode cX1_init 37 = .ok (.iinc 1 1, 3) := by decide +kernel
theorem dX1_init_40 : decode cX1_init 40 = .ok (.goto (-21), 3) := by decide +kernel
theorem dX1_init_43 : decode cX1_init 43 = .ok (.return_, 1) := by decide +kernel
set_option maxRecDepth 20000 in
theorem ggX1_add_X1_dropOldest : GoodIn wsX1_add wsX1_dropOldest := goodIn_r _ [7, 2, 1, 65, 66] (by decide +kernel) (by decide +kernel)
set_option maxRecDepth 20000 in
theorem gX1_add_X1_dropOldest : GoodIn wsX1_add (wsV RX1 22 RX1 yX1_dropOldest wsX1_dropOldest) := goodIn_app (goodIn_of _ (by decide +kernel)) ggX1_add_X1_dropOldest
set_option maxRecDepth 20000 in
theorem ggX1_add_X4_copyFrom : GoodIn wsX1_add wsX4_copyFrom := goodIn_r _ [12, 13, 14, 15, 16, 17, 18, 19, 20, 21, 22, 23, 24, 25, 26, 27, 28, 29, 30, 31, 32, 33, 34, 35, 36, 37, 38, 39, 40, 41, 42, 43, 44, 45, 46, 47, 48, 49, 50, 51, 52, 53, 54, 55, 56, 57, 58, 59, 60, 61, 62, 63, 64, 67, 68, 69, 70, 71, 72, 73, 74, 75, 76, 77, 78, 79, 80, 81, 82, 83, 84, 85, 86, 87, 88, 89, 90, 91, 92, 93, 94, 95, 96] (by decide +kernel) (by decide +kernel)
set_option maxRecDepth 20000 in
theorem gX1_add_X4_copyFrom : GoodIn wsX1_add (wsV RX1 25 RX4 yX4_copyFrom wsX4_copyFrom) := goodIn_app (goodIn_of _ (by decide +kernel)) ggX1_add_X4_copyFrom
theorem dX1_add_0 : decode cX1_add 0 = .ok (.aload_n 0, 1) := by decide +kernel
theorem dX1_add_1 : decode cX1_add 1 = .ok (.getfield 9, 3) := by decide +kernel
theorem dX1_add_4 : decode cX1_add 4 = .ok (.iconst 4, 1) := by decide +kernel
theorem dX1_add_5 : decode cX1_add 5 = .ok (.if_icmp .ne 7, 3) := by decide +kernel
theorem dX1_add_8 : decode cX1_add 8 = .ok (.aload_n 0, 1) := by decide +kernel
theorem dX1_add_9 : decode cX1_add 9 = .ok (.invokevirtual 22, 3) := by decide +kernel
theorem dX1_add_12 : decode cX1_add 12 = .ok (.aload_n 0, 1) := by decide +kernel
theorem dX1_add_13 : decode cX1_add 13 = .ok (.getfield 17, 3) := by decide +kernel
theorem dX1_add_16 : decode cX1_add 16 = .ok (.aload_n 0, 1) := by decide +kernel
theorem dX1_add_17 : decode cX1_add 17 = .ok (.getfield 9, 3) := by decide +kernel
theorem dX1_add_20 : decode cX1_add 20 = .ok (.aaload, 1) := by decide +kernel
theorem dX1_add_21 : decode cX1_add 21 = .ok (.aload_n 1, 1) := by decide +kernel
theorem dX1_add_22 : decode cX1_add 22 = .ok (.invokevirtual 25, 3) := by decide +kernel
theorem dX1_add_25 : decode cX1_add 25 = .ok (.aload_n 0, 1) := by decide +kernel
theorem dX1_add_26 : decode cX1_add 26 = .ok (.dup, 1) := by decide +kernel
theorem dX1_add_27 : decode cX1_add 27 = .ok (.getfield 9, 3) := by decide +kernel
theorem dX1_add_30 : decode cX1_add 30 = .ok (.iconst 1, 1) := by decide +kernel
theorem dX1_add_31 : decode cX1_add 31 = .ok (.iadd, 1) := by decide +kernel
theorem dX1_add_32 : decode cX1_add 32 = .ok (.putfield 9, 3) := by decide +kernel
theorem dX1_add_35 : decode cX1_add 35 = .ok (.return_, 1) := by decide +kernel
theorem dX1_dropOldest_0 : decode cX1_dropOldest 0 = .ok (.aload_n 0, 1) := by decide +kernel
theorem dX1_dropOldest_1 : decode cX1_dropOldest 1 = .ok (.getfield 17, 3) := by decide +kernel
theorem dX1_dropOldest_4 : decode cX1_dropOldest 4 = .ok (.iconst 0, 1) := by decide +kernel
theorem dX1_dropOldest_5 : decode cX1_dropOldest 5 = .ok (.aaload, 1) := by decide +kernel
theorem dX1_dropOldest_6 : decode cX1_dropOldest 6 = .ok (.astore_n 1, 1) := by decide +kernel
theorem dX1_dropOldest_7 : decode cX1_dropOldest 7 = .ok (.iconst 1, 1) := by decide +kernel
theorem dX1_dropOldest_8 : decode cX1_dropOldest 8 = .ok (.istore_n 2, 1) := by decide +kernel
theorem dX1_dropOldest_9 : decode cX1_dropOldest 9 = .ok (.iload_n 2, 1) := by decide +kernel
theorem dX1_dropOldest_10 : decode cX1_dropOldest 10 = .ok (.iconst 4, 1) := by decide +kernel
theorem dX1_dropOldest_11 : decode cX1_dropOldest 11 = .ok (.if_icmp .ge 23, 3) := by decide +kernel
theorem dX1_dropOldest_14 : decode cX1_dropOldest 14 = .ok (.aload_n 0, 1) := by decide +kernel
theorem dX1_dropOldest_15 : decode cX1_dropOldest 15 = .ok (.getfield 17, 3) := by decide +kernel
theorem dX1_dropOldest_18 : decode cX1_dropOldest 18 = .ok (.iload_n 2, 1) := by decide +kernel
theorem dX1_dropOldest_19 : decode cX1_dropOldest 19 = .ok (.iconst 1, 1) := by decide +kernel
theorem dX1_dropOldest_20 : decode cX1_dropOldest 20 = .ok (.isub, 1) := by decide +kernel
theorem dX1_dropOldest_21 : decode cX1_dropOldest 21 = .ok (.aload_n 0, 1) := by decide +kernel
theorem dX1_dropOldest_22 : decode cX1_dropOldest 22 = .ok (.getfield 17, 3) := by decide +kernel
theorem dX1_dropOldest_25 : decode cX1_dropOldest 25 = .ok (.iload_n 2, 1) := by decide +kernel
theorem dX1_dropOldest_26 : decode cX1_dropOldest 26 = .ok (.aaload, 1) := by decide +kernel
theorem dX1_dropOldest_27 : decode cX1_dropOldest 27 = .ok (.aastore, 1) := by decide +kernel
theorem dX1_dropOldest_28 : decode cX1_dropOldest 28 = .ok (.iinc 2 1, 3) := by decide +kernel
theorem dX1_dropOldest_31 : decode cX1_dropOldest 31 = .ok (.goto (-22), 3) := by decide +kernel
theorem dX1_dropOldest_34 : decode cX1_dropOldest 34 = .ok (.aload_n 0, 1) := by decide +kernel
theorem dX1_dropOldest_35 : decode cX1_dropOldest 35 = .ok (.getfield 17, 3) := by decide +kernel
theorem dX1_dropOldest_38 : decode cX1_dropOldest 38 = .ok (.iconst 3, 1) := by decide +kernel
theorem dX1_dropOldest_39 : decode cX1_dropOldest 39 = .ok (.aload_n 1, 1) := by decide +kernel
theorem dX1_dropOldest_40 : decode cX1_dropOldest 40 = .ok (.aastore, 1) := by decide +kernel
theorem dX1_dropOldest_41 : decode cX1_dropOldest 41 = .ok (.aload_n 0, 1) := by decide +kernel
theorem dX1_dropOldest_42 : decode cX1_dropOldest 42 = .ok (.dup, 1) := by decide +kernel
theorem dX1_dropOldest_43 : decode cX1_dropOldest 43 = .ok (.getfield 9, 3) := by decide +kernel
theorem dX1_dropOldest_46 : decode cX1_dropOldest 46 = .ok (.iconst 1, 1) := by decide +kernel
theorem dX1_dropOldest_47 : decode cX1_dropOldest 47 = .ok (.isub, 1) := by decide +kernel
theorem dX1_dropOldest_48 : decode cX1_dropOldest 48 = .ok (.putfield 9, 3) := by decide +kernel
theorem dX1_dropOldest_51 : decode cX1_dropOldest 51 = .ok (.return_, 1) := by decide +kernel
set_option maxRecDepth 20000 in
theorem ggX1_takeInto_X4_copyFrom : GoodIn wsX1_takeInto wsX4_copyFrom := goodIn_r _ [7, 8, 9, 10, 11, 12, 13, 14, 15, 16, 17, 18, 19, 20, 21, 22, 23, 24, 25, 26, 27, 28, 29, 30, 31, 32, 33, 34, 35, 36, 37, 38, 39, 40, 41, 42, 43, 44, 45, 46, 47, 48, 49, 50, 51, 52, 53, 54, 55, 56, 57, 58, 59, 62, 63, 64, 65, 66, 67, 68, 69, 70, 71, 72, 73, 74, 75, 76, 77, 78, 79, 80, 81, 82, 83, 84, 85, 86, 87, 88, 89, 90, 91] (by decide +kernel) (by decide +kernel)
set_option maxRecDepth 20000 in
theorem gX1_takeInto_X4_copyFrom : GoodIn wsX1_takeInto (wsV RX1 25 RX4 yX4_copyFrom wsX4_copyFrom) := goodIn_app (goodIn_of _ (by decide +kernel)) ggX1_takeInto_X4_copyFrom
theorem dX1_takeInto_0 : decode cX1_takeInto 0 = .ok (.aload_n 0, 1) := by decide +kernel
theorem dX1_takeInto_1 : decode cX1_takeInto 1 = .ok (.getfield 9, 3) := by decide +kernel
theorem dX1_takeInto_4 : decode cX1_takeInto 4 = .ok (.ifCond .le 26, 3) := by decide +kernel
theorem dX1_takeInto_7 : decode cX1_takeInto 7 = .ok (.aload_n 0, 1) := by decide +kernel
theorem dX1_takeInto_8 : decode cX1_takeInto 8 = .ok (.dup, 1) := by decide +kernel
theorem dX1_takeInto_9 : decode cX1_takeInto 9 = .ok (.getfield 9, 3) := by decide +kernel
theorem dX1_takeInto_12 : decode cX1_takeInto 12 = .ok (.iconst 1, 1) := by decide +kernel
theorem dX1_takeInto_13 : decode cX1_takeInto 13 = .ok (.isub, 1) := by decide +kernel
theorem dX1_takeInto_14 : decode cX1_takeInto 14 = .ok (.putfield 9, 3) := by decide +kernel
theorem dX1_takeInto_17 : decode cX1_takeInto 17 = .ok (.aload_n 1, 1) := by decide +kernel
theorem dX1_takeInto_18 : decode cX1_takeInto 18 = .ok (.aload_n 0, 1) := by decide +kernel
theorem dX1_takeInto_19 : decode cX1_takeInto 19 = .ok (.getfield 17, 3) := by decide +kernel
theorem dX1_takeInto_22 : decode cX1_takeInto 22 = .ok (.aload_n 0, 1) := by decide +kernel
theorem dX1_takeInto_23 : decode cX1_takeInto 23 = .ok (.getfield 9, 3) := by decide +kernel
theorem dX1_takeInto_26 : decode cX1_takeInto 26 = .ok (.aaload, 1) := by decide +kernel
theorem dX1_takeInto_27 : decode cX1_takeInto 27 = .ok (.invokevirtual 25, 3) := by decide +kernel
theorem dX1_takeInto_30 : decode cX1_takeInto 30 = .ok (.return_, 1) := by decide +kernel
theorem dX2_init_0 : decode cX2_init 0 = .ok (.aload_n 0, 1) := by decide +kernel
theorem dX2_init_1 : decode cX2_init 1 = .ok (.invokespecial 3, 3) := by decide +kernel
theorem dX2_init_4 : decode cX2_init 4 = .ok (.aload_n 0, 1) := by decide +kernel
theorem dX2_init_5 : decode cX2_init 5 = .ok (.iconst 0, 1) := by decide +kernel
theorem dX2_init_6 : decode cX2_init 6 = .ok (.putfield 9, 3) := by decide +kernel
theorem dX2_init_9 : decode cX2_init 9 = .ok (.aload_n 0, 1) := by decide +kernel
theorem dX2_init_10 : decode cX2_init 10 = .ok (.iconst 0, 1) := by decide +kernel
theorem dX2_init_11 : decode cX2_init 11 = .ok (.putfield 15, 3) := by decide +kernel
theorem dX2_init_14 : decode cX2_init 14 = .ok (.aload_n 0, 1) := by decide +kernel
theorem dX2_init_15 : decode cX2_init 15 = .ok (.bipush 10, 2) := by decide +kernel
theorem dX2_init_17 : decode cX2_init 17 = .ok (.newarray .int, 2) := by decide +kernel
theorem dX2_init_19 : decode cX2_init 19 = .ok (.putfield 18, 3) := by decide +kernel
theorem dX2_init_22 : decode cX2_init 22 = .ok (.aload_n 0, 1) := by decide +kernel
theorem dX2_init_23 : decode cX2_init 23 = .ok (.bipush 10, 2) := by decide +kernel
theorem dX2_init_25 : decode cX2_init 25 = .ok (.newarray .int, 2) := by decide +kernel
theorem dX2_init_27 : decode cX2_init 27 = .ok (.putfield 22, 3) := by decide +kernel
theorem dX2_init_30 : decode cX2_init 30 = .ok (.aload_n 0, 1) := by decide +kernel
theorem dX2_init_31 : decode cX2_init 31 = .ok (.bipush 10, 2) := by decide +kernel
theorem dX2_init_33 : decode cX2_init 33 = .ok (.newarray .int, 2) := by decide +kernel
theorem dX2_init_35 : decode cX2_init 35 = .ok (.putfield 25, 3) := by decide +kernel
theorem dX2_init_38 : decode cX2_init 38 = .ok (.return_, 1) := by decide +kernel
theorem dX2_add_0 : decode cX2_add 0 = .ok (.aload_n 0, 1) := by decide +kernel
theorem dX2_add_1 : decode cX2_add 1 = .ok (.getfield 18, 3) := by decide +kernel
theorem dX2_add_4 : decode cX2_add 4 = .ok (.aload_n 0, 1) := by decide +kernel
theorem dX2_add_5 : decode cX2_add 5 = .ok (.getfield 15, 3) := by decide +kernel
theorem dX2_add_8 : decode cX2_add 8 = .ok (.iload_n 1, 1) := by decide +kernel
theorem dX2_add_9 : decode cX2_add 9 = .ok (.iastore, 1) := by decide +kernel
theorem dX2_add_10 : decode cX2_add 10 = .ok (.aload_n 0, 1) := by decide +kernel
theorem dX2_add_11 : decode cX2_add 11 = .ok (.getfield 22, 3) := by decide +kernel
theorem dX2_add_14 : decode cX2_add 14 = .ok (.aload_n 0, 1) := by decide +kernel
theorem dX2_add_15 : decode cX2_add 15 = .ok (.getfield 15, 3) := by decide +kernel
theorem dX2_add_18 : decode cX2_add 18 = .ok (.iload_n 2, 1) := by decide +kernel
theorem dX2_add_19 : decode cX2_add 19 = .ok (.iastore, 1) := by decide +kernel
theorem dX2_add_20 : decode cX2_add 20 = .ok (.aload_n 0, 1) := by decide +kernel
theorem dX2_add_21 : decode cX2_add 21 = .ok (.getfield 25, 3) := by decide +kernel
theorem dX2_add_24 : decode cX2_add 24 = .ok (.aload_n 0, 1) := by decide +kernel
theorem dX2_add_25 : decode cX2_add 25 = .ok (.getfield 15, 3) := by decide +kernel
theorem dX2_add_28 : decode cX2_add 28 = .ok (.iload_n 3, 1) := by decide +kernel
theorem dX2_add_29 : decode cX2_add 29 = .ok (.iastore, 1) := by decide +kernel
theorem dX2_add_30 : decode cX2_add 30 = .ok (.aload_n 0, 1) := by decide +kernel
theorem dX2_add_31 : decode cX2_add 31 = .ok (.aload_n 0, 1) := by decide +kernel
theorem dX2_add_32 : decode cX2_add 32 = .ok (.getfield 15, 3) := by decide +kernel
theorem dX2_add_35 : decode cX2_add 35 = .ok (.iconst 1, 1) := by decide +kernel
theorem dX2_add_36 : decode cX2_add 36 = .ok (.iadd, 1) := by decide +kernel
theorem dX2_add_37 : decode cX2_add 37 = .ok (.bipush 10, 2) := by decide +kernel
theorem dX2_add_39 : decode cX2_add 39 = .ok (.irem, 1) := by decide +kernel
theorem dX2_add_40 : decode cX2_add 40 = .ok (.putfield 15, 3) := by decide +kernel
theorem dX2_add_43 : decode cX2_add 43 = .ok (.aload_n 0, 1) := by decide +kernel
theorem dX2_add_44 : decode cX2_add 44 = .ok (.getfield 9, 3) := by decide +kernel
theorem dX2_add_47 : decode cX2_add 47 = .ok (.bipush 10, 2) := by decide +kernel
theorem dX2_add_49 : decode cX2_add 49 = .ok (.if_icmp .ge 13, 3) := by decide +kernel
theorem dX2_add_52 : decode cX2_add 52 = .ok (.aload_n 0, 1) := by decide +kernel
theorem dX2_add_53 : decode cX2_add 53 = .ok (.dup, 1) := by decide +kernel
theorem dX2_add_54 : decode cX2_add 54 = .ok (.getfield 9, 3) := by decide +kernel
theorem dX2_add_57 : decode cX2_add 57 = .ok (.iconst 1, 1) := by decide +kernel
theorem dX2_add_58 : decode cX2_add 58 = .ok (.iadd, 1) := by decide +kernel
theorem dX2_add_59 : decode cX2_add 59 = .ok (.putfield 9, 3) := by decide +kernel
theorem dX2_add_62 : decode cX2_add 62 = .ok (.return_, 1) := by decide +kernel
set_option maxRecDepth 20000 in
theorem ggX2_placeOf_J9_floorMod_7cf53 : GoodIn wsX2_placeOf wsJ9_floorMod_7cf53 := goodIn_r _ [5] (by decide +kernel) (by decide +kernel)
set_option maxRecDepth 20000 in
theorem gX2_placeOf_J9_floorMod_7cf53 : GoodIn wsX2_placeOf (va_wsS RX2 28 yJ9_floorMod_7cf53 wsJ9_floorMod_7cf53) := goodIn_app (goodIn_of _ (by decide +kernel)) ggX2_placeOf_J9_floorMod_7cf53
theorem dX2_placeOf_0 : decode cX2_placeOf 0 = .ok (.aload_n 0, 1) := by decide +kernel
theorem dX2_placeOf_1 : decode cX2_placeOf 1 = .ok (.getfield 15, 3) := by decide +kernel
theorem dX2_placeOf_4 : decode cX2_placeOf 4 = .ok (.iconst 1, 1) := by decide +kernel
theorem dX2_placeOf_5 : decode cX2_placeOf 5 = .ok (.isub, 1) := by decide +kernel
theorem dX2_placeOf_6 : decode cX2_placeOf 6 = .ok (.iload_n 1, 1) := by decide +kernel
theorem dX2_placeOf_7 : decode cX2_placeOf 7 = .ok (.isub, 1) := by decide +kernel
theorem dX2_placeOf_8 : decode cX2_placeOf 8 = .ok (.bipush 10, 2) := by decide +kernel
theorem dX2_placeOf_10 : decode cX2_placeOf 10 = .ok (.invokestatic 28, 3) := by decide +kernel
theorem dX2_placeOf_13 : decode cX2_placeOf 13 = .ok (.ireturn, 1) := by decide +kernel
theorem dX2_copyFrom_0 : decode cX2_copyFrom 0 = .ok (.aload_n 0, 1) := by decide +kernel
theorem dX2_copyFrom_1 : decode cX2_copyFrom 1 = .ok (.aload_n 1, 1) := by decide +kernel
theorem dX2_copyFrom_2 : decode cX2_copyFrom 2 = .ok (.getfield 9, 3) := by decide +kernel
theorem dX2_copyFrom_5 : decode cX2_copyFrom 5 = .ok (.putfield 9, 3) := by decide +kernel
theorem dX2_copyFrom_8 : decode cX2_copyFrom 8 = .ok (.aload_n 0, 1) := by decide +kernel
theorem dX2_copyFrom_9 : decode cX2_copyFrom 9 = .ok (.aload_n 1, 1) := by decide +kernel
theorem dX2_copyFrom_10 : decode cX2_copyFrom 10 = .ok (.getfield 15, 3) := by decide +kernel
theorem dX2_copyFrom_13 : decode cX2_copyFrom 13 = .ok (.putfield 15, 3) := by decide +kernel
theorem dX2_copyFrom_16 : decode cX2_copyFrom 16 = .ok (.aload_n 1, 1) := by decide +kernel
theorem dX2_copyFrom_17 : decode cX2_copyFrom 17 = .ok (.getfield 18, 3) := by decide +kernel
theorem dX2_copyFrom_20 : decode cX2_copyFrom 20 = .ok (.iconst 0, 1) := by decide +kernel
theorem dX2_copyFrom_21 : decode cX2_copyFrom 21 = .ok (.aload_n 0, 1) := by decide +kernel
theorem dX2_copyFrom_22 : decode cX2_copyFrom 22 = .ok (.getfield 18, 3) := by decide +kernel
theorem dX2_copyFrom_25 : decode cX2_copyFrom 25 = .ok (.iconst 0, 1) := by decide +kernel
theorem dX2_copyFrom_26 : decode cX2_copyFrom 26 = .ok (.bipush 10, 2) := by decide +kernel
theorem dX2_copyFrom_28 : decode cX2_copyFrom 28 = .ok (.invokestatic 34, 3) := by decide +kernel
theorem dX2_copyFrom_31 : decode cX2_copyFrom 31 = .ok (.aload_n 1, 1) := by decide +kernel
theorem dX2_copyFrom_32 : decode cX2_copyFrom 32 = .ok (.getfield 22, 3) := by decide +kernel
theorem dX2_copyFrom_35 : decode cX2_copyFrom 35 = .ok (.iconst 0, 1) := by decide +kernel
theorem dX2_copyFrom_36 : decode cX2_copyFrom 36 = .ok (.aload_n 0, 1) := by decide +kernel
theorem dX2_copyFrom_37 : decode cX2_copyFrom 37 = .ok (.getfield 22, 3) := by decide +kernel
theorem dX2_copyFrom_40 : decode cX2_copyFrom 40 = .ok (.iconst 0, 1) := by decide +kernel
theorem dX2_copyFrom_41 : decode cX2_copyFrom 41 = .ok (.bipush 10, 2) := by decide +kernel
theorem dX2_copyFrom_43 : decode cX2_copyFrom 43 = .ok (.invokestatic 34, 3) := by decide +kernel
theorem dX2_copyFrom_46 : decode cX2_copyFrom 46 = .ok (.aload_n 1, 1) := by decide +kernel
theorem dX2_copyFrom_47 : decode cX2_copyFrom 47 = .ok (.getfield 25, 3) := by decide +kernel
theorem dX2_copyFrom_50 : decode cX2_copyFrom 50 = .ok (.iconst 0, 1) := by decide +kernel
theorem dX2_copyFrom_51 : decode cX2_copyFrom 51 = .ok (.aload_n 0, 1) := by decide +kernel
theorem dX2_copyFrom_52 : decode cX2_copyFrom 52 = .ok (.getfield 25, 3) := by decide +kernel
theorem dX2_copyFrom_55 : decode cX2_copyFrom 55 = .ok (.iconst 0, 1) := by decide +kernel
theorem dX2_copyFrom_56 : decode cX2_copyFrom 56 = .ok (.bipush 10, 2) := by decide +kernel
theorem dX2_copyFrom_58 : decode cX2_copyFrom 58 = .ok (.invokestatic 34, 3) := by decide +kernel
theorem dX2_copyFrom_61 : decode cX2_copyFrom 61 = .ok (.return_, 1) := by decide +kernel
theorem dX3_init_0 : decode cX3_init 0 = .ok (.aload_n 0, 1) := by decide +kernel
theorem dX3_init_1 : decode cX3_init 1 = .ok (.invokespecial 3, 3) := by decide +kernel
theorem dX3_init_4 : decode cX3_init 4 = .ok (.aload_n 0, 1) := by decide +kernel
theorem dX3_init_5 : decode cX3_init 5 = .ok (.iconst 0, 1) := by decide +kernel
theorem dX3_init_6 : decode cX3_init 6 = .ok (.putfield 9, 3) := by decide +kernel
theorem dX3_init_9 : decode cX3_init 9 = .ok (.aload_n 0, 1) := by decide +kernel
theorem dX3_init_10 : decode cX3_init 10 = .ok (.iconst 5, 1) := by decide +kernel
theorem dX3_init_11 : decode cX3_init 11 = .ok (.newarray .int, 2) := by decide +kernel
theorem dX3_init_13 : decode cX3_init 13 = .ok (.putfield 15, 3) := by decide +kernel
theorem dX3_init_16 : decode cX3_init 16 = .ok (.aload_n 0, 1) := by decide +kernel
theorem dX3_init_17 : decode cX3_init 17 = .ok (.iconst 5, 1) := by decide +kernel
theorem dX3_init_18 : decode cX3_init 18 = .ok (.newarray .int, 2) := by decide +kernel
theorem dX3_init_20 : decode cX3_init 20 = .ok (.putfield 19, 3) := by decide +kernel
theorem dX3_init_23 : decode cX3_init 23 = .ok (.aload_n 0, 1) := by decide +kernel
theorem dX3_init_24 : decode cX3_init 24 = .ok (.iconst 5, 1) := by decide +kernel
theorem dX3_init_25 : decode cX3_init 25 = .ok (.newarray .int, 2) := by decide +kernel
theorem dX3_init_27 : decode cX3_init 27 = .ok (.putfield 22, 3) := by decide +kernel
theorem dX3_init_30 : decode cX3_init 30 = .ok (.aload_n 0, 1) := by decide +kernel
theorem dX3_init_31 : decode cX3_init 31 = .ok (.iconst 5, 1) := by decide +kernel
theorem dX3_init_32 : decode cX3_init 32 = .ok (.newarray .int, 2) := by decide +kernel
theorem dX3_init_34 : decode cX3_init 34 = .ok (.putfield 25, 3) := by decide +kernel
theorem dX3_init_37 : decode cX3_init 37 = .ok (.return_, 1) := by decide +kernel
theorem dX3_has_0 : decode cX3_has 0 = .ok (.iload_n 1, 1) := by decide +kernel
theorem dX3_has_1 : decode cX3_has 1 = .ok (.ifCond .lt 15, 3) := by decide +kernel
theorem dX3_has_4 : decode cX3_has 4 = .ok (.iload_n 1, 1) := by decide +kernel
theorem dX3_has_5 : decode cX3_has 5 = .ok (.aload_n 0, 1) := by decide +kernel
theorem dX3_has_6 : decode cX3_has 6 = .ok (.getfield 9, 3) := by decide +kernel
theorem dX3_has_9 : decode cX3_has 9 = .ok (.if_icmp .ge 7, 3) := by decide +kernel
theorem dX3_has_12 : decode cX3_has 12 = .ok (.iconst 1, 1) := by decide +kernel
theorem dX3_has_13 : decode cX3_has 13 = .ok (.goto 4, 3) := by decide +kernel
theorem dX3_has_16 : decode cX3_has 16 = .ok (.iconst 0, 1) := by decide +kernel
theorem dX3_has_17 : decode cX3_has 17 = .ok (.ireturn, 1) := by decide +kernel
theorem dX3_addStage_0 : decode cX3_addStage 0 = .ok (.aload_n 0, 1) := by decide +kernel
theorem dX3_addStage_1 : decode cX3_addStage 1 = .ok (.getfield 9, 3) := by decide +kernel
theorem dX3_addStage_4 : decode cX3_addStage 4 = .ok (.iconst 5, 1) := by decide +kernel
theorem dX3_addStage_5 : decode cX3_addStage 5 = .ok (.if_icmp .lt 5, 3) := by decide +kernel
theorem dX3_addStage_8 : decode cX3_addStage 8 = .ok (.iconst 0, 1) := by decide +kernel
theorem dX3_addStage_9 : decode cX3_addStage 9 = .ok (.ireturn, 1) := by decide +kernel
theorem dX3_addStage_10 : decode cX3_addStage 10 = .ok (.aload_n 0, 1) := by decide +kernel
theorem dX3_addStage_11 : decode cX3_addStage 11 = .ok (.getfield 15, 3) := by decide +kernel
theorem dX3_addStage_14 : decode cX3_addStage 14 = .ok (.aload_n 0, 1) := by decide +kernel
theorem dX3_addStage_15 : decode cX3_addStage 15 = .ok (.getfield 9, 3) := by decide +kernel
theorem dX3_addStage_18 : decode cX3_addStage 18 = .ok (.iload_n 1, 1) := by decide +kernel
theorem dX3_addStage_19 : decode cX3_addStage 19 = .ok (.iastore, 1) := by decide +kernel
theorem dX3_addStage_20 : decode cX3_addStage 20 = .ok (.aload_n 0, 1) := by decide +kernel
theorem dX3_addStage_21 : decode cX3_addStage 21 = .ok (.getfield 19, 3) := by decide +kernel
theorem dX3_addStage_24 : decode cX3_addStage 24 = .ok (.aload_n 0, 1) := by decide +kernel
theorem dX3_addStage_25 : decode cX3_addStage 25 = .ok (.getfield 9, 3) := by decide +kernel
theorem dX3_addStage_28 : decode cX3_addStage 28 = .ok (.iconst 0, 1) := by decide +kernel
theorem dX3_addStage_29 : decode cX3_addStage 29 = .ok (.iastore, 1) := by decide +kernel
theorem dX3_addStage_30 : decode cX3_addStage 30 = .ok (.aload_n 0, 1) := by decide +kernel
theorem dX3_addStage_31 : decode cX3_addStage 31 = .ok (.getfield 22, 3) := by decide +kernel
theorem dX3_addStage_34 : decode cX3_addStage 34 = .ok (.aload_n 0, 1) := by decide +kernel
theorem dX3_addStage_35 : decode cX3_addStage 35 = .ok (.getfield 9, 3) := by decide +kernel
theorem dX3_addStage_38 : decode cX3_addStage 38 = .ok (.iconst 0, 1) := by decide +kernel
theorem dX3_addStage_39 : decode cX3_addStage 39 = .ok (.iastore, 1) := by decide +kernel
theorem dX3_addStage_40 : decode cX3_addStage 40 = .ok (.aload_n 0, 1) := by decide +kernel
theorem dX3_addStage_41 : decode cX3_addStage 41 = .ok (.getfield 25, 3) := by decide +kernel
theorem dX3_addStage_44 : decode cX3_addStage 44 = .ok (.aload_n 0, 1) := by decide +kernel
theorem dX3_addStage_45 : decode cX3_addStage 45 = .ok (.getfield 9, 3) := by decide +kernel
theorem dX3_addStage_48 : decode cX3_addStage 48 = .ok (.iconst 0, 1) := by decide +kernel
theorem dX3_addStage_49 : decode cX3_addStage 49 = .ok (.iastore, 1) := by decide +kernel
theorem dX3_addStage_50 : decode cX3_addStage 50 = .ok (.aload_n 0, 1) := by decide +kernel
theorem dX3_addStage_51 : decode cX3_addStage 51 = .ok (.dup, 1) := by decide +kernel
theorem dX3_addStage_52 : decode cX3_addStage 52 = .ok (.getfield 9, 3) := by decide +kernel
theorem dX3_addStage_55 : decode cX3_addStage 55 = .ok (.iconst 1, 1) := by decide +kernel
theorem dX3_addStage_56 : decode cX3_addStage 56 = .ok (.iadd, 1) := by decide +kernel
theorem dX3_addStage_57 : decode cX3_addStage 57 = .ok (.putfield 9, 3) := by decide +kernel
theorem dX3_addStage_60 : decode cX3_addStage 60 = .ok (.iconst 1, 1) := by decide +kernel
theorem dX3_addStage_61 : decode cX3_addStage 61 = .ok (.ireturn, 1) := by decide +kernel
theorem dX3_copyFrom_0 : decode cX3_copyFrom 0 = .ok (.aload_n 0, 1) := by decide +kernel
theorem dX3_copyFrom_1 : decode cX3_copyFrom 1 = .ok (.aload_n 1, 1) := by decide +kernel
theorem dX3_copyFrom_2 : decode cX3_copyFrom 2 = .ok (.getfield 9, 3) := by decide +kernel
theorem dX3_copyFrom_5 : decode cX3_copyFrom 5 = .ok (.putfield 9, 3) := by decide +kernel
theorem dX3_copyFrom_8 : decode cX3_copyFrom 8 = .ok (.aload_n 1, 1) := by decide +kernel
theorem dX3_copyFrom_9 : decode cX3_copyFrom 9 = .ok (.getfield 15, 3) := by decide +kernel
theorem dX3_copyFrom_12 : decode cX3_copyFrom 12 = .ok (.iconst 0, 1) := by decide +kernel
theorem dX3_copyFrom_13 : decode cX3_copyFrom 13 = .ok (.aload_n 0, 1) := by decide +kernel
theorem dX3_copyFrom_14 : decode cX3_copyFrom 14 = .ok (.getfield 15, 3) := by decide +kernel
theorem dX3_copyFrom_17 : decode cX3_copyFrom 17 = .ok (.iconst 0, 1) := by decide +kernel
theorem dX3_copyFrom_18 : decode cX3_copyFrom 18 = .ok (.iconst 5, 1) := by decide +kernel
theorem dX3_copyFrom_19 : decode cX3_copyFrom 19 = .ok (.invokestatic 28, 3) := by decide +kernel
theorem dX3_copyFrom_22 : decode cX3_copyFrom 22 = .ok (.aload_n 1, 1) := by decide +kernel
theorem dX3_copyFrom_23 : decode cX3_copyFrom 23 = .ok (.getfield 19, 3) := by decide +kernel
theorem dX3_copyFrom_26 : decode cX3_copyFrom 26 = .ok (.iconst 0, 1) := by decide +kernel
theorem dX3_copyFrom_27 : decode cX3_copyFrom 27 = .ok (.aload_n 0, 1) := by decide +kernel
theorem dX3_copyFrom_28 : decode cX3_copyFrom 28 = .ok (.getfield 19, 3) := by decide +kernel
theorem dX3_copyFrom_31 : decode cX3_copyFrom 31 = .ok (.iconst 0, 1) := by decide +kernel
theorem dX3_copyFrom_32 : decode cX3_copyFrom 32 = .ok (.iconst 5, 1) := by decide +kernel
theorem dX3_copyFrom_33 : decode cX3_copyFrom 33 = .ok (.invokestatic 28, 3) := by decide +kernel
theorem dX3_copyFrom_36 : decode cX3_copyFrom 36 = .ok (.aload_n 1, 1) := by decide +kernel
theorem dX3_copyFrom_37 : decode cX3_copyFrom 37 = .ok (.getfield 22, 3) := by decide +kernel
theorem dX3_copyFrom_40 : decode cX3_copyFrom 40 = .ok (.iconst 0, 1) := by decide +kernel
theorem dX3_copyFrom_41 : decode cX3_copyFrom 41 = .ok (.aload_n 0, 1) := by decide +kernel
theorem dX3_copyFrom_42 : decode cX3_copyFrom 42 = .ok (.getfield 22, 3) := by decide +kernel
theorem dX3_copyFrom_45 : decode cX3_copyFrom 45 = .ok (.iconst 0, 1) := by decide +kernel
theorem dX3_copyFrom_46 : decode cX3_copyFrom 46 = .ok (.iconst 5, 1) := by decide +kernel
theorem dX3_copyFrom_47 : decode cX3_copyFrom 47 = .ok (.invokestatic 28, 3) := by decide +kernel
theorem dX3_copyFrom_50 : decode cX3_copyFrom 50 = .ok (.aload_n 1, 1) := by decide +kernel
theorem dX3_copyFrom_51 : decode cX3_copyFrom 51 = .ok (.getfield 25, 3) := by decide +kernel
theorem dX3_copyFrom_54 : decode cX3_copyFrom 54 = .ok (.iconst 0, 1) := by decide +kernel
theorem dX3_copyFrom_55 : decode cX3_copyFrom 55 = .ok (.aload_n 0, 1) := by decide +kernel
theorem dX3_copyFrom_56 : decode cX3_copyFrom 56 = .ok (.getfield 25, 3) := by decide +kernel
theorem dX3_copyFrom_59 : decode cX3_copyFrom 59 = .ok (.iconst 0, 1) := by decide +kernel
theorem dX3_copyFrom_60 : decode cX3_copyFrom 60 = .ok (.iconst 5, 1) := by decide +kernel
theorem dX3_copyFrom_61 : decode cX3_copyFrom 61 = .ok (.invokestatic 28, 3) := by decide +kernel
theorem dX3_copyFrom_64 : decode cX3_copyFrom 64 = .ok (.return_, 1) := by decide +kernel
set_option maxRecDepth 20000 in
theorem ggX3_isInRange_X3_hasNumbersInRange : GoodIn wsX3_isInRange wsX3_hasNumbersInRange := goodIn_r _ [7, 8, 9, 10, 11, 12, 13, 14, 15, 16, 17, 18] (by decide +kernel) (by decide +kernel)
set_option maxRecDepth 20000 in
theorem gX3_isInRange_X3_hasNumbersInRange : GoodIn wsX3_isInRange (wsV RX3 34 RX3 yX3_hasNumbersInRange wsX3_hasNumbersInRange) := goodIn_app (goodIn_of _ (by decide +kernel)) ggX3_isInRange_X3_hasNumbersInRange
set_option maxRecDepth 20000 in
theorem ggX3_isInRange_X6_isIn : GoodIn wsX3_isInRange wsX6_isIn := goodIn_r _ [13] (by decide +kernel) (by decide +kernel)
set_option maxRecDepth 20000 in
theorem gX3_isInRange_X6_isIn_n38 : GoodIn wsX3_isInRange (wsX6_isIn) := ggX3_isInRange_X6_isIn
theorem dX3_isInRange_0 : decode cX3_isInRange 0 = .ok (.iconst 0, 1) := by decide +kernel
theorem dX3_isInRange_1 : decode cX3_isInRange 1 = .ok (.istore_n 1, 1) := by decide +kernel
theorem dX3_isInRange_2 : decode cX3_isInRange 2 = .ok (.iload_n 1, 1) := by decide +kernel
theorem dX3_isInRange_3 : decode cX3_isInRange 3 = .ok (.aload_n 0, 1) := by decide +kernel
theorem dX3_isInRange_4 : decode cX3_isInRange 4 = .ok (.getfield 9, 3) := by decide +kernel
theorem dX3_isInRange_7 : decode cX3_isInRange 7 = .ok (.if_icmp .ge 35, 3) := by decide +kernel
theorem dX3_isInRange_10 : decode cX3_isInRange 10 = .ok (.aload_n 0, 1) := by decide +kernel
theorem dX3_isInRange_11 : decode cX3_isInRange 11 = .ok (.iload_n 1, 1) := by decide +kernel
theorem dX3_isInRange_12 : decode cX3_isInRange 12 = .ok (.invokevirtual 34, 3) := by decide +kernel
theorem dX3_isInRange_15 : decode cX3_isInRange 15 = .ok (.ifCond .eq 19, 3) := by decide +kernel
theorem dX3_isInRange_18 : decode cX3_isInRange 18 = .ok (.aload_n 0, 1) := by decide +kernel
theorem dX3_isInRange_19 : decode cX3_isInRange 19 = .ok (.getfield 25, 3) := by decide +kernel
theorem dX3_isInRange_22 : decode cX3_isInRange 22 = .ok (.iload_n 1, 1) := by decide +kernel
theorem dX3_isInRange_23 : decode cX3_isInRange 23 = .ok (.iaload, 1) := by decide +kernel
theorem dX3_isInRange_24 : decode cX3_isInRange 24 = .ok (.iconst 0, 1) := by decide +kernel
theorem dX3_isInRange_25 : decode cX3_isInRange 25 = .ok (.sipush 999, 3) := by decide +kernel
theorem dX3_isInRange_28 : decode cX3_isInRange 28 = .ok (.invokestatic 38, 3) := by decide +kernel
theorem dX3_isInRange_31 : decode cX3_isInRange 31 = .ok (.ifCond .ne 5, 3) := by decide +kernel
theorem dX3_isInRange_34 : decode cX3_isInRange 34 = .ok (.iconst 0, 1) := by decide +kernel
theorem dX3_isInRange_35 : decode cX3_isInRange 35 = .ok (.ireturn, 1) := by decide +kernel
theorem dX3_isInRange_36 : decode cX3_isInRange 36 = .ok (.iinc 1 1, 3) := by decide +kernel
theorem dX3_isInRange_39 : decode cX3_isInRange 39 = .ok (.goto (-37), 3) := by decide +kernel
theorem dX3_isInRange_42 : decode cX3_isInRange 42 = .ok (.iconst 1, 1) := by decide +kernel
theorem dX3_isInRange_43 : decode cX3_isInRange 43 = .ok (.ireturn, 1) := by decide +kernel
set_option maxRecDepth 20000 in
theorem ggX3_hasNumbersInRange_X6_isIn : GoodIn wsX3_hasNumbersInRange wsX6_isIn := goodIn_r _ [6] (by decide +kernel) (by decide +kernel)
set_option maxRecDepth 20000 in
theorem gX3_hasNumbersInRange_X6_isIn_n38 : GoodIn wsX3_hasNumbersInRange (wsX6_isIn) := ggX3_hasNumbersInRange_X6_isIn
theorem dX3_hasNumbersInRange_0 : decode cX3_hasNumbersInRange 0 = .ok (.aload_n 0, 1) := by decide +kernel
theorem dX3_hasNumbersInRange_1 : decode cX3_hasNumbersInRange 1 = .ok (.getfield 15, 3) := by decide +kernel
theorem dX3_hasNumbersInRange_4 : decode cX3_hasNumbersInRange 4 = .ok (.iload_n 1, 1) := by decide +kernel
theorem dX3_hasNumbersInRange_5 : decode cX3_hasNumbersInRange 5 = .ok (.iaload, 1) := by decide +kernel
theorem dX3_hasNumbersInRange_6 : decode cX3_hasNumbersInRange 6 = .ok (.lookupswitch 106 #[(0, 26), (1, 66)], 26) := by decide +kernel
theorem dX3_hasNumbersInRange_32 : decode cX3_hasNumbersInRange 32 = .ok (.aload_n 0, 1) := by decide +kernel
theorem dX3_hasNumbersInRange_33 : decode cX3_hasNumbersInRange 33 = .ok (.getfield 19, 3) := by decide +kernel
theorem dX3_hasNumbersInRange_36 : decode cX3_hasNumbersInRange 36 = .ok (.iload_n 1, 1) := by decide +kernel
theorem dX3_hasNumbersInRange_37 : decode cX3_hasNumbersInRange 37 = .ok (.iaload, 1) := by decide +kernel
theorem dX3_hasNumbersInRange_38 : decode cX3_hasNumbersInRange 38 = .ok (.iconst 1, 1) := by decide +kernel
theorem dX3_hasNumbersInRange_39 : decode cX3_hasNumbersInRange 39 = .ok (.sipush 2000, 3) := by decide +kernel
theorem dX3_hasNumbersInRange_42 : decode cX3_hasNumbersInRange 42 = .ok (.invokestatic 38, 3) := by decide +kernel
theorem dX3_hasNumbersInRange_45 : decode cX3_hasNumbersInRange 45 = .ok (.ifCond .eq 25, 3) := by decide +kernel
theorem dX3_hasNumbersInRange_48 : decode cX3_hasNumbersInRange 48 = .ok (.aload_n 0, 1) := by decide +kernel
theorem dX3_hasNumbersInRange_49 : decode cX3_hasNumbersInRange 49 = .ok (.getfield 22, 3) := by decide +kernel
theorem dX3_hasNumbersInRange_52 : decode cX3_hasNumbersInRange 52 = .ok (.iload_n 1, 1) := by decide +kernel
theorem dX3_hasNumbersInRange_53 : decode cX3_hasNumbersInRange 53 = .ok (.iaload, 1) := by decide +kernel
theorem dX3_hasNumbersInRange_54 : decode cX3_hasNumbersInRange 54 = .ok (.sipush 3000, 3) := by decide +kernel
theorem dX3_hasNumbersInRange_57 : decode cX3_hasNumbersInRange 57 = .ok (.sipush 4500, 3) := by decide +kernel
theorem dX3_hasNumbersInRange_60 : decode cX3_hasNumbersInRange 60 = .ok (.invokestatic 38, 3) := by decide +kernel
theorem dX3_hasNumbersInRange_63 : decode cX3_hasNumbersInRange 63 = .ok (.ifCond .eq 7, 3) := by decide +kernel
theorem dX3_hasNumbersInRange_66 : decode cX3_hasNumbersInRange 66 = .ok (.iconst 1, 1) := by decide +kernel
theorem dX3_hasNumbersInRange_67 : decode cX3_hasNumbersInRange 67 = .ok (.goto 4, 3) := by decide +kernel
theorem dX3_hasNumbersInRange_70 : decode cX3_hasNumbersInRange 70 = .ok (.iconst 0, 1) := by decide +kernel
theorem dX3_hasNumbersInRange_71 : decode cX3_hasNumbersInRange 71 = .ok (.ireturn, 1) := by decide +kernel
theorem dX3_hasNumbersInRange_72 : decode cX3_hasNumbersInRange 72 = .ok (.aload_n 0, 1) := by decide +kernel
theorem dX3_hasNumbersInRange_73 : decode cX3_hasNumbersInRange 73 = .ok (.getfield 19, 3) := by decide +kernel
theorem dX3_hasNumbersInRange_76 : decode cX3_hasNumbersInRange 76 = .ok (.iload_n 1, 1) := by decide +kernel
theorem dX3_hasNumbersInRange_77 : decode cX3_hasNumbersInRange 77 = .ok (.iaload, 1) := by decide +kernel
theorem dX3_hasNumbersInRange_78 : decode cX3_hasNumbersInRange 78 = .ok (.sipush 3000, 3) := by decide +kernel
theorem dX3_hasNumbersInRange_81 : decode cX3_hasNumbersInRange 81 = .ok (.sipush 4500, 3) := by decide +kernel
theorem dX3_hasNumbersInRange_84 : decode cX3_hasNumbersInRange 84 = .ok (.invokestatic 38, 3) := by decide +kernel
theorem dX3_hasNumbersInRange_87 : decode cX3_hasNumbersInRange 87 = .ok (.ifCond .eq 23, 3) := by decide +kernel
theorem dX3_hasNumbersInRange_90 : decode cX3_hasNumbersInRange 90 = .ok (.aload_n 0, 1) := by decide +kernel
theorem dX3_hasNumbersInRange_91 : decode cX3_hasNumbersInRange 91 = .ok (.getfield 22, 3) := by decide +kernel
theorem dX3_hasNumbersInRange_94 : decode cX3_hasNumbersInRange 94 = .ok (.iload_n 1, 1) := by decide +kernel
theorem dX3_hasNumbersInRange_95 : decode cX3_hasNumbersInRange 95 = .ok (.iaload, 1) := by decide +kernel
theorem dX3_hasNumbersInRange_96 : decode cX3_hasNumbersInRange 96 = .ok (.iconst 0, 1) := by decide +kernel
theorem dX3_hasNumbersInRange_97 : decode cX3_hasNumbersInRange 97 = .ok (.sipush 2000, 3) := by decide +kernel
theorem dX3_hasNumbersInRange_100 : decode cX3_hasNumbersInRange 100 = .ok (.invokestatic 38, 3) := by decide +kernel
theorem dX3_hasNumbersInRange_103 : decode cX3_hasNumbersInRange 103 = .ok (.ifCond .eq 7, 3) := by decide +kernel
theorem dX3_hasNumbersInRange_106 : decode cX3_hasNumbersInRange 106 = .ok (.iconst 1, 1) := by decide +kernel
theorem dX3_hasNumbersInRange_107 : decode cX3_hasNumbersInRange 107 = .ok (.goto 4, 3) := by decide +kernel
theorem dX3_hasNumbersInRange_110 : decode cX3_hasNumbersInRange 110 = .ok (.iconst 0, 1) := by decide +kernel
theorem dX3_hasNumbersInRange_111 : decode cX3_hasNumbersInRange 111 = .ok (.ireturn, 1) := by decide +kernel
theorem dX3_hasNumbersInRange_112 : decode cX3_hasNumbersInRange 112 = .ok (.aload_n 0, 1) := by decide +kernel
theorem dX3_hasNumbersInRange_113 : decode cX3_hasNumbersInRange 113 = .ok (.getfield 19, 3) := by decide +kernel
theorem dX3_hasNumbersInRange_116 : decode cX3_hasNumbersInRange 116 = .ok (.iload_n 1, 1) := by decide +kernel
theorem dX3_hasNumbersInRange_117 : decode cX3_hasNumbersInRange 117 = .ok (.iaload, 1) := by decide +kernel
theorem dX3_hasNumbersInRange_118 : decode cX3_hasNumbersInRange 118 = .ok (.iconst 1, 1) := by decide +kernel
theorem dX3_hasNumbersInRange_119 : decode cX3_hasNumbersInRange 119 = .ok (.sipush 999, 3) := by decide +kernel
theorem dX3_hasNumbersInRange_122 : decode cX3_hasNumbersInRange 122 = .ok (.invokestatic 38, 3) := by decide +kernel
theorem dX3_hasNumbersInRange_125 : decode cX3_hasNumbersInRange 125 = .ok (.ireturn, 1) := by decide +kernel
theorem dX3_limitOf_0 : decode cX3_limitOf 0 = .ok (.aload_n 0, 1) := by decide +kernel
theorem dX3_limitOf_1 : decode cX3_limitOf 1 = .ok (.getfield 15, 3) := by decide +kernel
theorem dX3_limitOf_4 : decode cX3_limitOf 4 = .ok (.iload_n 1, 1) := by decide +kernel
theorem dX3_limitOf_5 : decode cX3_limitOf 5 = .ok (.iaload, 1) := by decide +kernel
theorem dX3_limitOf_6 : decode cX3_limitOf 6 = .ok (.iconst 1, 1) := by decide +kernel
theorem dX3_limitOf_7 : decode cX3_limitOf 7 = .ok (.if_icmp .ne 12, 3) := by decide +kernel
theorem dX3_limitOf_10 : decode cX3_limitOf 10 = .ok (.aload_n 0, 1) := by decide +kernel
theorem dX3_limitOf_11 : decode cX3_limitOf 11 = .ok (.getfield 19, 3) := by decide +kernel
theorem dX3_limitOf_14 : decode cX3_limitOf 14 = .ok (.iload_n 1, 1) := by decide +kernel
theorem dX3_limitOf_15 : decode cX3_limitOf 15 = .ok (.iaload, 1) := by decide +kernel
theorem dX3_limitOf_16 : decode cX3_limitOf 16 = .ok (.goto 9, 3) := by decide +kernel
theorem dX3_limitOf_19 : decode cX3_limitOf 19 = .ok (.aload_n 0, 1) := by decide +kernel
theorem dX3_limitOf_20 : decode cX3_limitOf 20 = .ok (.getfield 22, 3) := by decide +kernel
theorem dX3_limitOf_23 : decode cX3_limitOf 23 = .ok (.iload_n 1, 1) := by decide +kernel
theorem dX3_limitOf_24 : decode cX3_limitOf 24 = .ok (.iaload, 1) := by decide +kernel
theorem dX3_limitOf_25 : decode cX3_limitOf 25 = .ok (.ireturn, 1) := by decide +kernel
set_option maxRecDepth 20000 in
theorem ggX4_init_X0_init : GoodIn wsX4_init wsX0_init := goodIn_r _ [27, 28, 2, 3, 29, 4, 30, 31, 32, 33, 34, 35, 36, 65, 66, 67, 68, 69, 70, 71, 72] (by decide +kernel) (by decide +kernel)
set_option maxRecDepth 20000 in
theorem gX4_init_X0_init_n17 : GoodIn wsX4_init (wsX0_init) := ggX4_init_X0_init
set_option maxRecDepth 20000 in
theorem ggX4_init_X3_init : GoodIn wsX4_init wsX3_init := goodIn_r _ [38, 39, 2, 3, 40, 4, 41, 42, 43, 44, 73, 74, 75, 76, 77] (by decide +kernel) (by decide +kernel)
set_option maxRecDepth 20000 in
theorem gX4_init_X3_init_n24 : GoodIn wsX4_init (wsX3_init) := ggX4_init_X3_init
set_option maxRecDepth 20000 in
theorem ggX4_init_X2_init : GoodIn wsX4_init wsX2_init := goodIn_r _ [46, 47, 2, 3, 48, 49, 4, 50, 51, 52, 78, 79, 80, 81, 82] (by decide +kernel) (by decide +kernel)
set_option maxRecDepth 20000 in
theorem gX4_init_X2_init_n31 : GoodIn wsX4_init (wsX2_init) := ggX4_init_X2_init
theorem dX4_init_0 : decode cX4_init 0 = .ok (.aload_n 0, 1) := by decide +kernel
theorem dX4_init_1 : decode cX4_init 1 = .ok (.invokespecial 3, 3) := by decide +kernel
theorem dX4_init_4 : decode cX4_init 4 = .ok (.aload_n 0, 1) := by decide +kernel
theorem dX4_init_5 : decode cX4_init 5 = .ok (.bipush 9, 2) := by decide +kernel
theorem dX4_init_7 : decode cX4_init 7 = .ok (.newarray .int, 2) := by decide +kernel
theorem dX4_init_9 : decode cX4_init 9 = .ok (.putfield 9, 3) := by decide +kernel
theorem dX4_init_12 : decode cX4_init 12 = .ok (.aload_n 0, 1) := by decide +kernel
theorem dX4_init_13 : decode cX4_init 13 = .ok (.new 15, 3) := by decide +kernel
theorem dX4_init_16 : decode cX4_init 16 = .ok (.dup, 1) := by decide +kernel
theorem dX4_init_17 : decode cX4_init 17 = .ok (.invokespecial 17, 3) := by decide +kernel
theorem dX4_init_20 : decode cX4_init 20 = .ok (.putfield 18, 3) := by decide +kernel
theorem dX4_init_23 : decode cX4_init 23 = .ok (.aload_n 0, 1) := by decide +kernel
theorem dX4_init_24 : decode cX4_init 24 = .ok (.new 22, 3) := by decide +kernel
theorem dX4_init_27 : decode cX4_init 27 = .ok (.dup, 1) := by decide +kernel
theorem dX4_init_28 : decode cX4_init 28 = .ok (.invokespecial 24, 3) := by decide +kernel
theorem dX4_init_31 : decode cX4_init 31 = .ok (.putfield 25, 3) := by decide +kernel
theorem dX4_init_34 : decode cX4_init 34 = .ok (.aload_n 0, 1) := by decide +kernel
theorem dX4_init_35 : decode cX4_init 35 = .ok (.new 29, 3) := by decide +kernel
theorem dX4_init_38 : decode cX4_init 38 = .ok (.dup, 1) := by decide +kernel
theorem dX4_init_39 : decode cX4_init 39 = .ok (.invokespecial 31, 3) := by decide +kernel
theorem dX4_init_42 : decode cX4_init 42 = .ok (.putfield 32, 3) := by decide +kernel
theorem dX4_init_45 : decode cX4_init 45 = .ok (.aload_n 0, 1) := by decide +kernel
theorem dX4_init_46 : decode cX4_init 46 = .ok (.iconst 0, 1) := by decide +kernel
theorem dX4_init_47 : decode cX4_init 47 = .ok (.putfield 36, 3) := by decide +kernel
theorem dX4_init_50 : decode cX4_init 50 = .ok (.aload_n 0, 1) := by decide +kernel
theorem dX4_init_51 : decode cX4_init 51 = .ok (.iconst 0, 1) := by decide +kernel
theorem dX4_init_52 : decode cX4_init 52 = .ok (.putfield 40, 3) := by decide +kernel
theorem dX4_init_55 : decode cX4_init 55 = .ok (.aload_n 0, 1) := by decide +kernel
theorem dX4_init_56 : decode cX4_init 56 = .ok (.iconst 0, 1) := by decide +kernel
theorem dX4_init_57 : decode cX4_init 57 = .ok (.putfield 43, 3) := by decide +kernel
theorem dX4_init_60 : decode cX4_init 60 = .ok (.aload_n 0, 1) := by decide +kernel
theorem dX4_init_61 : decode cX4_init 61 = .ok (.iconst 0, 1) := by decide +kernel
theorem dX4_init_62 : decode cX4_init 62 = .ok (.putfield 46, 3) := by decide +kernel
theorem dX4_init_65 : decode cX4_init 65 = .ok (.aload_n 0, 1) := by decide +kernel
theorem dX4_init_66 : decode cX4_init 66 = .ok (.iconst 0, 1) := by decide +kernel
theorem dX4_init_67 : decode cX4_init 67 = .ok (.putfield 49, 3) := by decide +kernel
theorem dX4_init_70 : decode cX4_init 70 = .ok (.aload_n 0, 1) := by decide +kernel
theorem dX4_init_71 : decode cX4_init 71 = .ok (.iconst 0, 1) := by decide +kernel
theorem dX4_init_72 : decode cX4_init 72 = .ok (.putfield 52, 3) := by decide +kernel
theorem dX4_init_75 : decode cX4_init 75 = .ok (.aload_n 0, 1) := by decide +kernel
theorem dX4_init_76 : decode cX4_init 76 = .ok (.iconst 0, 1) := by decide +kernel
theorem dX4_init_77 : decode cX4_init 77 = .ok (.putfield 56, 3) := by decide +kernel
theorem dX4_init_80 : decode cX4_init 80 = .ok (.aload_n 0, 1) := by decide +kernel
theorem dX4_init_81 : decode cX4_init 81 = .ok (.iconst 0, 1) := by decide +kernel
theorem dX4_init_82 : decode cX4_init 82 = .ok (.putfield 59, 3) := by decide +kernel
theorem dX4_init_85 : decode cX4_init 85 = .ok (.return_, 1) := by decide +kernel
theorem dX4_setUp_0 : decode cX4_setUp 0 = .ok (.getstatic 62, 3) := by decide +kernel
theorem dX4_setUp_3 : decode cX4_setUp 3 = .ok (.iconst 0, 1) := by decide +kernel
theorem dX4_setUp_4 : decode cX4_setUp 4 = .ok (.aload_n 0, 1) := by decide +kernel
theorem dX4_setUp_5 : decode cX4_setUp 5 = .ok (.getfield 9, 3) := by decide +kernel
theorem dX4_setUp_8 : decode cX4_setUp 8 = .ok (.iconst 0, 1) := by decide +kernel
theorem dX4_setUp_9 : decode cX4_setUp 9 = .ok (.bipush 9, 2) := by decide +kernel
theorem dX4_setUp_11 : decode cX4_setUp 11 = .ok (.invokestatic 65, 3) := by decide +kernel
theorem dX4_setUp_14 : decode cX4_setUp 14 = .ok (.return_, 1) := by decide +kernel
set_option maxRecDepth 20000 in
theorem ggX4_copyFrom_X0_copyFrom : GoodIn wsX4_copyFrom wsX0_copyFrom := goodIn_r _ [21, 22, 23, 24, 3, 4, 5, 25, 26, 27, 28, 29, 30, 65, 66, 67, 68, 69, 70, 71, 72] (by decide +kernel) (by decide +kernel)
set_option maxRecDepth 20000 in
theorem gX4_copyFrom_X0_copyFrom : GoodIn wsX4_copyFrom (wsV RX4 71 RX0 yX0_copyFrom wsX0_copyFrom) := goodIn_app (goodIn_of _ (by decide +kernel)) ggX4_copyFrom_X0_copyFrom
set_option maxRecDepth 20000 in
theorem ggX4_copyFrom_X3_copyFrom : GoodIn wsX4_copyFrom wsX3_copyFrom := goodIn_r _ [35, 36, 37, 38, 3, 4, 5, 39, 40, 41, 73, 74, 75, 76, 77] (by decide +kernel) (by decide +kernel)
set_option maxRecDepth 20000 in
theorem gX4_copyFrom_X3_copyFrom : GoodIn wsX4_copyFrom (wsV RX4 75 RX3 yX3_copyFrom wsX3_copyFrom) := goodIn_app (goodIn_of _ (by decide +kernel)) ggX4_copyFrom_X3_copyFrom
set_option maxRecDepth 20000 in
theorem ggX4_copyFrom_X2_copyFrom : GoodIn wsX4_copyFrom wsX2_copyFrom := goodIn_r _ [46, 47, 48, 49, 50, 3, 4, 5, 51, 52, 78, 79, 80, 81, 82] (by decide +kernel) (by decide +kernel)
set_option maxRecDepth 20000 in
theorem gX4_copyFrom_X2_copyFrom : GoodIn wsX4_copyFrom (wsV RX4 78 RX2 yX2_copyFrom wsX2_copyFrom) := goodIn_app (goodIn_of _ (by decide +kernel)) ggX4_copyFrom_X2_copyFrom
theorem dX4_copyFrom_0 : decode cX4_copyFrom 0 = .ok (.aload_n 1, 1) := by decide +kernel
theorem dX4_copyFrom_1 : decode cX4_copyFrom 1 = .ok (.getfield 9, 3) := by decide +kernel
theorem dX4_copyFrom_4 : decode cX4_copyFrom 4 = .ok (.iconst 0, 1) := by decide +kernel
theorem dX4_copyFrom_5 : decode cX4_copyFrom 5 = .ok (.aload_n 0, 1) := by decide +kernel
theorem dX4_copyFrom_6 : decode cX4_copyFrom 6 = .ok (.getfield 9, 3) := by decide +kernel
theorem dX4_copyFrom_9 : decode cX4_copyFrom 9 = .ok (.iconst 0, 1) := by decide +kernel
theorem dX4_copyFrom_10 : decode cX4_copyFrom 10 = .ok (.bipush 9, 2) := by decide +kernel
theorem dX4_copyFrom_12 : decode cX4_copyFrom 12 = .ok (.invokestatic 65, 3) := by decide +kernel
theorem dX4_copyFrom_15 : decode cX4_copyFrom 15 = .ok (.aload_n 0, 1) := by decide +kernel
theorem dX4_copyFrom_16 : decode cX4_copyFrom 16 = .ok (.getfield 18, 3) := by decide +kernel
theorem dX4_copyFrom_19 : decode cX4_copyFrom 19 = .ok (.aload_n 1, 1) := by decide +kernel
theorem dX4_copyFrom_20 : decode cX4_copyFrom 20 = .ok (.getfield 18, 3) := by decide +kernel
theorem dX4_copyFrom_23 : decode cX4_copyFrom 23 = .ok (.invokevirtual 71, 3) := by decide +kernel
theorem dX4_copyFrom_26 : decode cX4_copyFrom 26 = .ok (.aload_n 0, 1) := by decide +kernel
theorem dX4_copyFrom_27 : decode cX4_copyFrom 27 = .ok (.getfield 25, 3) := by decide +kernel
theorem dX4_copyFrom_30 : decode cX4_copyFrom 30 = .ok (.aload_n 1, 1) := by decide +kernel
theorem dX4_copyFrom_31 : decode cX4_copyFrom 31 = .ok (.getfield 25, 3) := by decide +kernel
theorem dX4_copyFrom_34 : decode cX4_copyFrom 34 = .ok (.invokevirtual 75, 3) := by decide +kernel
theorem dX4_copyFrom_37 : decode cX4_copyFrom 37 = .ok (.aload_n 0, 1) := by decide +kernel
theorem dX4_copyFrom_38 : decode cX4_copyFrom 38 = .ok (.getfield 32, 3) := by decide +kernel
theorem dX4_copyFrom_41 : decode cX4_copyFrom 41 = .ok (.aload_n 1, 1) := by decide +kernel
theorem dX4_copyFrom_42 : decode cX4_copyFrom 42 = .ok (.getfield 32, 3) := by decide +kernel
theorem dX4_copyFrom_45 : decode cX4_copyFrom 45 = .ok (.invokevirtual 78, 3) := by decide +kernel
theorem dX4_copyFrom_48 : decode cX4_copyFrom 48 = .ok (.aload_n 0, 1) := by decide +kernel
theorem dX4_copyFrom_49 : decode cX4_copyFrom 49 = .ok (.aload_n 1, 1) := by decide +kernel
theorem dX4_copyFrom_50 : decode cX4_copyFrom 50 = .ok (.getfield 36, 3) := by decide +kernel
theorem dX4_copyFrom_53 : decode cX4_copyFrom 53 = .ok (.putfield 36, 3) := by decide +kernel
theorem dX4_copyFrom_56 : decode cX4_copyFrom 56 = .ok (.aload_n 0, 1) := by decide +kernel
theorem dX4_copyFrom_57 : decode cX4_copyFrom 57 = .ok (.aload_n 1, 1) := by decide +kernel
theorem dX4_copyFrom_58 : decode cX4_copyFrom 58 = .ok (.getfield 40, 3) := by decide +kernel
theorem dX4_copyFrom_61 : decode cX4_copyFrom 61 = .ok (.putfield 40, 3) := by decide +kernel
theorem dX4_copyFrom_64 : decode cX4_copyFrom 64 = .ok (.aload_n 0, 1) := by decide +kernel
theorem dX4_copyFrom_65 : decode cX4_copyFrom 65 = .ok (.aload_n 1, 1) := by decide +kernel
theorem dX4_copyFrom_66 : decode cX4_copyFrom 66 = .ok (.getfield 43, 3) := by decide +kernel
theorem dX4_copyFrom_69 : decode cX4_copyFrom 69 = .ok (.putfield 43, 3) := by decide +kernel
theorem dX4_copyFrom_72 : decode cX4_copyFrom 72 = .ok (.aload_n 0, 1) := by decide +kernel
theorem dX4_copyFrom_73 : decode cX4_copyFrom 73 = .ok (.aload_n 1, 1) := by decide +kernel
theorem dX4_copyFrom_74 : decode cX4_copyFrom 74 = .ok (.getfield 46, 3) := by decide +kernel
theorem dX4_copyFrom_77 : decode cX4_copyFrom 77 = .ok (.putfield 46, 3) := by decide +kernel
theorem dX4_copyFrom_80 : decode cX4_copyFrom 80 = .ok (.aload_n 0, 1) := by decide +kernel
theorem dX4_copyFrom_81 : decode cX4_copyFrom 81 = .ok (.aload_n 1, 1) := by decide +kernel
theorem dX4_copyFrom_82 : decode cX4_copyFrom 82 = .ok (.getfield 49, 3) := by decide +kernel
theorem dX4_copyFrom_85 : decode cX4_copyFrom 85 = .ok (.putfield 49, 3) := by decide +kernel
theorem dX4_copyFrom_88 : decode cX4_copyFrom 88 = .ok (.aload_n 0, 1) := by decide +kernel
theorem dX4_copyFrom_89 : decode cX4_copyFrom 89 = .ok (.aload_n 1, 1) := by decide +kernel
theorem dX4_copyFrom_90 : decode cX4_copyFrom 90 = .ok (.getfield 52, 3) := by decide +kernel
theorem dX4_copyFrom_93 : decode cX4_copyFrom 93 = .ok (.putfield 52, 3) := by decide +kernel
theorem dX4_copyFrom_96 : decode cX4_copyFrom 96 = .ok (.aload_n 0, 1) := by decide +kernel
theorem dX4_copyFrom_97 : decode cX4_copyFrom 97 = .ok (.aload_n 1, 1) := by decide +kernel
theorem dX4_copyFrom_98 : decode cX4_copyFrom 98 = .ok (.getfield 56, 3) := by decide +kernel
theorem dX4_copyFrom_101 : decode cX4_copyFrom 101 = .ok (.putfield 56, 3) := by decide +kernel
theorem dX4_copyFrom_104 : decode cX4_copyFrom 104 = .ok (.aload_n 0, 1) := by decide +kernel
theorem dX4_copyFrom_105 : decode cX4_copyFrom 105 = .ok (.aload_n 1, 1) := by decide +kernel
theorem dX4_copyFrom_106 : decode cX4_copyFrom 106 = .ok (.getfield 59, 3) := by decide +kernel
theorem dX4_copyFrom_109 : decode cX4_copyFrom 109 = .ok (.putfield 59, 3) := by decide +kernel
theorem dX4_copyFrom_112 : decode cX4_copyFrom 112 = .ok (.return_, 1) := by decide +kernel
set_option maxRecDepth 20000 in
theorem ggX4_allows_X0_greatestCharge : GoodIn wsX4_allows wsX0_greatestCharge := goodIn_r _ [7, 8, 9, 10, 11, 12, 13, 26, 27, 28, 29, 30, 31, 32, 33] (by decide +kernel) (by decide +kernel)
set_option maxRecDepth 20000 in
theorem gX4_allows_X0_greatestCharge : GoodIn wsX4_allows (wsV RX4 81 RX0 yX0_greatestCharge wsX0_greatestCharge) := goodIn_app (goodIn_of _ (by decide +kernel)) ggX4_allows_X0_greatestCharge
theorem dX4_allows_0 : decode cX4_allows 0 = .ok (.iload_n 1, 1) := by decide +kernel
theorem dX4_allows_1 : decode cX4_allows 1 = .ok (.lookupswitch 85 #[(0, 35), (5, 52), (6, 69)], 35) := by decide +kernel
theorem dX4_allows_36 : decode cX4_allows 36 = .ok (.iload_n 2, 1) := by decide +kernel
theorem dX4_allows_37 : decode cX4_allows 37 = .ok (.aload_n 0, 1) := by decide +kernel
theorem dX4_allows_38 : decode cX4_allows 38 = .ok (.getfield 18, 3) := by decide +kernel
theorem dX4_allows_41 : decode cX4_allows 41 = .ok (.invokevirtual 81, 3) := by decide +kernel
theorem dX4_allows_44 : decode cX4_allows 44 = .ok (.if_icmp .lt 7, 3) := by decide +kernel
theorem dX4_allows_47 : decode cX4_allows 47 = .ok (.iconst 1, 1) := by decide +kernel
theorem dX4_allows_48 : decode cX4_allows 48 = .ok (.goto 4, 3) := by decide +kernel
theorem dX4_allows_51 : decode cX4_allows 51 = .ok (.iconst 0, 1) := by decide +kernel
theorem dX4_allows_52 : decode cX4_allows 52 = .ok (.ireturn, 1) := by decide +kernel
theorem dX4_allows_53 : decode cX4_allows 53 = .ok (.iload_n 2, 1) := by decide +kernel
theorem dX4_allows_54 : decode cX4_allows 54 = .ok (.aload_n 0, 1) := by decide +kernel
theorem dX4_allows_55 : decode cX4_allows 55 = .ok (.getfield 9, 3) := by decide +kernel
theorem dX4_allows_58 : decode cX4_allows 58 = .ok (.bipush 6, 2) := by decide +kernel
theorem dX4_allows_60 : decode cX4_allows 60 = .ok (.iaload, 1) := by decide +kernel
theorem dX4_allows_61 : decode cX4_allows 61 = .ok (.if_icmp .gt 7, 3) := by decide +kernel
theorem dX4_allows_64 : decode cX4_allows 64 = .ok (.iconst 1, 1) := by decide +kernel
theorem dX4_allows_65 : decode cX4_allows 65 = .ok (.goto 4, 3) := by decide +kernel
theorem dX4_allows_68 : decode cX4_allows 68 = .ok (.iconst 0, 1) := by decide +kernel
theorem dX4_allows_69 : decode cX4_allows 69 = .ok (.ireturn, 1) := by decide +kernel
theorem dX4_allows_70 : decode cX4_allows 70 = .ok (.iload_n 2, 1) := by decide +kernel
theorem dX4_allows_71 : decode cX4_allows 71 = .ok (.aload_n 0, 1) := by decide +kernel
theorem dX4_allows_72 : decode cX4_allows 72 = .ok (.getfield 9, 3) := by decide +kernel
theorem dX4_allows_75 : decode cX4_allows 75 = .ok (.iconst 5, 1) := by decide +kernel
theorem dX4_allows_76 : decode cX4_allows 76 = .ok (.iaload, 1) := by decide +kernel
theorem dX4_allows_77 : decode cX4_allows 77 = .ok (.if_icmp .lt 7, 3) := by decide +kernel
theorem dX4_allows_80 : decode cX4_allows 80 = .ok (.iconst 1, 1) := by decide +kernel
theorem dX4_allows_81 : decode cX4_allows 81 = .ok (.goto 4, 3) := by decide +kernel
theorem dX4_allows_84 : decode cX4_allows 84 = .ok (.iconst 0, 1) := by decide +kernel
theorem dX4_allows_85 : decode cX4_allows 85 = .ok (.ireturn, 1) := by decide +kernel
theorem dX4_allows_86 : decode cX4_allows 86 = .ok (.iconst 1, 1) := by decide +kernel
theorem dX4_allows_87 : decode cX4_allows 87 = .ok (.ireturn, 1) := by decide +kernel
set_option maxRecDepth 20000 in
theorem ggX4_isPaused_X6_isIn : GoodIn wsX4_isPaused wsX6_isIn := goodIn_r _ [5] (by decide +kernel) (by decide +kernel)
set_option maxRecDepth 20000 in
theorem gX4_isPaused_X6_isIn_n85 : GoodIn wsX4_isPaused (wsX6_isIn) := ggX4_isPaused_X6_isIn
theorem dX4_isPaused_0 : decode cX4_isPaused 0 = .ok (.aload_n 0, 1) := by decide +kernel
theorem dX4_isPaused_1 : decode cX4_isPaused 1 = .ok (.getfield 36, 3) := by decide +kernel
theorem dX4_isPaused_4 : decode cX4_isPaused 4 = .ok (.iconst 1, 1) := by decide +kernel
theorem dX4_isPaused_5 : decode cX4_isPaused 5 = .ok (.if_icmp .ne 32, 3) := by decide +kernel
theorem dX4_isPaused_8 : decode cX4_isPaused 8 = .ok (.aload_n 0, 1) := by decide +kernel
theorem dX4_isPaused_9 : decode cX4_isPaused 9 = .ok (.getfield 9, 3) := by decide +kernel
theorem dX4_isPaused_12 : decode cX4_isPaused 12 = .ok (.iconst 3, 1) := by decide +kernel
theorem dX4_isPaused_13 : decode cX4_isPaused 13 = .ok (.iaload, 1) := by decide +kernel
theorem dX4_isPaused_14 : decode cX4_isPaused 14 = .ok (.aload_n 0, 1) := by decide +kernel
theorem dX4_isPaused_15 : decode cX4_isPaused 15 = .ok (.getfield 9, 3) := by decide +kernel
theorem dX4_isPaused_18 : decode cX4_isPaused 18 = .ok (.iconst 5, 1) := by decide +kernel
theorem dX4_isPaused_19 : decode cX4_isPaused 19 = .ok (.iaload, 1) := by decide +kernel
theorem dX4_isPaused_20 : decode cX4_isPaused 20 = .ok (.aload_n 0, 1) := by decide +kernel
theorem dX4_isPaused_21 : decode cX4_isPaused 21 = .ok (.getfield 9, 3) := by decide +kernel
theorem dX4_isPaused_24 : decode cX4_isPaused 24 = .ok (.bipush 6, 2) := by decide +kernel
theorem dX4_isPaused_26 : decode cX4_isPaused 26 = .ok (.iaload, 1) := by decide +kernel
theorem dX4_isPaused_27 : decode cX4_isPaused 27 = .ok (.invokestatic 85, 3) := by decide +kernel
theorem dX4_isPaused_30 : decode cX4_isPaused 30 = .ok (.ifCond .ne 7, 3) := by decide +kernel
theorem dX4_isPaused_33 : decode cX4_isPaused 33 = .ok (.iconst 1, 1) := by decide +kernel
theorem dX4_isPaused_34 : decode cX4_isPaused 34 = .ok (.goto 4, 3) := by decide +kernel
theorem dX4_isPaused_37 : decode cX4_isPaused 37 = .ok (.iconst 0, 1) := by decide +kernel
theorem dX4_isPaused_38 : decode cX4_isPaused 38 = .ok (.ireturn, 1) := by decide +kernel
set_option maxRecDepth 20000 in
theorem ggX4_limitOfNow_X3_limitOf : GoodIn wsX4_limitOfNow wsX3_limitOf := goodIn_r _ [7, 8, 9, 10, 23, 24, 25, 26, 27] (by decide +kernel) (by decide +kernel)
set_option maxRecDepth 20000 in
theorem gX4_limitOfNow_X3_limitOf : GoodIn wsX4_limitOfNow (wsV RX4 89 RX3 yX3_limitOf wsX3_limitOf) := goodIn_app (goodIn_of _ (by decide +kernel)) ggX4_limitOfNow_X3_limitOf
theorem dX4_limitOfNow_0 : decode cX4_limitOfNow 0 = .ok (.aload_n 0, 1) := by decide +kernel
theorem dX4_limitOfNow_1 : decode cX4_limitOfNow 1 = .ok (.getfield 25, 3) := by decide +kernel
theorem dX4_limitOfNow_4 : decode cX4_limitOfNow 4 = .ok (.iload_n 1, 1) := by decide +kernel
theorem dX4_limitOfNow_5 : decode cX4_limitOfNow 5 = .ok (.invokevirtual 89, 3) := by decide +kernel
theorem dX4_limitOfNow_8 : decode cX4_limitOfNow 8 = .ok (.aload_n 0, 1) := by decide +kernel
theorem dX4_limitOfNow_9 : decode cX4_limitOfNow 9 = .ok (.getfield 9, 3) := by decide +kernel
theorem dX4_limitOfNow_12 : decode cX4_limitOfNow 12 = .ok (.iconst 4, 1) := by decide +kernel
theorem dX4_limitOfNow_13 : decode cX4_limitOfNow 13 = .ok (.iaload, 1) := by decide +kernel
theorem dX4_limitOfNow_14 : decode cX4_limitOfNow 14 = .ok (.aload_n 0, 1) := by decide +kernel
theorem dX4_limitOfNow_15 : decode cX4_limitOfNow 15 = .ok (.getfield 9, 3) := by decide +kernel
theorem dX4_limitOfNow_18 : decode cX4_limitOfNow 18 = .ok (.iconst 3, 1) := by decide +kernel
theorem dX4_limitOfNow_19 : decode cX4_limitOfNow 19 = .ok (.iaload, 1) := by decide +kernel
theorem dX4_limitOfNow_20 : decode cX4_limitOfNow 20 = .ok (.bipush 25, 2) := by decide +kernel
theorem dX4_limitOfNow_22 : decode cX4_limitOfNow 22 = .ok (.isub, 1) := by decide +kernel
theorem dX4_limitOfNow_23 : decode cX4_limitOfNow 23 = .ok (.imul, 1) := by decide +kernel
theorem dX4_limitOfNow_24 : decode cX4_limitOfNow 24 = .ok (.isub, 1) := by decide +kernel
theorem dX4_limitOfNow_25 : decode cX4_limitOfNow 25 = .ok (.ireturn, 1) := by decide +kernel
set_option maxRecDepth 20000 in
theorem ggX4_greatestVoltage_X0_greatestCharge : GoodIn wsX4_greatestVoltage wsX0_greatestCharge := goodIn_r _ [7, 8, 9, 10, 11, 12, 13, 29, 30, 31, 32, 33, 34, 35, 36] (by decide +kernel) (by decide +kernel)
end
section
set_option maxRecDepth 20000 in
theorem gX4_greatestVoltage_X0_greatestCharge : GoodIn wsX4_greatestVoltage (wsV RX4 81 RX0 yX0_greatestCharge wsX0_greatestCharge) := goodIn_app (goodIn_of _ (by decide +kernel)) ggX4_greatestVoltage_X0_greatestCharge
set_option maxRecDepth 20000 in
theorem ggX4_greatestVoltage_X6_baseVoltage : GoodIn wsX4_greatestVoltage wsX6_baseVoltage := goodIn_r _ [16] (by decide +kernel) (by decide +kernel)
set_option maxRecDepth 20000 in
theorem gX4_greatestVoltage_X6_baseVoltage_n93 : GoodIn wsX4_greatestVoltage (wsX6_baseVoltage) := ggX4_greatestVoltage_X6_baseVoltage
theorem dX4_greatestVoltage_0 : decode cX4_greatestVoltage 0 = .ok (.aload_n 0, 1) := by decide +kernel
theorem dX4_greatestVoltage_1 : decode cX4_greatestVoltage 1 = .ok (.getfield 18, 3) := by decide +kernel
theorem dX4_greatestVoltage_4 : decode cX4_greatestVoltage 4 = .ok (.invokevirtual 81, 3) := by decide +kernel
theorem dX4_greatestVoltage_7 : decode cX4_greatestVoltage 7 = .ok (.aload_n 0, 1) := by decide +kernel
theorem dX4_greatestVoltage_8 : decode cX4_greatestVoltage 8 = .ok (.getfield 9, 3) := by decide +kernel
theorem dX4_greatestVoltage_11 : decode cX4_greatestVoltage 11 = .ok (.iconst 0, 1) := by decide +kernel
theorem dX4_greatestVoltage_12 : decode cX4_greatestVoltage 12 = .ok (.iaload, 1) := by decide +kernel
theorem dX4_greatestVoltage_13 : decode cX4_greatestVoltage 13 = .ok (.invokestatic 93, 3) := by decide +kernel
theorem dX4_greatestVoltage_16 : decode cX4_greatestVoltage 16 = .ok (.iload_n 1, 1) := by decide +kernel
theorem dX4_greatestVoltage_17 : decode cX4_greatestVoltage 17 = .ok (.aload_n 0, 1) := by decide +kernel
theorem dX4_greatestVoltage_18 : decode cX4_greatestVoltage 18 = .ok (.getfield 9, 3) := by decide +kernel
theorem dX4_greatestVoltage_21 : decode cX4_greatestVoltage 21 = .ok (.iconst 1, 1) := by decide +kernel
theorem dX4_greatestVoltage_22 : decode cX4_greatestVoltage 22 = .ok (.iaload, 1) := by decide +kernel
theorem dX4_greatestVoltage_23 : decode cX4_greatestVoltage 23 = .ok (.imul, 1) := by decide +kernel
theorem dX4_greatestVoltage_24 : decode cX4_greatestVoltage 24 = .ok (.sipush 1000, 3) := by decide +kernel
theorem dX4_greatestVoltage_27 : decode cX4_greatestVoltage 27 = .ok (.idiv, 1) := by decide +kernel
theorem dX4_greatestVoltage_28 : decode cX4_greatestVoltage 28 = .ok (.iadd, 1) := by decide +kernel
theorem dX4_greatestVoltage_29 : decode cX4_greatestVoltage 29 = .ok (.ireturn, 1) := by decide +kernel
set_option maxRecDepth 20000 in
theorem ggX4_beginCharging_X4_begin : GoodIn wsX4_beginCharging wsX4_begin := goodIn_r _ [7, 8, 9, 10, 11, 12, 13, 14, 15, 16, 17, 18, 19, 20, 21, 22, 23, 24, 25, 26, 27, 28, 29, 30, 31, 32, 33, 34, 35, 36, 37, 38] (by decide +kernel) (by decide +kernel)
set_option maxRecDepth 20000 in
theorem gX4_beginCharging_X4_begin : GoodIn wsX4_beginCharging (wsV RX4 97 RX4 yX4_begin wsX4_begin) := goodIn_app (goodIn_of _ (by decide +kernel)) ggX4_beginCharging_X4_begin
theorem dX4_beginCharging_0 : decode cX4_beginCharging 0 = .ok (.aload_n 0, 1) := by decide +kernel
theorem dX4_beginCharging_1 : decode cX4_beginCharging 1 = .ok (.iconst 1, 1) := by decide +kernel
theorem dX4_beginCharging_2 : decode cX4_beginCharging 2 = .ok (.putfield 36, 3) := by decide +kernel
theorem dX4_beginCharging_5 : decode cX4_beginCharging 5 = .ok (.aload_n 0, 1) := by decide +kernel
theorem dX4_beginCharging_6 : decode cX4_beginCharging 6 = .ok (.iconst 0, 1) := by decide +kernel
theorem dX4_beginCharging_7 : decode cX4_beginCharging 7 = .ok (.putfield 52, 3) := by decide +kernel
theorem dX4_beginCharging_10 : decode cX4_beginCharging 10 = .ok (.aload_n 0, 1) := by decide +kernel
theorem dX4_beginCharging_11 : decode cX4_beginCharging 11 = .ok (.iconst 0, 1) := by decide +kernel
theorem dX4_beginCharging_12 : decode cX4_beginCharging 12 = .ok (.invokevirtual 97, 3) := by decide +kernel
theorem dX4_beginCharging_15 : decode cX4_beginCharging 15 = .ok (.return_, 1) := by decide +kernel
set_option maxRecDepth 20000 in
theorem ggX4_begin_X2_add : GoodIn wsX4_begin wsX2_add := goodIn_r _ [9, 10, 11, 12, 13, 14, 27, 28, 29, 30, 31] (by decide +kernel) (by decide +kernel)
set_option maxRecDepth 20000 in
theorem gX4_begin_X2_add : GoodIn wsX4_begin (wsV RX4 101 RX2 yX2_add wsX2_add) := goodIn_app (goodIn_of _ (by decide +kernel)) ggX4_begin_X2_add
theorem dX4_begin_0 : decode cX4_begin 0 = .ok (.aload_n 0, 1) := by decide +kernel
theorem dX4_begin_1 : decode cX4_begin 1 = .ok (.iload_n 1, 1) := by decide +kernel
theorem dX4_begin_2 : decode cX4_begin 2 = .ok (.putfield 40, 3) := by decide +kernel
theorem dX4_begin_5 : decode cX4_begin 5 = .ok (.aload_n 0, 1) := by decide +kernel
theorem dX4_begin_6 : decode cX4_begin 6 = .ok (.iconst 0, 1) := by decide +kernel
theorem dX4_begin_7 : decode cX4_begin 7 = .ok (.putfield 43, 3) := by decide +kernel
theorem dX4_begin_10 : decode cX4_begin 10 = .ok (.aload_n 0, 1) := by decide +kernel
theorem dX4_begin_11 : decode cX4_begin 11 = .ok (.getfield 32, 3) := by decide +kernel
theorem dX4_begin_14 : decode cX4_begin 14 = .ok (.iconst 0, 1) := by decide +kernel
theorem dX4_begin_15 : decode cX4_begin 15 = .ok (.aload_n 0, 1) := by decide +kernel
theorem dX4_begin_16 : decode cX4_begin 16 = .ok (.getfield 46, 3) := by decide +kernel
theorem dX4_begin_19 : decode cX4_begin 19 = .ok (.aload_n 0, 1) := by decide +kernel
theorem dX4_begin_20 : decode cX4_begin 20 = .ok (.getfield 40, 3) := by decide +kernel
theorem dX4_begin_23 : decode cX4_begin 23 = .ok (.invokevirtual 101, 3) := by decide +kernel
theorem dX4_begin_26 : decode cX4_begin 26 = .ok (.return_, 1) := by decide +kernel
set_option maxRecDepth 20000 in
theorem ggX4_passTicks_X4_passOneTick : GoodIn wsX4_passTicks wsX4_passOneTick := goodIn_r _ [5, 6, 7, 8, 9, 10, 11, 12, 13, 4, 14, 15, 16, 17, 18, 19, 20, 21, 22, 23, 24, 25, 26, 27, 28, 29, 30, 31, 32, 33, 34, 35, 36, 37, 38, 39, 40, 41, 42, 43, 44, 45, 46, 47, 48, 49, 50, 51, 52, 53, 54, 55, 56, 57, 58, 59, 60, 61, 62, 63, 64, 65, 66, 67, 68, 69, 70, 71, 72, 73, 74, 75, 76, 77, 78, 79, 80, 81, 82, 83, 84, 85, 86, 87, 88, 89, 90, 91, 92, 93, 94, 95, 96, 97, 98, 99, 100, 101, 102, 103, 104, 105, 106, 107, 108, 109, 110, 111, 112, 113, 114, 115, 116, 117, 118, 119, 120, 121, 122, 123, 124, 125, 126, 127, 128, 129, 130, 131, 132, 133, 134, 135, 136, 137, 138, 139, 140, 141, 142, 143, 144, 145, 146, 147, 148, 149, 150, 151, 152, 153, 154, 155] (by decide +kernel) (by decide +kernel)
set_option maxRecDepth 20000 in
theorem gX4_passTicks_X4_passOneTick : GoodIn wsX4_passTicks (wsV RX4 105 RX4 yX4_passOneTick wsX4_passOneTick) := goodIn_app (goodIn_of _ (by decide +kernel)) ggX4_passTicks_X4_passOneTick
theorem dX4_passTicks_0 : decode cX4_passTicks 0 = .ok (.iconst 0, 1) := by decide +kernel
theorem dX4_passTicks_1 : decode cX4_passTicks 1 = .ok (.istore_n 2, 1) := by decide +kernel
theorem dX4_passTicks_2 : decode cX4_passTicks 2 = .ok (.iload_n 2, 1) := by decide +kernel
theorem dX4_passTicks_3 : decode cX4_passTicks 3 = .ok (.iload_n 1, 1) := by decide +kernel
theorem dX4_passTicks_4 : decode cX4_passTicks 4 = .ok (.if_icmp .ge 13, 3) := by decide +kernel
theorem dX4_passTicks_7 : decode cX4_passTicks 7 = .ok (.aload_n 0, 1) := by decide +kernel
theorem dX4_passTicks_8 : decode cX4_passTicks 8 = .ok (.invokevirtual 105, 3) := by decide +kernel
theorem dX4_passTicks_11 : decode cX4_passTicks 11 = .ok (.iinc 2 1, 3) := by decide +kernel
theorem dX4_passTicks_14 : decode cX4_passTicks 14 = .ok (.goto (-12), 3) := by decide +kernel
theorem dX4_passTicks_17 : decode cX4_passTicks 17 = .ok (.return_, 1) := by decide +kernel
set_option maxRecDepth 20000 in
theorem ggX4_runUntilDone_X4_isPaused : GoodIn wsX4_runUntilDone wsX4_isPaused := goodIn_r _ [6, 1, 7, 8, 9, 10, 126, 127, 128, 129, 130, 131, 132, 133, 134, 135, 136, 137] (by decide +kernel) (by decide +kernel)
set_option maxRecDepth 20000 in
theorem gX4_runUntilDone_X4_isPaused : GoodIn wsX4_runUntilDone (wsV RX4 108 RX4 yX4_isPaused wsX4_isPaused) := goodIn_app (goodIn_of _ (by decide +kernel)) ggX4_runUntilDone_X4_isPaused
set_option maxRecDepth 20000 in
theorem ggX4_runUntilDone_X4_passOneTick : GoodIn wsX4_runUntilDone wsX4_passOneTick := goodIn_r _ [14, 1, 15, 7, 16, 17, 2, 3, 4, 5, 6, 8, 9, 10, 18, 19, 20, 21, 22, 23, 24, 25, 26, 27, 28, 29, 30, 31, 32, 33, 34, 35, 36, 37, 38, 39, 40, 41, 42, 43, 44, 45, 46, 47, 48, 49, 50, 51, 52, 53, 54, 55, 56, 57, 58, 59, 60, 61, 62, 63, 64, 65, 66, 67, 68, 69, 70, 71, 72, 73, 74, 75, 76, 77, 78, 79, 80, 81, 82, 83, 84, 85, 86, 87, 88, 89, 90, 91, 92, 93, 94, 95, 96, 97, 98, 99, 100, 101, 102, 103, 104, 105, 106, 107, 108, 109, 110, 111, 112, 113, 114, 115, 116, 117, 118, 119, 120, 121, 122, 123, 124, 125, 126, 127, 128, 129, 130, 131, 132, 133, 134, 135, 136, 137, 138, 139, 140, 141, 142, 143, 144, 145, 146, 147, 148, 149, 150, 151, 152, 153, 154, 155] (by decide +kernel) (by decide +kernel)
set_option maxRecDepth 20000 in
theorem gX4_runUntilDone_X4_passOneTick : GoodIn wsX4_runUntilDone (wsV RX4 105 RX4 yX4_passOneTick wsX4_passOneTick) := goodIn_app (goodIn_of _ (by decide +kernel)) ggX4_runUntilDone_X4_passOneTick
theorem dX4_runUntilDone_0 : decode cX4_runUntilDone 0 = .ok (.iconst 1, 1) := by decide +kernel
theorem dX4_runUntilDone_1 : decode cX4_runUntilDone 1 = .ok (.istore_n 2, 1) := by decide +kernel
theorem dX4_runUntilDone_2 : decode cX4_runUntilDone 2 = .ok (.iload_n 2, 1) := by decide +kernel
theorem dX4_runUntilDone_3 : decode cX4_runUntilDone 3 = .ok (.iload_n 1, 1) := by decide +kernel
theorem dX4_runUntilDone_4 : decode cX4_runUntilDone 4 = .ok (.if_icmp .gt 38, 3) := by decide +kernel
theorem dX4_runUntilDone_7 : decode cX4_runUntilDone 7 = .ok (.aload_n 0, 1) := by decide +kernel
theorem dX4_runUntilDone_8 : decode cX4_runUntilDone 8 = .ok (.getfield 36, 3) := by decide +kernel
theorem dX4_runUntilDone_11 : decode cX4_runUntilDone 11 = .ok (.iconst 1, 1) := by decide +kernel
theorem dX4_runUntilDone_12 : decode cX4_runUntilDone 12 = .ok (.if_icmp .ne 30, 3) := by decide +kernel
theorem dX4_runUntilDone_15 : decode cX4_runUntilDone 15 = .ok (.aload_n 0, 1) := by decide +kernel
theorem dX4_runUntilDone_16 : decode cX4_runUntilDone 16 = .ok (.invokevirtual 108, 3) := by decide +kernel
theorem dX4_runUntilDone_19 : decode cX4_runUntilDone 19 = .ok (.ifCond .ne 23, 3) := by decide +kernel
theorem dX4_runUntilDone_22 : decode cX4_runUntilDone 22 = .ok (.aload_n 0, 1) := by decide +kernel
theorem dX4_runUntilDone_23 : decode cX4_runUntilDone 23 = .ok (.invokevirtual 105, 3) := by decide +kernel
theorem dX4_runUntilDone_26 : decode cX4_runUntilDone 26 = .ok (.aload_n 0, 1) := by decide +kernel
theorem dX4_runUntilDone_27 : decode cX4_runUntilDone 27 = .ok (.getfield 36, 3) := by decide +kernel
theorem dX4_runUntilDone_30 : decode cX4_runUntilDone 30 = .ok (.iconst 2, 1) := by decide +kernel
theorem dX4_runUntilDone_31 : decode cX4_runUntilDone 31 = .ok (.if_icmp .ne 5, 3) := by decide +kernel
theorem dX4_runUntilDone_34 : decode cX4_runUntilDone 34 = .ok (.iload_n 2, 1) := by decide +kernel
theorem dX4_runUntilDone_35 : decode cX4_runUntilDone 35 = .ok (.ireturn, 1) := by decide +kernel
theorem dX4_runUntilDone_36 : decode cX4_runUntilDone 36 = .ok (.iinc 2 1, 3) := by decide +kernel
theorem dX4_runUntilDone_39 : decode cX4_runUntilDone 39 = .ok (.goto (-37), 3) := by decide +kernel
theorem dX4_runUntilDone_42 : decode cX4_runUntilDone 42 = .ok (.bipush (-5), 2) := by decide +kernel
theorem dX4_runUntilDone_44 : decode cX4_runUntilDone 44 = .ok (.ireturn, 1) := by decide +kernel
set_option maxRecDepth 20000 in
theorem ggX4_passOneTick_X4_isPaused : GoodIn wsX4_passOneTick wsX4_isPaused := goodIn_r _ [10, 1, 3, 11, 12, 13, 122, 123, 124, 125, 126, 127, 128, 129, 130, 131, 132, 133] (by decide +kernel) (by decide +kernel)
set_option maxRecDepth 20000 in
theorem gX4_passOneTick_X4_isPaused : GoodIn wsX4_passOneTick (wsV RX4 108 RX4 yX4_isPaused wsX4_isPaused) := goodIn_app (goodIn_of _ (by decide +kernel)) ggX4_passOneTick_X4_isPaused
set_option maxRecDepth 20000 in
theorem ggX4_passOneTick_X4_countPausedTick : GoodIn wsX4_passOneTick wsX4_countPausedTick := goodIn_r _ [17, 2, 18, 5, 19, 20, 21, 22, 23, 24, 25, 26, 27, 28, 29, 30, 122, 123, 124, 125, 126, 127, 128, 129, 130, 131, 132, 133, 134, 135, 136, 137, 138] (by decide +kernel) (by decide +kernel)
set_option maxRecDepth 20000 in
theorem gX4_passOneTick_X4_countPausedTick : GoodIn wsX4_passOneTick (wsV RX4 112 RX4 yX4_countPausedTick wsX4_countPausedTick) := goodIn_app (goodIn_of _ (by decide +kernel)) ggX4_passOneTick_X4_countPausedTick
set_option maxRecDepth 20000 in
theorem ggX4_passOneTick_X4_charge : GoodIn wsX4_passOneTick wsX4_charge := goodIn_r _ [34, 4, 3, 35, 1, 36, 18, 5, 19, 37, 38, 39, 9, 40, 41, 42, 43, 44, 45, 46, 47, 48, 49, 50, 51, 52, 53, 54, 55, 56, 57, 58, 59, 60, 61, 62, 63, 64, 65, 66, 67, 68, 69, 70, 71, 72, 73, 74, 75, 76, 77, 12, 78, 79, 80, 81, 82, 83, 84, 85, 86, 87, 88, 89, 90, 91, 92, 93, 94, 95, 96, 97, 98, 99, 100, 101, 102, 103, 104, 105, 106, 21, 22, 23, 24, 25, 26, 27, 28, 29, 30, 107, 108, 109, 110, 111, 122, 123, 124, 125, 126, 127, 128, 129, 130, 131, 132, 133, 139, 140, 141, 142, 143, 144, 145, 146, 147, 148, 149, 150, 151, 134, 135, 136, 137, 138] (by decide +kernel) (by decide +kernel)
set_option maxRecDepth 20000 in
theorem gX4_passOneTick_X4_charge : GoodIn wsX4_passOneTick (wsV RX4 115 RX4 yX4_charge wsX4_charge) := goodIn_app (goodIn_of _ (by decide +kernel)) ggX4_passOneTick_X4_charge
set_option maxRecDepth 20000 in
theorem ggX4_passOneTick_X0_loseTo : GoodIn wsX4_passOneTick wsX0_loseTo := goodIn_r _ [115, 72, 71, 116, 84, 75, 85, 117, 118, 119, 120, 69, 121, 77, 12, 78, 144, 145, 146, 147, 148, 149, 150, 151] (by decide +kernel) (by decide +kernel)
set_option maxRecDepth 20000 in
theorem gX4_passOneTick_X0_loseTo : GoodIn wsX4_passOneTick (wsV RX4 118 RX0 yX0_loseTo wsX0_loseTo) := goodIn_app (goodIn_of _ (by decide +kernel)) ggX4_passOneTick_X0_loseTo
theorem dX4_passOneTick_0 : decode cX4_passOneTick 0 = .ok (.aload_n 0, 1) := by decide +kernel
theorem dX4_passOneTick_1 : decode cX4_passOneTick 1 = .ok (.invokevirtual 108, 3) := by decide +kernel
theorem dX4_passOneTick_4 : decode cX4_passOneTick 4 = .ok (.istore_n 1, 1) := by decide +kernel
theorem dX4_passOneTick_5 : decode cX4_passOneTick 5 = .ok (.iload_n 1, 1) := by decide +kernel
theorem dX4_passOneTick_6 : decode cX4_passOneTick 6 = .ok (.ifCond .eq 10, 3) := by decide +kernel
theorem dX4_passOneTick_9 : decode cX4_passOneTick 9 = .ok (.aload_n 0, 1) := by decide +kernel
theorem dX4_passOneTick_10 : decode cX4_passOneTick 10 = .ok (.invokevirtual 112, 3) := by decide +kernel
theorem dX4_passOneTick_13 : decode cX4_passOneTick 13 = .ok (.goto 15, 3) := by decide +kernel
theorem dX4_passOneTick_16 : decode cX4_passOneTick 16 = .ok (.aload_n 0, 1) := by decide +kernel
theorem dX4_passOneTick_17 : decode cX4_passOneTick 17 = .ok (.getfield 36, 3) := by decide +kernel
theorem dX4_passOneTick_20 : decode cX4_passOneTick 20 = .ok (.iconst 1, 1) := by decide +kernel
theorem dX4_passOneTick_21 : decode cX4_passOneTick 21 = .ok (.if_icmp .ne 7, 3) := by decide +kernel
theorem dX4_passOneTick_24 : decode cX4_passOneTick 24 = .ok (.aload_n 0, 1) := by decide +kernel
theorem dX4_passOneTick_25 : decode cX4_passOneTick 25 = .ok (.invokevirtual 115, 3) := by decide +kernel
theorem dX4_passOneTick_28 : decode cX4_passOneTick 28 = .ok (.aload_n 0, 1) := by decide +kernel
theorem dX4_passOneTick_29 : decode cX4_passOneTick 29 = .ok (.iload_n 1, 1) := by decide +kernel
theorem dX4_passOneTick_30 : decode cX4_passOneTick 30 = .ok (.putfield 52, 3) := by decide +kernel
theorem dX4_passOneTick_33 : decode cX4_passOneTick 33 = .ok (.aload_n 0, 1) := by decide +kernel
theorem dX4_passOneTick_34 : decode cX4_passOneTick 34 = .ok (.getfield 9, 3) := by decide +kernel
theorem dX4_passOneTick_37 : decode cX4_passOneTick 37 = .ok (.bipush 8, 2) := by decide +kernel
theorem dX4_passOneTick_39 : decode cX4_passOneTick 39 = .ok (.iaload, 1) := by decide +kernel
theorem dX4_passOneTick_40 : decode cX4_passOneTick 40 = .ok (.ifCond .le 30, 3) := by decide +kernel
theorem dX4_passOneTick_43 : decode cX4_passOneTick 43 = .ok (.aload_n 0, 1) := by decide +kernel
theorem dX4_passOneTick_44 : decode cX4_passOneTick 44 = .ok (.getfield 18, 3) := by decide +kernel
theorem dX4_passOneTick_47 : decode cX4_passOneTick 47 = .ok (.aload_n 0, 1) := by decide +kernel
theorem dX4_passOneTick_48 : decode cX4_passOneTick 48 = .ok (.getfield 9, 3) := by decide +kernel
theorem dX4_passOneTick_51 : decode cX4_passOneTick 51 = .ok (.bipush 8, 2) := by decide +kernel
theorem dX4_passOneTick_53 : decode cX4_passOneTick 53 = .ok (.iaload, 1) := by decide +kernel
theorem dX4_passOneTick_54 : decode cX4_passOneTick 54 = .ok (.aload_n 0, 1) := by decide +kernel
theorem dX4_passOneTick_55 : decode cX4_passOneTick 55 = .ok (.getfield 9, 3) := by decide +kernel
theorem dX4_passOneTick_58 : decode cX4_passOneTick 58 = .ok (.bipush 7, 2) := by decide +kernel
theorem dX4_passOneTick_60 : decode cX4_passOneTick 60 = .ok (.iaload, 1) := by decide +kernel
theorem dX4_passOneTick_61 : decode cX4_passOneTick 61 = .ok (.aload_n 0, 1) := by decide +kernel
theorem dX4_passOneTick_62 : decode cX4_passOneTick 62 = .ok (.getfield 9, 3) := by decide +kernel
theorem dX4_passOneTick_65 : decode cX4_passOneTick 65 = .ok (.iconst 0, 1) := by decide +kernel
theorem dX4_passOneTick_66 : decode cX4_passOneTick 66 = .ok (.iaload, 1) := by decide +kernel
theorem dX4_passOneTick_67 : decode cX4_passOneTick 67 = .ok (.invokevirtual 118, 3) := by decide +kernel
theorem dX4_passOneTick_70 : decode cX4_passOneTick 70 = .ok (.aload_n 0, 1) := by decide +kernel
theorem dX4_passOneTick_71 : decode cX4_passOneTick 71 = .ok (.dup, 1) := by decide +kernel
theorem dX4_passOneTick_72 : decode cX4_passOneTick 72 = .ok (.getfield 46, 3) := by decide +kernel
theorem dX4_passOneTick_75 : decode cX4_passOneTick 75 = .ok (.iconst 1, 1) := by decide +kernel
theorem dX4_passOneTick_76 : decode cX4_passOneTick 76 = .ok (.iadd, 1) := by decide +kernel
theorem dX4_passOneTick_77 : decode cX4_passOneTick 77 = .ok (.putfield 46, 3) := by decide +kernel
theorem dX4_passOneTick_80 : decode cX4_passOneTick 80 = .ok (.return_, 1) := by decide +kernel
set_option maxRecDepth 20000 in
theorem ggX4_countPausedTick_X2_add : GoodIn wsX4_countPausedTick wsX2_add := goodIn_r _ [10, 11, 12, 13, 14, 15, 28, 29, 30, 31, 32] (by decide +kernel) (by decide +kernel)
set_option maxRecDepth 20000 in
theorem gX4_countPausedTick_X2_add : GoodIn wsX4_countPausedTick (wsV RX4 101 RX2 yX2_add wsX2_add) := goodIn_app (goodIn_of _ (by decide +kernel)) ggX4_countPausedTick_X2_add
theorem dX4_countPausedTick_0 : decode cX4_countPausedTick 0 = .ok (.aload_n 0, 1) := by decide +kernel
theorem dX4_countPausedTick_1 : decode cX4_countPausedTick 1 = .ok (.getfield 52, 3) := by decide +kernel
theorem dX4_countPausedTick_4 : decode cX4_countPausedTick 4 = .ok (.ifCond .ne 19, 3) := by decide +kernel
theorem dX4_countPausedTick_7 : decode cX4_countPausedTick 7 = .ok (.aload_n 0, 1) := by decide +kernel
theorem dX4_countPausedTick_8 : decode cX4_countPausedTick 8 = .ok (.getfield 32, 3) := by decide +kernel
theorem dX4_countPausedTick_11 : decode cX4_countPausedTick 11 = .ok (.iconst 3, 1) := by decide +kernel
theorem dX4_countPausedTick_12 : decode cX4_countPausedTick 12 = .ok (.aload_n 0, 1) := by decide +kernel
theorem dX4_countPausedTick_13 : decode cX4_countPausedTick 13 = .ok (.getfield 46, 3) := by decide +kernel
theorem dX4_countPausedTick_16 : decode cX4_countPausedTick 16 = .ok (.aload_n 0, 1) := by decide +kernel
theorem dX4_countPausedTick_17 : decode cX4_countPausedTick 17 = .ok (.getfield 40, 3) := by decide +kernel
theorem dX4_countPausedTick_20 : decode cX4_countPausedTick 20 = .ok (.invokevirtual 101, 3) := by decide +kernel
theorem dX4_countPausedTick_23 : decode cX4_countPausedTick 23 = .ok (.aload_n 0, 1) := by decide +kernel
theorem dX4_countPausedTick_24 : decode cX4_countPausedTick 24 = .ok (.dup, 1) := by decide +kernel
theorem dX4_countPausedTick_25 : decode cX4_countPausedTick 25 = .ok (.getfield 49, 3) := by decide +kernel
theorem dX4_countPausedTick_28 : decode cX4_countPausedTick 28 = .ok (.iconst 1, 1) := by decide +kernel
theorem dX4_countPausedTick_29 : decode cX4_countPausedTick 29 = .ok (.iadd, 1) := by decide +kernel
theorem dX4_countPausedTick_30 : decode cX4_countPausedTick 30 = .ok (.putfield 49, 3) := by decide +kernel
theorem dX4_countPausedTick_33 : decode cX4_countPausedTick 33 = .ok (.return_, 1) := by decide +kernel
set_option maxRecDepth 20000 in
theorem ggX4_charge_X4_currentOfStage : GoodIn wsX4_charge wsX4_currentOfStage := goodIn_r _ [13, 14, 8, 15, 16, 17, 18, 19, 20, 21, 22, 23, 24, 25, 26, 12, 27, 2, 28, 29, 30, 31, 32, 33, 34, 35, 36, 37, 38, 1, 39, 40, 41, 42, 43, 44, 45, 46, 47, 48, 49, 50, 51, 52, 53, 54, 55, 56, 57, 58, 59, 96, 97, 98, 99, 100, 101, 102, 103, 104, 105, 106, 107, 108, 109, 110, 111, 112, 113, 114, 115, 116, 117, 118, 119, 120] (by decide +kernel) (by decide +kernel)
set_option maxRecDepth 20000 in
theorem gX4_charge_X4_currentOfStage : GoodIn wsX4_charge (wsV RX4 121 RX4 yX4_currentOfStage wsX4_currentOfStage) := goodIn_app (goodIn_of _ (by decide +kernel)) ggX4_charge_X4_currentOfStage
set_option maxRecDepth 20000 in
theorem ggX4_charge_X0_takeIn : GoodIn wsX4_charge wsX0_takeIn := goodIn_r _ [63, 45, 64, 44, 46, 47, 48, 49, 65, 66, 67, 113, 114, 115, 116, 117, 118, 119, 120] (by decide +kernel) (by decide +kernel)
set_option maxRecDepth 20000 in
theorem gX4_charge_X0_takeIn : GoodIn wsX4_charge (wsV RX4 124 RX0 yX0_takeIn wsX0_takeIn) := goodIn_app (goodIn_of _ (by decide +kernel)) ggX4_charge_X0_takeIn
set_option maxRecDepth 20000 in
theorem ggX4_charge_X4_endsBehind : GoodIn wsX4_charge wsX4_endsBehind := goodIn_r _ [71, 14, 8, 15, 3, 16, 18, 19, 20, 21, 22, 23, 35, 36, 37, 12, 38, 1, 2, 39, 40, 41, 42, 43, 44, 45, 46, 47, 48, 49, 50, 51, 52, 24, 25, 26, 27, 28, 29, 30, 31, 32, 33, 34, 96, 97, 98, 99, 100, 101, 102, 103, 104, 105, 106, 107, 108, 109, 110, 111, 112, 113, 114, 115, 116, 117, 118, 119, 120] (by decide +kernel) (by decide +kernel)
set_option maxRecDepth 20000 in
theorem gX4_charge_X4_endsBehind : GoodIn wsX4_charge (wsV RX4 127 RX4 yX4_endsBehind wsX4_endsBehind) := goodIn_app (goodIn_of _ (by decide +kernel)) ggX4_charge_X4_endsBehind
set_option maxRecDepth 20000 in
theorem ggX4_charge_X4_endStage : GoodIn wsX4_charge wsX4_endStage := goodIn_r _ [75, 14, 8, 4, 76, 6, 7, 18, 19, 20, 21, 22, 23, 77, 78, 79, 12, 80, 3, 81, 82, 83, 84, 85, 86, 87, 88, 89, 90, 96, 97, 98, 99, 100, 101, 102, 103, 104, 105, 106, 107, 108, 109, 110, 111, 112, 121, 122, 123, 124, 125] (by decide +kernel) (by decide +kernel)
set_option maxRecDepth 20000 in
theorem gX4_charge_X4_endStage : GoodIn wsX4_charge (wsV RX4 131 RX4 yX4_endStage wsX4_endStage) := goodIn_app (goodIn_of _ (by decide +kernel)) ggX4_charge_X4_endStage
set_option maxRecDepth 20000 in
theorem ggX4_charge_X4_hasRunOut : GoodIn wsX4_charge wsX4_hasRunOut := goodIn_r _ [94, 14, 8, 95, 3, 18, 19, 20, 21, 22, 23, 96, 97, 98, 99, 100, 101, 102, 103, 104, 105, 106, 107, 108, 109, 110, 111, 112] (by decide +kernel) (by decide +kernel)
set_option maxRecDepth 20000 in
theorem gX4_charge_X4_hasRunOut : GoodIn wsX4_charge (wsV RX4 134 RX4 yX4_hasRunOut wsX4_hasRunOut) := goodIn_app (goodIn_of _ (by decide +kernel)) ggX4_charge_X4_hasRunOut
set_option maxRecDepth 20000 in
theorem ggX4_charge_X2_add : GoodIn wsX4_charge wsX2_add := goodIn_r _ [85, 86, 87, 88, 89, 90, 121, 122, 123, 124, 125] (by decide +kernel) (by decide +kernel)
set_option maxRecDepth 20000 in
theorem gX4_charge_X2_add : GoodIn wsX4_charge (wsV RX4 101 RX2 yX2_add wsX2_add) := goodIn_app (goodIn_of _ (by decide +kernel)) ggX4_charge_X2_add
theorem dX4_charge_0 : decode cX4_charge 0 = .ok (.aload_n 0, 1) := by decide +kernel
theorem dX4_charge_1 : decode cX4_charge 1 = .ok (.invokevirtual 121, 3) := by decide +kernel
theorem dX4_charge_4 : decode cX4_charge 4 = .ok (.istore_n 1, 1) := by decide +kernel
theorem dX4_charge_5 : decode cX4_charge 5 = .ok (.iload_n 1, 1) := by decide +kernel
theorem dX4_charge_6 : decode cX4_charge 6 = .ok (.iconst (-1), 1) := by decide +kernel
theorem dX4_charge_7 : decode cX4_charge 7 = .ok (.if_icmp .ne 7, 3) := by decide +kernel
theorem dX4_charge_10 : decode cX4_charge 10 = .ok (.iconst 1, 1) := by decide +kernel
theorem dX4_charge_11 : decode cX4_charge 11 = .ok (.goto 4, 3) := by decide +kernel
theorem dX4_charge_14 : decode cX4_charge 14 = .ok (.iconst 0, 1) := by decide +kernel
theorem dX4_charge_15 : decode cX4_charge 15 = .ok (.istore_n 2, 1) := by decide +kernel
theorem dX4_charge_16 : decode cX4_charge 16 = .ok (.iload_n 2, 1) := by decide +kernel
theorem dX4_charge_17 : decode cX4_charge 17 = .ok (.ifCond .ne 39, 3) := by decide +kernel
theorem dX4_charge_20 : decode cX4_charge 20 = .ok (.aload_n 0, 1) := by decide +kernel
theorem dX4_charge_21 : decode cX4_charge 21 = .ok (.getfield 18, 3) := by decide +kernel
theorem dX4_charge_24 : decode cX4_charge 24 = .ok (.iload_n 1, 1) := by decide +kernel
theorem dX4_charge_25 : decode cX4_charge 25 = .ok (.aload_n 0, 1) := by decide +kernel
theorem dX4_charge_26 : decode cX4_charge 26 = .ok (.getfield 9, 3) := by decide +kernel
theorem dX4_charge_29 : decode cX4_charge 29 = .ok (.iconst 2, 1) := by decide +kernel
theorem dX4_charge_30 : decode cX4_charge 30 = .ok (.iaload, 1) := by decide +kernel
theorem dX4_charge_31 : decode cX4_charge 31 = .ok (.aload_n 0, 1) := by decide +kernel
theorem dX4_charge_32 : decode cX4_charge 32 = .ok (.getfield 9, 3) := by decide +kernel
theorem dX4_charge_35 : decode cX4_charge 35 = .ok (.iconst 0, 1) := by decide +kernel
theorem dX4_charge_36 : decode cX4_charge 36 = .ok (.iaload, 1) := by decide +kernel
theorem dX4_charge_37 : decode cX4_charge 37 = .ok (.invokevirtual 124, 3) := by decide +kernel
theorem dX4_charge_40 : decode cX4_charge 40 = .ok (.aload_n 0, 1) := by decide +kernel
theorem dX4_charge_41 : decode cX4_charge 41 = .ok (.dup, 1) := by decide +kernel
theorem dX4_charge_42 : decode cX4_charge 42 = .ok (.getfield 43, 3) := by decide +kernel
theorem dX4_charge_45 : decode cX4_charge 45 = .ok (.iconst 1, 1) := by decide +kernel
theorem dX4_charge_46 : decode cX4_charge 46 = .ok (.iadd, 1) := by decide +kernel
theorem dX4_charge_47 : decode cX4_charge 47 = .ok (.putfield 43, 3) := by decide +kernel
theorem dX4_charge_50 : decode cX4_charge 50 = .ok (.aload_n 0, 1) := by decide +kernel
theorem dX4_charge_51 : decode cX4_charge 51 = .ok (.iload_n 1, 1) := by decide +kernel
theorem dX4_charge_52 : decode cX4_charge 52 = .ok (.invokevirtual 127, 3) := by decide +kernel
theorem dX4_charge_55 : decode cX4_charge 55 = .ok (.istore_n 2, 1) := by decide +kernel
theorem dX4_charge_56 : decode cX4_charge 56 = .ok (.iload_n 2, 1) := by decide +kernel
theorem dX4_charge_57 : decode cX4_charge 57 = .ok (.ifCond .eq 10, 3) := by decide +kernel
theorem dX4_charge_60 : decode cX4_charge 60 = .ok (.aload_n 0, 1) := by decide +kernel
theorem dX4_charge_61 : decode cX4_charge 61 = .ok (.invokevirtual 131, 3) := by decide +kernel
theorem dX4_charge_64 : decode cX4_charge 64 = .ok (.goto 41, 3) := by decide +kernel
theorem dX4_charge_67 : decode cX4_charge 67 = .ok (.aload_n 0, 1) := by decide +kernel
theorem dX4_charge_68 : decode cX4_charge 68 = .ok (.invokevirtual 134, 3) := by decide +kernel
theorem dX4_charge_71 : decode cX4_charge 71 = .ok (.ifCond .eq 34, 3) := by decide +kernel
theorem dX4_charge_74 : decode cX4_charge 74 = .ok (.aload_n 0, 1) := by decide +kernel
theorem dX4_charge_75 : decode cX4_charge 75 = .ok (.iconst 3, 1) := by decide +kernel
theorem dX4_charge_76 : decode cX4_charge 76 = .ok (.putfield 36, 3) := by decide +kernel
theorem dX4_charge_79 : decode cX4_charge 79 = .ok (.aload_n 0, 1) := by decide +kernel
theorem dX4_charge_80 : decode cX4_charge 80 = .ok (.dup, 1) := by decide +kernel
theorem dX4_charge_81 : decode cX4_charge 81 = .ok (.getfield 59, 3) := by decide +kernel
theorem dX4_charge_84 : decode cX4_charge 84 = .ok (.iconst 1, 1) := by decide +kernel
theorem dX4_charge_85 : decode cX4_charge 85 = .ok (.iadd, 1) := by decide +kernel
theorem dX4_charge_86 : decode cX4_charge 86 = .ok (.putfield 59, 3) := by decide +kernel
theorem dX4_charge_89 : decode cX4_charge 89 = .ok (.aload_n 0, 1) := by decide +kernel
theorem dX4_charge_90 : decode cX4_charge 90 = .ok (.getfield 32, 3) := by decide +kernel
theorem dX4_charge_93 : decode cX4_charge 93 = .ok (.iconst 2, 1) := by decide +kernel
theorem dX4_charge_94 : decode cX4_charge 94 = .ok (.aload_n 0, 1) := by decide +kernel
theorem dX4_charge_95 : decode cX4_charge 95 = .ok (.getfield 46, 3) := by decide +kernel
theorem dX4_charge_98 : decode cX4_charge 98 = .ok (.aload_n 0, 1) := by decide +kernel
theorem dX4_charge_99 : decode cX4_charge 99 = .ok (.getfield 40, 3) := by decide +kernel
theorem dX4_charge_102 : decode cX4_charge 102 = .ok (.invokevirtual 101, 3) := by decide +kernel
theorem dX4_charge_105 : decode cX4_charge 105 = .ok (.return_, 1) := by decide +kernel
set_option maxRecDepth 20000 in
theorem ggX4_endStage_X3_has : GoodIn wsX4_endStage wsX3_has := goodIn_r _ [11, 12, 41, 42, 43, 44, 45] (by decide +kernel) (by decide +kernel)
set_option maxRecDepth 20000 in
theorem gX4_endStage_X3_has : GoodIn wsX4_endStage (wsV RX4 137 RX3 yX3_has wsX3_has) := goodIn_app (goodIn_of _ (by decide +kernel)) ggX4_endStage_X3_has
set_option maxRecDepth 20000 in
theorem ggX4_endStage_X4_begin : GoodIn wsX4_endStage wsX4_begin := goodIn_r _ [17, 2, 18, 5, 6, 19, 20, 21, 22, 23, 24, 25, 26, 27, 28, 29, 30, 31, 32, 33, 34, 35, 36, 37, 38, 39, 40, 46, 47, 48, 49, 50] (by decide +kernel) (by decide +kernel)
set_option maxRecDepth 20000 in
theorem gX4_endStage_X4_begin : GoodIn wsX4_endStage (wsV RX4 97 RX4 yX4_begin wsX4_begin) := goodIn_app (goodIn_of _ (by decide +kernel)) ggX4_endStage_X4_begin
set_option maxRecDepth 20000 in
theorem ggX4_endStage_X2_add : GoodIn wsX4_endStage wsX2_add := goodIn_r _ [23, 24, 25, 26, 27, 28, 46, 47, 48, 49, 50] (by decide +kernel) (by decide +kernel)
set_option maxRecDepth 20000 in
theorem gX4_endStage_X2_add : GoodIn wsX4_endStage (wsV RX4 101 RX2 yX2_add wsX2_add) := goodIn_app (goodIn_of _ (by decide +kernel)) ggX4_endStage_X2_add
theorem dX4_endStage_0 : decode cX4_endStage 0 = .ok (.aload_n 0, 1) := by decide +kernel
theorem dX4_endStage_1 : decode cX4_endStage 1 = .ok (.getfield 25, 3) := by decide +kernel
theorem dX4_endStage_4 : decode cX4_endStage 4 = .ok (.aload_n 0, 1) := by decide +kernel
theorem dX4_endStage_5 : decode cX4_endStage 5 = .ok (.getfield 40, 3) := by decide +kernel
theorem dX4_endStage_8 : decode cX4_endStage 8 = .ok (.iconst 1, 1) := by decide +kernel
theorem dX4_endStage_9 : decode cX4_endStage 9 = .ok (.iadd, 1) := by decide +kernel
theorem dX4_endStage_10 : decode cX4_endStage 10 = .ok (.invokevirtual 137, 3) := by decide +kernel
theorem dX4_endStage_13 : decode cX4_endStage 13 = .ok (.ifCond .eq 16, 3) := by decide +kernel
theorem dX4_endStage_16 : decode cX4_endStage 16 = .ok (.aload_n 0, 1) := by decide +kernel
theorem dX4_endStage_17 : decode cX4_endStage 17 = .ok (.aload_n 0, 1) := by decide +kernel
theorem dX4_endStage_18 : decode cX4_endStage 18 = .ok (.getfield 40, 3) := by decide +kernel
theorem dX4_endStage_21 : decode cX4_endStage 21 = .ok (.iconst 1, 1) := by decide +kernel
theorem dX4_endStage_22 : decode cX4_endStage 22 = .ok (.iadd, 1) := by decide +kernel
theorem dX4_endStage_23 : decode cX4_endStage 23 = .ok (.invokevirtual 97, 3) := by decide +kernel
theorem dX4_endStage_26 : decode cX4_endStage 26 = .ok (.goto 34, 3) := by decide +kernel
theorem dX4_endStage_29 : decode cX4_endStage 29 = .ok (.aload_n 0, 1) := by decide +kernel
theorem dX4_endStage_30 : decode cX4_endStage 30 = .ok (.iconst 2, 1) := by decide +kernel
theorem dX4_endStage_31 : decode cX4_endStage 31 = .ok (.putfield 36, 3) := by decide +kernel
theorem dX4_endStage_34 : decode cX4_endStage 34 = .ok (.aload_n 0, 1) := by decide +kernel
theorem dX4_endStage_35 : decode cX4_endStage 35 = .ok (.dup, 1) := by decide +kernel
theorem dX4_endStage_36 : decode cX4_endStage 36 = .ok (.getfield 56, 3) := by decide +kernel
theorem dX4_endStage_39 : decode cX4_endStage 39 = .ok (.iconst 1, 1) := by decide +kernel
theorem dX4_endStage_40 : decode cX4_endStage 40 = .ok (.iadd, 1) := by decide +kernel
theorem dX4_endStage_41 : decode cX4_endStage 41 = .ok (.putfield 56, 3) := by decide +kernel
theorem dX4_endStage_44 : decode cX4_endStage 44 = .ok (.aload_n 0, 1) := by decide +kernel
theorem dX4_endStage_45 : decode cX4_endStage 45 = .ok (.getfield 32, 3) := by decide +kernel
theorem dX4_endStage_48 : decode cX4_endStage 48 = .ok (.iconst 1, 1) := by decide +kernel
theorem dX4_endStage_49 : decode cX4_endStage 49 = .ok (.aload_n 0, 1) := by decide +kernel
theorem dX4_endStage_50 : decode cX4_endStage 50 = .ok (.getfield 46, 3) := by decide +kernel
theorem dX4_endStage_53 : decode cX4_endStage 53 = .ok (.aload_n 0, 1) := by decide +kernel
theorem dX4_endStage_54 : decode cX4_endStage 54 = .ok (.getfield 40, 3) := by decide +kernel
theorem dX4_endStage_57 : decode cX4_endStage 57 = .ok (.invokevirtual 101, 3) := by decide +kernel
theorem dX4_endStage_60 : decode cX4_endStage 60 = .ok (.return_, 1) := by decide +kernel
set_option maxRecDepth 20000 in
theorem ggX4_hasRunOut_X3_has : GoodIn wsX4_hasRunOut wsX3_has := goodIn_r _ [9, 10, 23, 24, 25, 26, 27] (by decide +kernel) (by decide +kernel)
set_option maxRecDepth 20000 in
theorem gX4_hasRunOut_X3_has : GoodIn wsX4_hasRunOut (wsV RX4 137 RX3 yX3_has wsX3_has) := goodIn_app (goodIn_of _ (by decide +kernel)) ggX4_hasRunOut_X3_has
theorem dX4_hasRunOut_0 : decode cX4_hasRunOut 0 = .ok (.aload_n 0, 1) := by decide +kernel
theorem dX4_hasRunOut_1 : decode cX4_hasRunOut 1 = .ok (.getfield 25, 3) := by decide +kernel
theorem dX4_hasRunOut_4 : decode cX4_hasRunOut 4 = .ok (.aload_n 0, 1) := by decide +kernel
theorem dX4_hasRunOut_5 : decode cX4_hasRunOut 5 = .ok (.getfield 40, 3) := by decide +kernel
theorem dX4_hasRunOut_8 : decode cX4_hasRunOut 8 = .ok (.invokevirtual 137, 3) := by decide +kernel
theorem dX4_hasRunOut_11 : decode cX4_hasRunOut 11 = .ok (.ifCond .eq 41, 3) := by decide +kernel
theorem dX4_hasRunOut_14 : decode cX4_hasRunOut 14 = .ok (.aload_n 0, 1) := by decide +kernel
theorem dX4_hasRunOut_15 : decode cX4_hasRunOut 15 = .ok (.getfield 25, 3) := by decide +kernel
theorem dX4_hasRunOut_18 : decode cX4_hasRunOut 18 = .ok (.getfield 140, 3) := by decide +kernel
theorem dX4_hasRunOut_21 : decode cX4_hasRunOut 21 = .ok (.aload_n 0, 1) := by decide +kernel
theorem dX4_hasRunOut_22 : decode cX4_hasRunOut 22 = .ok (.getfield 40, 3) := by decide +kernel
theorem dX4_hasRunOut_25 : decode cX4_hasRunOut 25 = .ok (.iaload, 1) := by decide +kernel
theorem dX4_hasRunOut_26 : decode cX4_hasRunOut 26 = .ok (.ifCond .le 26, 3) := by decide +kernel
theorem dX4_hasRunOut_29 : decode cX4_hasRunOut 29 = .ok (.aload_n 0, 1) := by decide +kernel
theorem dX4_hasRunOut_30 : decode cX4_hasRunOut 30 = .ok (.getfield 43, 3) := by decide +kernel
theorem dX4_hasRunOut_33 : decode cX4_hasRunOut 33 = .ok (.aload_n 0, 1) := by decide +kernel
theorem dX4_hasRunOut_34 : decode cX4_hasRunOut 34 = .ok (.getfield 25, 3) := by decide +kernel
theorem dX4_hasRunOut_37 : decode cX4_hasRunOut 37 = .ok (.getfield 140, 3) := by decide +kernel
theorem dX4_hasRunOut_40 : decode cX4_hasRunOut 40 = .ok (.aload_n 0, 1) := by decide +kernel
theorem dX4_hasRunOut_41 : decode cX4_hasRunOut 41 = .ok (.getfield 40, 3) := by decide +kernel
theorem dX4_hasRunOut_44 : decode cX4_hasRunOut 44 = .ok (.iaload, 1) := by decide +kernel
theorem dX4_hasRunOut_45 : decode cX4_hasRunOut 45 = .ok (.if_icmp .lt 7, 3) := by decide +kernel
theorem dX4_hasRunOut_48 : decode cX4_hasRunOut 48 = .ok (.iconst 1, 1) := by decide +kernel
theorem dX4_hasRunOut_49 : decode cX4_hasRunOut 49 = .ok (.goto 4, 3) := by decide +kernel
theorem dX4_hasRunOut_52 : decode cX4_hasRunOut 52 = .ok (.iconst 0, 1) := by decide +kernel
theorem dX4_hasRunOut_53 : decode cX4_hasRunOut 53 = .ok (.ireturn, 1) := by decide +kernel
set_option maxRecDepth 20000 in
theorem ggX4_currentOfStage_X3_has : GoodIn wsX4_currentOfStage wsX3_has := goodIn_r _ [10, 11, 63, 64, 65, 66, 67] (by decide +kernel) (by decide +kernel)
set_option maxRecDepth 20000 in
theorem gX4_currentOfStage_X3_has : GoodIn wsX4_currentOfStage (wsV RX4 137 RX3 yX3_has wsX3_has) := goodIn_app (goodIn_of _ (by decide +kernel)) ggX4_currentOfStage_X3_has
set_option maxRecDepth 20000 in
theorem ggX4_currentOfStage_X4_limitOfNow : GoodIn wsX4_currentOfStage wsX4_limitOfNow := goodIn_r _ [16, 1, 17, 18, 19, 20, 9, 21, 22, 23, 24, 51, 52, 53, 54, 55, 56, 57, 58, 59, 60, 61, 62, 63, 64, 65, 66, 67] (by decide +kernel) (by decide +kernel)
set_option maxRecDepth 20000 in
theorem gX4_currentOfStage_X4_limitOfNow : GoodIn wsX4_currentOfStage (wsV RX4 149 RX4 yX4_limitOfNow wsX4_limitOfNow) := goodIn_app (goodIn_of _ (by decide +kernel)) ggX4_currentOfStage_X4_limitOfNow
set_option maxRecDepth 20000 in
theorem ggX4_currentOfStage_X4_greatestVoltage : GoodIn wsX4_currentOfStage wsX4_greatestVoltage := goodIn_r _ [28, 29, 17, 30, 31, 32, 33, 34, 35, 36, 37, 38, 39, 40, 41, 42, 43, 51, 52, 53, 54, 55, 56, 57, 58, 59, 60, 61, 62, 68, 69, 70, 71, 72, 73, 74, 75] (by decide +kernel) (by decide +kernel)
set_option maxRecDepth 20000 in
theorem gX4_currentOfStage_X4_greatestVoltage : GoodIn wsX4_currentOfStage (wsV RX4 152 RX4 yX4_greatestVoltage wsX4_greatestVoltage) := goodIn_app (goodIn_of _ (by decide +kernel)) ggX4_currentOfStage_X4_greatestVoltage
set_option maxRecDepth 20000 in
theorem ggX4_currentOfStage_X4_heldCurrent : GoodIn wsX4_currentOfStage wsX4_heldCurrent := goodIn_r _ [47, 17, 48, 49, 39, 50, 51, 52, 53, 54, 55, 56, 57, 58, 59, 60, 61, 62] (by decide +kernel) (by decide +kernel)
set_option maxRecDepth 20000 in
theorem gX4_currentOfStage_X4_heldCurrent : GoodIn wsX4_currentOfStage (wsV RX4 155 RX4 yX4_heldCurrent wsX4_heldCurrent) := goodIn_app (goodIn_of _ (by decide +kernel)) ggX4_currentOfStage_X4_heldCurrent
theorem dX4_currentOfStage_0 : decode cX4_currentOfStage 0 = .ok (.aload_n 0, 1) := by decide +kernel
theorem dX4_currentOfStage_1 : decode cX4_currentOfStage 1 = .ok (.getfield 25, 3) := by decide +kernel
theorem dX4_currentOfStage_4 : decode cX4_currentOfStage 4 = .ok (.aload_n 0, 1) := by decide +kernel
theorem dX4_currentOfStage_5 : decode cX4_currentOfStage 5 = .ok (.getfield 40, 3) := by decide +kernel
theorem dX4_currentOfStage_8 : decode cX4_currentOfStage 8 = .ok (.invokevirtual 137, 3) := by decide +kernel
theorem dX4_currentOfStage_11 : decode cX4_currentOfStage 11 = .ok (.ifCond .ne 5, 3) := by decide +kernel
theorem dX4_currentOfStage_14 : decode cX4_currentOfStage 14 = .ok (.iconst (-1), 1) := by decide +kernel
theorem dX4_currentOfStage_15 : decode cX4_currentOfStage 15 = .ok (.ireturn, 1) := by decide +kernel
theorem dX4_currentOfStage_16 : decode cX4_currentOfStage 16 = .ok (.aload_n 0, 1) := by decide +kernel
theorem dX4_currentOfStage_17 : decode cX4_currentOfStage 17 = .ok (.getfield 25, 3) := by decide +kernel
theorem dX4_currentOfStage_20 : decode cX4_currentOfStage 20 = .ok (.getfield 143, 3) := by decide +kernel
theorem dX4_currentOfStage_23 : decode cX4_currentOfStage 23 = .ok (.aload_n 0, 1) := by decide +kernel
theorem dX4_currentOfStage_24 : decode cX4_currentOfStage 24 = .ok (.getfield 40, 3) := by decide +kernel
theorem dX4_currentOfStage_27 : decode cX4_currentOfStage 27 = .ok (.iaload, 1) := by decide +kernel
theorem dX4_currentOfStage_28 : decode cX4_currentOfStage 28 = .ok (.lookupswitch 82 #[(0, 28), (1, 41)], 28) := by decide +kernel
theorem dX4_currentOfStage_56 : decode cX4_currentOfStage 56 = .ok (.aload_n 0, 1) := by decide +kernel
theorem dX4_currentOfStage_57 : decode cX4_currentOfStage 57 = .ok (.getfield 25, 3) := by decide +kernel
theorem dX4_currentOfStage_60 : decode cX4_currentOfStage 60 = .ok (.getfield 146, 3) := by decide +kernel
theorem dX4_currentOfStage_63 : decode cX4_currentOfStage 63 = .ok (.aload_n 0, 1) := by decide +kernel
theorem dX4_currentOfStage_64 : decode cX4_currentOfStage 64 = .ok (.getfield 40, 3) := by decide +kernel
theorem dX4_currentOfStage_67 : decode cX4_currentOfStage 67 = .ok (.iaload, 1) := by decide +kernel
theorem dX4_currentOfStage_68 : decode cX4_currentOfStage 68 = .ok (.ireturn, 1) := by decide +kernel
theorem dX4_currentOfStage_69 : decode cX4_currentOfStage 69 = .ok (.aload_n 0, 1) := by decide +kernel
theorem dX4_currentOfStage_70 : decode cX4_currentOfStage 70 = .ok (.aload_n 0, 1) := by decide +kernel
theorem dX4_currentOfStage_71 : decode cX4_currentOfStage 71 = .ok (.aload_n 0, 1) := by decide +kernel
theorem dX4_currentOfStage_72 : decode cX4_currentOfStage 72 = .ok (.getfield 40, 3) := by decide +kernel
theorem dX4_currentOfStage_75 : decode cX4_currentOfStage 75 = .ok (.invokevirtual 149, 3) := by decide +kernel
theorem dX4_currentOfStage_78 : decode cX4_currentOfStage 78 = .ok (.aload_n 0, 1) := by decide +kernel
theorem dX4_currentOfStage_79 : decode cX4_currentOfStage 79 = .ok (.iconst 0, 1) := by decide +kernel
theorem dX4_currentOfStage_80 : decode cX4_currentOfStage 80 = .ok (.invokevirtual 152, 3) := by decide +kernel
theorem dX4_currentOfStage_83 : decode cX4_currentOfStage 83 = .ok (.isub, 1) := by decide +kernel
theorem dX4_currentOfStage_84 : decode cX4_currentOfStage 84 = .ok (.invokevirtual 155, 3) := by decide +kernel
theorem dX4_currentOfStage_87 : decode cX4_currentOfStage 87 = .ok (.istore_n 1, 1) := by decide +kernel
theorem dX4_currentOfStage_88 : decode cX4_currentOfStage 88 = .ok (.iload_n 1, 1) := by decide +kernel
theorem dX4_currentOfStage_89 : decode cX4_currentOfStage 89 = .ok (.aload_n 0, 1) := by decide +kernel
theorem dX4_currentOfStage_90 : decode cX4_currentOfStage 90 = .ok (.getfield 25, 3) := by decide +kernel
theorem dX4_currentOfStage_93 : decode cX4_currentOfStage 93 = .ok (.getfield 158, 3) := by decide +kernel
theorem dX4_currentOfStage_96 : decode cX4_currentOfStage 96 = .ok (.aload_n 0, 1) := by decide +kernel
theorem dX4_currentOfStage_97 : decode cX4_currentOfStage 97 = .ok (.getfield 40, 3) := by decide +kernel
theorem dX4_currentOfStage_100 : decode cX4_currentOfStage 100 = .ok (.iaload, 1) := by decide +kernel
theorem dX4_currentOfStage_101 : decode cX4_currentOfStage 101 = .ok (.if_icmp .gt 7, 3) := by decide +kernel
theorem dX4_currentOfStage_104 : decode cX4_currentOfStage 104 = .ok (.iconst (-1), 1) := by decide +kernel
theorem dX4_currentOfStage_105 : decode cX4_currentOfStage 105 = .ok (.goto 4, 3) := by decide +kernel
theorem dX4_currentOfStage_108 : decode cX4_currentOfStage 108 = .ok (.iload_n 1, 1) := by decide +kernel
theorem dX4_currentOfStage_109 : decode cX4_currentOfStage 109 = .ok (.ireturn, 1) := by decide +kernel
theorem dX4_currentOfStage_110 : decode cX4_currentOfStage 110 = .ok (.iconst 0, 1) := by decide +kernel
theorem dX4_currentOfStage_111 : decode cX4_currentOfStage 111 = .ok (.ireturn, 1) := by decide +kernel
theorem dX4_heldCurrent_0 : decode cX4_heldCurrent 0 = .ok (.aload_n 0, 1) := by decide +kernel
theorem dX4_heldCurrent_1 : decode cX4_heldCurrent 1 = .ok (.getfield 9, 3) := by decide +kernel
theorem dX4_heldCurrent_4 : decode cX4_heldCurrent 4 = .ok (.iconst 1, 1) := by decide +kernel
theorem dX4_heldCurrent_5 : decode cX4_heldCurrent 5 = .ok (.iaload, 1) := by decide +kernel
theorem dX4_heldCurrent_6 : decode cX4_heldCurrent 6 = .ok (.istore_n 2, 1) := by decide +kernel
theorem dX4_heldCurrent_7 : decode cX4_heldCurrent 7 = .ok (.iload_n 1, 1) := by decide +kernel
theorem dX4_heldCurrent_8 : decode cX4_heldCurrent 8 = .ok (.ifCond .ge 5, 3) := by decide +kernel
theorem dX4_heldCurrent_11 : decode cX4_heldCurrent 11 = .ok (.iconst 0, 1) := by decide +kernel
theorem dX4_heldCurrent_12 : decode cX4_heldCurrent 12 = .ok (.ireturn, 1) := by decide +kernel
theorem dX4_heldCurrent_13 : decode cX4_heldCurrent 13 = .ok (.iload_n 2, 1) := by decide +kernel
theorem dX4_heldCurrent_14 : decode cX4_heldCurrent 14 = .ok (.ifCond .gt 7, 3) := by decide +kernel
theorem dX4_heldCurrent_17 : decode cX4_heldCurrent 17 = .ok (.sipush 2000, 3) := by decide +kernel
theorem dX4_heldCurrent_20 : decode cX4_heldCurrent 20 = .ok (.ireturn, 1) := by decide +kernel
theorem dX4_heldCurrent_21 : decode cX4_heldCurrent 21 = .ok (.sipush 2000, 3) := by decide +kernel
theorem dX4_heldCurrent_24 : decode cX4_heldCurrent 24 = .ok (.iload_n 1, 1) := by decide +kernel
theorem dX4_heldCurrent_25 : decode cX4_heldCurrent 25 = .ok (.iconst 1, 1) := by decide +kernel
theorem dX4_heldCurrent_26 : decode cX4_heldCurrent 26 = .ok (.iadd, 1) := by decide +kernel
theorem dX4_heldCurrent_27 : decode cX4_heldCurrent 27 = .ok (.sipush 1000, 3) := by decide +kernel
theorem dX4_heldCurrent_30 : decode cX4_heldCurrent 30 = .ok (.imul, 1) := by decide +kernel
theorem dX4_heldCurrent_31 : decode cX4_heldCurrent 31 = .ok (.iconst 1, 1) := by decide +kernel
theorem dX4_heldCurrent_32 : decode cX4_heldCurrent 32 = .ok (.isub, 1) := by decide +kernel
theorem dX4_heldCurrent_33 : decode cX4_heldCurrent 33 = .ok (.iload_n 2, 1) := by decide +kernel
theorem dX4_heldCurrent_34 : decode cX4_heldCurrent 34 = .ok (.idiv, 1) := by decide +kernel
theorem dX4_heldCurrent_35 : decode cX4_heldCurrent 35 = .ok (.invokestatic 161, 3) := by decide +kernel
theorem dX4_heldCurrent_38 : decode cX4_heldCurrent 38 = .ok (.ireturn, 1) := by decide +kernel
set_option maxRecDepth 20000 in
theorem ggX4_endsBehind_X3_has : GoodIn wsX4_endsBehind wsX3_has := goodIn_r _ [10, 11, 56, 57, 58, 59, 60] (by decide +kernel) (by decide +kernel)
set_option maxRecDepth 20000 in
theorem gX4_endsBehind_X3_has : GoodIn wsX4_endsBehind (wsV RX4 137 RX3 yX3_has wsX3_has) := goodIn_app (goodIn_of _ (by decide +kernel)) ggX4_endsBehind_X3_has
set_option maxRecDepth 20000 in
theorem ggX4_endsBehind_X4_greatestVoltage : GoodIn wsX4_endsBehind wsX4_greatestVoltage := goodIn_r _ [16, 17, 18, 19, 20, 21, 22, 23, 24, 25, 26, 27, 28, 29, 30, 31, 32, 44, 45, 46, 47, 48, 49, 50, 51, 52, 53, 54, 55, 61, 62, 63, 64, 65, 66, 67, 68] (by decide +kernel) (by decide +kernel)
set_option maxRecDepth 20000 in
theorem gX4_endsBehind_X4_greatestVoltage : GoodIn wsX4_endsBehind (wsV RX4 152 RX4 yX4_greatestVoltage wsX4_greatestVoltage) := goodIn_app (goodIn_of _ (by decide +kernel)) ggX4_endsBehind_X4_greatestVoltage
set_option maxRecDepth 20000 in
theorem ggX4_endsBehind_X4_limitOfNow : GoodIn wsX4_endsBehind wsX4_limitOfNow := goodIn_r _ [36, 1, 18, 37, 38, 39, 9, 40, 41, 42, 43, 44, 45, 46, 47, 48, 49, 50, 51, 52, 53, 54, 55, 56, 57, 58, 59, 60] (by decide +kernel) (by decide +kernel)
set_option maxRecDepth 20000 in
theorem gX4_endsBehind_X4_limitOfNow : GoodIn wsX4_endsBehind (wsV RX4 149 RX4 yX4_limitOfNow wsX4_limitOfNow) := goodIn_app (goodIn_of _ (by decide +kernel)) ggX4_endsBehind_X4_limitOfNow
theorem dX4_endsBehind_0 : decode cX4_endsBehind 0 = .ok (.aload_n 0, 1) := by decide +kernel
theorem dX4_endsBehind_1 : decode cX4_endsBehind 1 = .ok (.getfield 25, 3) := by decide +kernel
theorem dX4_endsBehind_4 : decode cX4_endsBehind 4 = .ok (.aload_n 0, 1) := by decide +kernel
theorem dX4_endsBehind_5 : decode cX4_endsBehind 5 = .ok (.getfield 40, 3) := by decide +kernel
theorem dX4_endsBehind_8 : decode cX4_endsBehind 8 = .ok (.invokevirtual 137, 3) := by decide +kernel
theorem dX4_endsBehind_11 : decode cX4_endsBehind 11 = .ok (.ifCond .ne 5, 3) := by decide +kernel
theorem dX4_endsBehind_14 : decode cX4_endsBehind 14 = .ok (.iconst 1, 1) := by decide +kernel
theorem dX4_endsBehind_15 : decode cX4_endsBehind 15 = .ok (.ireturn, 1) := by decide +kernel
theorem dX4_endsBehind_16 : decode cX4_endsBehind 16 = .ok (.aload_n 0, 1) := by decide +kernel
theorem dX4_endsBehind_17 : decode cX4_endsBehind 17 = .ok (.getfield 25, 3) := by decide +kernel
theorem dX4_endsBehind_20 : decode cX4_endsBehind 20 = .ok (.getfield 143, 3) := by decide +kernel
theorem dX4_endsBehind_23 : decode cX4_endsBehind 23 = .ok (.aload_n 0, 1) := by decide +kernel
theorem dX4_endsBehind_24 : decode cX4_endsBehind 24 = .ok (.getfield 40, 3) := by decide +kernel
theorem dX4_endsBehind_27 : decode cX4_endsBehind 27 = .ok (.iaload, 1) := by decide +kernel
theorem dX4_endsBehind_28 : decode cX4_endsBehind 28 = .ok (.lookupswitch 75 #[(0, 28), (2, 50)], 28) := by decide +kernel
theorem dX4_endsBehind_56 : decode cX4_endsBehind 56 = .ok (.aload_n 0, 1) := by decide +kernel
theorem dX4_endsBehind_57 : decode cX4_endsBehind 57 = .ok (.iload_n 1, 1) := by decide +kernel
theorem dX4_endsBehind_58 : decode cX4_endsBehind 58 = .ok (.invokevirtual 152, 3) := by decide +kernel
theorem dX4_endsBehind_61 : decode cX4_endsBehind 61 = .ok (.aload_n 0, 1) := by decide +kernel
theorem dX4_endsBehind_62 : decode cX4_endsBehind 62 = .ok (.aload_n 0, 1) := by decide +kernel
theorem dX4_endsBehind_63 : decode cX4_endsBehind 63 = .ok (.getfield 40, 3) := by decide +kernel
theorem dX4_endsBehind_66 : decode cX4_endsBehind 66 = .ok (.invokevirtual 149, 3) := by decide +kernel
theorem dX4_endsBehind_69 : decode cX4_endsBehind 69 = .ok (.if_icmp .lt 7, 3) := by decide +kernel
theorem dX4_endsBehind_72 : decode cX4_endsBehind 72 = .ok (.iconst 1, 1) := by decide +kernel
theorem dX4_endsBehind_73 : decode cX4_endsBehind 73 = .ok (.goto 4, 3) := by decide +kernel
theorem dX4_endsBehind_76 : decode cX4_endsBehind 76 = .ok (.iconst 0, 1) := by decide +kernel
theorem dX4_endsBehind_77 : decode cX4_endsBehind 77 = .ok (.ireturn, 1) := by decide +kernel
theorem dX4_endsBehind_78 : decode cX4_endsBehind 78 = .ok (.aload_n 0, 1) := by decide +kernel
theorem dX4_endsBehind_79 : decode cX4_endsBehind 79 = .ok (.getfield 43, 3) := by decide +kernel
theorem dX4_endsBehind_82 : decode cX4_endsBehind 82 = .ok (.aload_n 0, 1) := by decide +kernel
theorem dX4_endsBehind_83 : decode cX4_endsBehind 83 = .ok (.getfield 25, 3) := by decide +kernel
theorem dX4_endsBehind_86 : decode cX4_endsBehind 86 = .ok (.getfield 146, 3) := by decide +kernel
theorem dX4_endsBehind_89 : decode cX4_endsBehind 89 = .ok (.aload_n 0, 1) := by decide +kernel
theorem dX4_endsBehind_90 : decode cX4_endsBehind 90 = .ok (.getfield 40, 3) := by decide +kernel
theorem dX4_endsBehind_93 : decode cX4_endsBehind 93 = .ok (.iaload, 1) := by decide +kernel
theorem dX4_endsBehind_94 : decode cX4_endsBehind 94 = .ok (.if_icmp .lt 7, 3) := by decide +kernel
theorem dX4_endsBehind_97 : decode cX4_endsBehind 97 = .ok (.iconst 1, 1) := by decide +kernel
theorem dX4_endsBehind_98 : decode cX4_endsBehind 98 = .ok (.goto 4, 3) := by decide +kernel
theorem dX4_endsBehind_101 : decode cX4_endsBehind 101 = .ok (.iconst 0, 1) := by decide +kernel
theorem dX4_endsBehind_102 : decode cX4_endsBehind 102 = .ok (.ireturn, 1) := by decide +kernel
theorem dX4_endsBehind_103 : decode cX4_endsBehind 103 = .ok (.iconst 0, 1) := by decide +kernel
theorem dX4_endsBehind_104 : decode cX4_endsBehind 104 = .ok (.ireturn, 1) := by decide +kernel
theorem dX5_init_0 : decode cX5_init 0 = .ok (.aload_n 0, 1) := by decide +kernel
theorem dX5_init_1 : decode cX5_init 1 = .ok (.invokespecial 3, 3) := by decide +kernel
theorem dX5_init_4 : decode cX5_init 4 = .ok (.aload_n 0, 1) := by decide +kernel
theorem dX5_init_5 : decode cX5_init 5 = .ok (.iconst 0, 1) := by decide +kernel
theorem dX5_init_6 : decode cX5_init 6 = .ok (.putfield 9, 3) := by decide +kernel
theorem dX5_init_9 : decode cX5_init 9 = .ok (.aload_n 0, 1) := by decide +kernel
theorem dX5_init_10 : decode cX5_init 10 = .ok (.iconst 0, 1) := by decide +kernel
theorem dX5_init_11 : decode cX5_init 11 = .ok (.putfield 15, 3) := by decide +kernel
theorem dX5_init_14 : decode cX5_init 14 = .ok (.aload_n 0, 1) := by decide +kernel
theorem dX5_init_15 : decode cX5_init 15 = .ok (.bipush 60, 2) := by decide +kernel
theorem dX5_init_17 : decode cX5_init 17 = .ok (.newarray .char, 2) := by decide +kernel
theorem dX5_init_19 : decode cX5_init 19 = .ok (.putfield 18, 3) := by decide +kernel
theorem dX5_init_22 : decode cX5_init 22 = .ok (.return_, 1) := by decide +kernel
theorem dX5_add_0 : decode cX5_add 0 = .ok (.aload_n 0, 1) := by decide +kernel
theorem dX5_add_1 : decode cX5_add 1 = .ok (.getfield 9, 3) := by decide +kernel
theorem dX5_add_4 : decode cX5_add 4 = .ok (.bipush 60, 2) := by decide +kernel
theorem dX5_add_6 : decode cX5_add 6 = .ok (.if_icmp .ge 23, 3) := by decide +kernel
theorem dX5_add_9 : decode cX5_add 9 = .ok (.aload_n 0, 1) := by decide +kernel
theorem dX5_add_10 : decode cX5_add 10 = .ok (.getfield 18, 3) := by decide +kernel
theorem dX5_add_13 : decode cX5_add 13 = .ok (.aload_n 0, 1) := by decide +kernel
theorem dX5_add_14 : decode cX5_add 14 = .ok (.getfield 9, 3) := by decide +kernel
theorem dX5_add_17 : decode cX5_add 17 = .ok (.iload_n 1, 1) := by decide +kernel
theorem dX5_add_18 : decode cX5_add 18 = .ok (.castore, 1) := by decide +kernel
theorem dX5_add_19 : decode cX5_add 19 = .ok (.aload_n 0, 1) := by decide +kernel
theorem dX5_add_20 : decode cX5_add 20 = .ok (.dup, 1) := by decide +kernel
theorem dX5_add_21 : decode cX5_add 21 = .ok (.getfield 9, 3) := by decide +kernel
theorem dX5_add_24 : decode cX5_add 24 = .ok (.iconst 1, 1) := by decide +kernel
theorem dX5_add_25 : decode cX5_add 25 = .ok (.iadd, 1) := by decide +kernel
theorem dX5_add_26 : decode cX5_add 26 = .ok (.putfield 9, 3) := by decide +kernel
theorem dX5_add_29 : decode cX5_add 29 = .ok (.return_, 1) := by decide +kernel
set_option maxRecDepth 20000 in
theorem ggX5_readInto_X5_readStage : GoodIn wsX5_readInto wsX5_readStage := goodIn_r _ [8, 2, 9, 10, 11, 7, 12, 1, 3, 13, 14, 15, 16, 17, 18, 19, 20, 21, 22, 23, 24, 25, 26, 27, 28, 29, 30, 31, 32, 33, 34, 35, 36, 37, 38, 39, 40, 41, 42, 43, 44, 45, 46, 50, 51, 52, 53, 54, 47, 48, 49] (by decide +kernel) (by decide +kernel)
set_option maxRecDepth 20000 in
theorem gX5_readInto_X5_readStage : GoodIn wsX5_readInto (wsV RX5 27 RX5 yX5_readStage wsX5_readStage) := goodIn_app (goodIn_of _ (by decide +kernel)) ggX5_readInto_X5_readStage
set_option maxRecDepth 20000 in
theorem ggX5_readInto_X5_accepts : GoodIn wsX5_readInto wsX5_accepts := goodIn_r _ [12, 1, 3, 13, 47, 48, 49] (by decide +kernel) (by decide +kernel)
set_option maxRecDepth 20000 in
theorem gX5_readInto_X5_accepts : GoodIn wsX5_readInto (wsV RX5 31 RX5 yX5_accepts wsX5_accepts) := goodIn_app (goodIn_of _ (by decide +kernel)) ggX5_readInto_X5_accepts
theorem dX5_readInto_0 : decode cX5_readInto 0 = .ok (.aload_n 0, 1) := by decide +kernel
theorem dX5_readInto_1 : decode cX5_readInto 1 = .ok (.iconst 0, 1) := by decide +kernel
theorem dX5_readInto_2 : decode cX5_readInto 2 = .ok (.putfield 15, 3) := by decide +kernel
theorem dX5_readInto_5 : decode cX5_readInto 5 = .ok (.aload_n 1, 1) := by decide +kernel
theorem dX5_readInto_6 : decode cX5_readInto 6 = .ok (.iconst 0, 1) := by decide +kernel
theorem dX5_readInto_7 : decode cX5_readInto 7 = .ok (.putfield 22, 3) := by decide +kernel
theorem dX5_readInto_10 : decode cX5_readInto 10 = .ok (.iconst 1, 1) := by decide +kernel
theorem dX5_readInto_11 : decode cX5_readInto 11 = .ok (.istore_n 2, 1) := by decide +kernel
theorem dX5_readInto_12 : decode cX5_readInto 12 = .ok (.iload_n 2, 1) := by decide +kernel
theorem dX5_readInto_13 : decode cX5_readInto 13 = .ok (.iconst 5, 1) := by decide +kernel
theorem dX5_readInto_14 : decode cX5_readInto 14 = .ok (.if_icmp .gt 48, 3) := by decide +kernel
theorem dX5_readInto_17 : decode cX5_readInto 17 = .ok (.aload_n 0, 1) := by decide +kernel
theorem dX5_readInto_18 : decode cX5_readInto 18 = .ok (.aload_n 1, 1) := by decide +kernel
theorem dX5_readInto_19 : decode cX5_readInto 19 = .ok (.invokevirtual 27, 3) := by decide +kernel
theorem dX5_readInto_22 : decode cX5_readInto 22 = .ok (.ifCond .ne 5, 3) := by decide +kernel
theorem dX5_readInto_25 : decode cX5_readInto 25 = .ok (.iconst 0, 1) := by decide +kernel
theorem dX5_readInto_26 : decode cX5_readInto 26 = .ok (.ireturn, 1) := by decide +kernel
theorem dX5_readInto_27 : decode cX5_readInto 27 = .ok (.aload_n 0, 1) := by decide +kernel
theorem dX5_readInto_28 : decode cX5_readInto 28 = .ok (.getfield 15, 3) := by decide +kernel
theorem dX5_readInto_31 : decode cX5_readInto 31 = .ok (.aload_n 0, 1) := by decide +kernel
theorem dX5_readInto_32 : decode cX5_readInto 32 = .ok (.getfield 9, 3) := by decide +kernel
theorem dX5_readInto_35 : decode cX5_readInto 35 = .ok (.if_icmp .ne 5, 3) := by decide +kernel
theorem dX5_readInto_38 : decode cX5_readInto 38 = .ok (.iconst 1, 1) := by decide +kernel
theorem dX5_readInto_39 : decode cX5_readInto 39 = .ok (.ireturn, 1) := by decide +kernel
theorem dX5_readInto_40 : decode cX5_readInto 40 = .ok (.iload_n 2, 1) := by decide +kernel
theorem dX5_readInto_41 : decode cX5_readInto 41 = .ok (.iconst 5, 1) := by decide +kernel
theorem dX5_readInto_42 : decode cX5_readInto 42 = .ok (.if_icmp .eq 12, 3) := by decide +kernel
theorem dX5_readInto_45 : decode cX5_readInto 45 = .ok (.aload_n 0, 1) := by decide +kernel
theorem dX5_readInto_46 : decode cX5_readInto 46 = .ok (.bipush 59, 2) := by decide +kernel
theorem dX5_readInto_48 : decode cX5_readInto 48 = .ok (.invokevirtual 31, 3) := by decide +kernel
theorem dX5_readInto_51 : decode cX5_readInto 51 = .ok (.ifCond .ne 5, 3) := by decide +kernel
theorem dX5_readInto_54 : decode cX5_readInto 54 = .ok (.iconst 0, 1) := by decide +kernel
theorem dX5_readInto_55 : decode cX5_readInto 55 = .ok (.ireturn, 1) := by decide +kernel
theorem dX5_readInto_56 : decode cX5_readInto 56 = .ok (.iinc 2 1, 3) := by decide +kernel
theorem dX5_readInto_59 : decode cX5_readInto 59 = .ok (.goto (-47), 3) := by decide +kernel
theorem dX5_readInto_62 : decode cX5_readInto 62 = .ok (.iconst 0, 1) := by decide +kernel
theorem dX5_readInto_63 : decode cX5_readInto 63 = .ok (.ireturn, 1) := by decide +kernel
set_option maxRecDepth 20000 in
theorem ggX5_readStage_X5_accepts : GoodIn wsX5_readStage wsX5_accepts := goodIn_r _ [6, 7, 8, 9, 48, 49, 50] (by decide +kernel) (by decide +kernel)
set_option maxRecDepth 20000 in
theorem gX5_readStage_X5_accepts : GoodIn wsX5_readStage (wsV RX5 31 RX5 yX5_accepts wsX5_accepts) := goodIn_app (goodIn_of _ (by decide +kernel)) ggX5_readStage_X5_accepts
set_option maxRecDepth 20000 in
theorem ggX5_readStage_X3_addStage : GoodIn wsX5_readStage wsX3_addStage := goodIn_r _ [14, 15, 16, 17, 18, 19, 43, 44, 45, 46, 47] (by decide +kernel) (by decide +kernel)
set_option maxRecDepth 20000 in
theorem gX5_readStage_X3_addStage : GoodIn wsX5_readStage (wsV RX5 35 RX3 yX3_addStage wsX3_addStage) := goodIn_app (goodIn_of _ (by decide +kernel)) ggX5_readStage_X3_addStage
set_option maxRecDepth 20000 in
theorem ggX5_readStage_X5_readPair : GoodIn wsX5_readStage wsX5_readPair := goodIn_r _ [23, 24, 25, 26, 27, 5, 28, 29, 30, 31, 32, 33, 9, 7, 34, 35, 36, 37, 8, 2, 3, 4, 6, 43, 44, 45, 46, 47, 48, 49, 50] (by decide +kernel) (by decide +kernel)
set_option maxRecDepth 20000 in
theorem gX5_readStage_X5_readPair : GoodIn wsX5_readStage (wsV RX5 39 RX5 yX5_readPair wsX5_readPair) := goodIn_app (goodIn_of _ (by decide +kernel)) ggX5_readStage_X5_readPair
set_option maxRecDepth 20000 in
theorem ggX5_readStage_X5_readTimer : GoodIn wsX5_readStage wsX5_readTimer := goodIn_r _ [41, 42, 2, 3, 4, 5, 6, 7, 8, 9, 30, 31, 32, 33, 34, 35, 36, 37, 43, 44, 45, 46, 47, 48, 49, 50] (by decide +kernel) (by decide +kernel)
set_option maxRecDepth 20000 in
theorem gX5_readStage_X5_readTimer : GoodIn wsX5_readStage (wsV RX5 43 RX5 yX5_readTimer wsX5_readTimer) := goodIn_app (goodIn_of _ (by decide +kernel)) ggX5_readStage_X5_readTimer
set_option maxRecDepth 20000 in
theorem ggX5_readStage_X5_readFirst : GoodIn wsX5_readStage wsX5_readFirst := goodIn_r _ [28, 29, 30, 31, 32, 5, 33, 9, 7, 34, 35, 36, 37, 8, 43, 44, 45, 46, 47, 48, 49, 50] (by decide +kernel) (by decide +kernel)
set_option maxRecDepth 20000 in
theorem gX5_readStage_X5_readFirst : GoodIn wsX5_readStage (wsV RX5 46 RX5 yX5_readFirst wsX5_readFirst) := goodIn_app (goodIn_of _ (by decide +kernel)) ggX5_readStage_X5_readFirst
theorem dX5_readStage_0 : decode cX5_readStage 0 = .ok (.aload_n 1, 1) := by decide +kernel
theorem dX5_readStage_1 : decode cX5_readStage 1 = .ok (.getfield 22, 3) := by decide +kernel
theorem dX5_readStage_4 : decode cX5_readStage 4 = .ok (.istore_n 2, 1) := by decide +kernel
theorem dX5_readStage_5 : decode cX5_readStage 5 = .ok (.aload_n 0, 1) := by decide +kernel
theorem dX5_readStage_6 : decode cX5_readStage 6 = .ok (.bipush 99, 2) := by decide +kernel
theorem dX5_readStage_8 : decode cX5_readStage 8 = .ok (.invokevirtual 31, 3) := by decide +kernel
theorem dX5_readStage_11 : decode cX5_readStage 11 = .ok (.ifCond .eq 35, 3) := by decide +kernel
theorem dX5_readStage_14 : decode cX5_readStage 14 = .ok (.aload_n 1, 1) := by decide +kernel
theorem dX5_readStage_15 : decode cX5_readStage 15 = .ok (.iconst 0, 1) := by decide +kernel
theorem dX5_readStage_16 : decode cX5_readStage 16 = .ok (.invokevirtual 35, 3) := by decide +kernel
theorem dX5_readStage_19 : decode cX5_readStage 19 = .ok (.ifCond .eq 25, 3) := by decide +kernel
theorem dX5_readStage_22 : decode cX5_readStage 22 = .ok (.aload_n 0, 1) := by decide +kernel
theorem dX5_readStage_23 : decode cX5_readStage 23 = .ok (.aload_n 1, 1) := by decide +kernel
theorem dX5_readStage_24 : decode cX5_readStage 24 = .ok (.iload_n 2, 1) := by decide +kernel
theorem dX5_readStage_25 : decode cX5_readStage 25 = .ok (.invokevirtual 39, 3) := by decide +kernel
theorem dX5_readStage_28 : decode cX5_readStage 28 = .ok (.ifCond .eq 16, 3) := by decide +kernel
theorem dX5_readStage_31 : decode cX5_readStage 31 = .ok (.aload_n 0, 1) := by decide +kernel
theorem dX5_readStage_32 : decode cX5_readStage 32 = .ok (.aload_n 1, 1) := by decide +kernel
theorem dX5_readStage_33 : decode cX5_readStage 33 = .ok (.iload_n 2, 1) := by decide +kernel
theorem dX5_readStage_34 : decode cX5_readStage 34 = .ok (.invokevirtual 43, 3) := by decide +kernel
theorem dX5_readStage_37 : decode cX5_readStage 37 = .ok (.ifCond .eq 7, 3) := by decide +kernel
theorem dX5_readStage_40 : decode cX5_readStage 40 = .ok (.iconst 1, 1) := by decide +kernel
theorem dX5_readStage_41 : decode cX5_readStage 41 = .ok (.goto 4, 3) := by decide +kernel
theorem dX5_readStage_44 : decode cX5_readStage 44 = .ok (.iconst 0, 1) := by decide +kernel
theorem dX5_readStage_45 : decode cX5_readStage 45 = .ok (.ireturn, 1) := by decide +kernel
theorem dX5_readStage_46 : decode cX5_readStage 46 = .ok (.aload_n 0, 1) := by decide +kernel
theorem dX5_readStage_47 : decode cX5_readStage 47 = .ok (.bipush 118, 2) := by decide +kernel
theorem dX5_readStage_49 : decode cX5_readStage 49 = .ok (.invokevirtual 31, 3) := by decide +kernel
theorem dX5_readStage_52 : decode cX5_readStage 52 = .ok (.ifCond .eq 35, 3) := by decide +kernel
theorem dX5_readStage_55 : decode cX5_readStage 55 = .ok (.aload_n 1, 1) := by decide +kernel
theorem dX5_readStage_56 : decode cX5_readStage 56 = .ok (.iconst 1, 1) := by decide +kernel
theorem dX5_readStage_57 : decode cX5_readStage 57 = .ok (.invokevirtual 35, 3) := by decide +kernel
theorem dX5_readStage_60 : decode cX5_readStage 60 = .ok (.ifCond .eq 25, 3) := by decide +kernel
theorem dX5_readStage_63 : decode cX5_readStage 63 = .ok (.aload_n 0, 1) := by decide +kernel
theorem dX5_readStage_64 : decode cX5_readStage 64 = .ok (.aload_n 1, 1) := by decide +kernel
theorem dX5_readStage_65 : decode cX5_readStage 65 = .ok (.iload_n 2, 1) := by decide +kernel
theorem dX5_readStage_66 : decode cX5_readStage 66 = .ok (.invokevirtual 39, 3) := by decide +kernel
theorem dX5_readStage_69 : decode cX5_readStage 69 = .ok (.ifCond .eq 16, 3) := by decide +kernel
theorem dX5_readStage_72 : decode cX5_readStage 72 = .ok (.aload_n 0, 1) := by decide +kernel
theorem dX5_readStage_73 : decode cX5_readStage 73 = .ok (.aload_n 1, 1) := by decide +kernel
theorem dX5_readStage_74 : decode cX5_readStage 74 = .ok (.iload_n 2, 1) := by decide +kernel
theorem dX5_readStage_75 : decode cX5_readStage 75 = .ok (.invokevirtual 43, 3) := by decide +kernel
theorem dX5_readStage_78 : decode cX5_readStage 78 = .ok (.ifCond .eq 7, 3) := by decide +kernel
theorem dX5_readStage_81 : decode cX5_readStage 81 = .ok (.iconst 1, 1) := by decide +kernel
theorem dX5_readStage_82 : decode cX5_readStage 82 = .ok (.goto 4, 3) := by decide +kernel
theorem dX5_readStage_85 : decode cX5_readStage 85 = .ok (.iconst 0, 1) := by decide +kernel
theorem dX5_readStage_86 : decode cX5_readStage 86 = .ok (.ireturn, 1) := by decide +kernel
theorem dX5_readStage_87 : decode cX5_readStage 87 = .ok (.aload_n 0, 1) := by decide +kernel
theorem dX5_readStage_88 : decode cX5_readStage 88 = .ok (.bipush 114, 2) := by decide +kernel
theorem dX5_readStage_90 : decode cX5_readStage 90 = .ok (.invokevirtual 31, 3) := by decide +kernel
theorem dX5_readStage_93 : decode cX5_readStage 93 = .ok (.ifCond .eq 33, 3) := by decide +kernel
theorem dX5_readStage_96 : decode cX5_readStage 96 = .ok (.aload_n 1, 1) := by decide +kernel
theorem dX5_readStage_97 : decode cX5_readStage 97 = .ok (.iconst 2, 1) := by decide +kernel
theorem dX5_readStage_98 : decode cX5_readStage 98 = .ok (.invokevirtual 35, 3) := by decide +kernel
theorem dX5_readStage_101 : decode cX5_readStage 101 = .ok (.ifCond .eq 25, 3) := by decide +kernel
theorem dX5_readStage_104 : decode cX5_readStage 104 = .ok (.aload_n 0, 1) := by decide +kernel
theorem dX5_readStage_105 : decode cX5_readStage 105 = .ok (.aload_n 1, 1) := by decide +kernel
theorem dX5_readStage_106 : decode cX5_readStage 106 = .ok (.iload_n 2, 1) := by decide +kernel
theorem dX5_readStage_107 : decode cX5_readStage 107 = .ok (.invokevirtual 46, 3) := by decide +kernel
theorem dX5_readStage_110 : decode cX5_readStage 110 = .ok (.ifCond .eq 16, 3) := by decide +kernel
theorem dX5_readStage_113 : decode cX5_readStage 113 = .ok (.aload_n 0, 1) := by decide +kernel
theorem dX5_readStage_114 : decode cX5_readStage 114 = .ok (.aload_n 1, 1) := by decide +kernel
theorem dX5_readStage_115 : decode cX5_readStage 115 = .ok (.iload_n 2, 1) := by decide +kernel
theorem dX5_readStage_116 : decode cX5_readStage 116 = .ok (.invokevirtual 43, 3) := by decide +kernel
theorem dX5_readStage_119 : decode cX5_readStage 119 = .ok (.ifCond .eq 7, 3) := by decide +kernel
theorem dX5_readStage_122 : decode cX5_readStage 122 = .ok (.iconst 1, 1) := by decide +kernel
theorem dX5_readStage_123 : decode cX5_readStage 123 = .ok (.goto 4, 3) := by decide +kernel
theorem dX5_readStage_126 : decode cX5_readStage 126 = .ok (.iconst 0, 1) := by decide +kernel
theorem dX5_readStage_127 : decode cX5_readStage 127 = .ok (.ireturn, 1) := by decide +kernel
set_option maxRecDepth 20000 in
theorem ggX5_readPair_X5_readFirst : GoodIn wsX5_readPair wsX5_readFirst := goodIn_r _ [6, 7, 8, 9, 10, 5, 11, 12, 13, 14, 15, 16, 17, 18, 23, 24, 25, 26, 27, 28, 29, 30] (by decide +kernel) (by decide +kernel)
set_option maxRecDepth 20000 in
theorem gX5_readPair_X5_readFirst : GoodIn wsX5_readPair (wsV RX5 46 RX5 yX5_readFirst wsX5_readFirst) := goodIn_app (goodIn_of _ (by decide +kernel)) ggX5_readPair_X5_readFirst
set_option maxRecDepth 20000 in
theorem ggX5_readPair_X5_accepts : GoodIn wsX5_readPair wsX5_accepts := goodIn_r _ [22, 13, 18, 12, 28, 29, 30] (by decide +kernel) (by decide +kernel)
set_option maxRecDepth 20000 in
theorem gX5_readPair_X5_accepts : GoodIn wsX5_readPair (wsV RX5 31 RX5 yX5_accepts wsX5_accepts) := goodIn_app (goodIn_of _ (by decide +kernel)) ggX5_readPair_X5_accepts
set_option maxRecDepth 20000 in
theorem ggX5_readPair_X5_readNumber : GoodIn wsX5_readPair wsX5_readNumber := goodIn_r _ [11, 12, 13, 14, 15, 16, 5, 17, 18, 28, 29, 30] (by decide +kernel) (by decide +kernel)
set_option maxRecDepth 20000 in
theorem gX5_readPair_X5_readNumber : GoodIn wsX5_readPair (wsV RX5 49 RX5 yX5_readNumber wsX5_readNumber) := goodIn_app (goodIn_of _ (by decide +kernel)) ggX5_readPair_X5_readNumber
theorem dX5_readPair_0 : decode cX5_readPair 0 = .ok (.aload_n 0, 1) := by decide +kernel
theorem dX5_readPair_1 : decode cX5_readPair 1 = .ok (.aload_n 1, 1) := by decide +kernel
theorem dX5_readPair_2 : decode cX5_readPair 2 = .ok (.iload_n 2, 1) := by decide +kernel
theorem dX5_readPair_3 : decode cX5_readPair 3 = .ok (.invokevirtual 46, 3) := by decide +kernel
theorem dX5_readPair_6 : decode cX5_readPair 6 = .ok (.ifCond .eq 12, 3) := by decide +kernel
theorem dX5_readPair_9 : decode cX5_readPair 9 = .ok (.aload_n 0, 1) := by decide +kernel
theorem dX5_readPair_10 : decode cX5_readPair 10 = .ok (.bipush 58, 2) := by decide +kernel
theorem dX5_readPair_12 : decode cX5_readPair 12 = .ok (.invokevirtual 31, 3) := by decide +kernel
theorem dX5_readPair_15 : decode cX5_readPair 15 = .ok (.ifCond .ne 5, 3) := by decide +kernel
theorem dX5_readPair_18 : decode cX5_readPair 18 = .ok (.iconst 0, 1) := by decide +kernel
theorem dX5_readPair_19 : decode cX5_readPair 19 = .ok (.ireturn, 1) := by decide +kernel
theorem dX5_readPair_20 : decode cX5_readPair 20 = .ok (.aload_n 0, 1) := by decide +kernel
theorem dX5_readPair_21 : decode cX5_readPair 21 = .ok (.bipush 48, 2) := by decide +kernel
theorem dX5_readPair_23 : decode cX5_readPair 23 = .ok (.invokevirtual 49, 3) := by decide +kernel
theorem dX5_readPair_26 : decode cX5_readPair 26 = .ok (.istore_n 3, 1) := by decide +kernel
theorem dX5_readPair_27 : decode cX5_readPair 27 = .ok (.aload_n 1, 1) := by decide +kernel
theorem dX5_readPair_28 : decode cX5_readPair 28 = .ok (.getfield 53, 3) := by decide +kernel
theorem dX5_readPair_31 : decode cX5_readPair 31 = .ok (.iload_n 2, 1) := by decide +kernel
theorem dX5_readPair_32 : decode cX5_readPair 32 = .ok (.iload_n 3, 1) := by decide +kernel
theorem dX5_readPair_33 : decode cX5_readPair 33 = .ok (.iastore, 1) := by decide +kernel
theorem dX5_readPair_34 : decode cX5_readPair 34 = .ok (.iload_n 3, 1) := by decide +kernel
theorem dX5_readPair_35 : decode cX5_readPair 35 = .ok (.iconst (-1), 1) := by decide +kernel
theorem dX5_readPair_36 : decode cX5_readPair 36 = .ok (.if_icmp .eq 7, 3) := by decide +kernel
theorem dX5_readPair_39 : decode cX5_readPair 39 = .ok (.iconst 1, 1) := by decide +kernel
theorem dX5_readPair_40 : decode cX5_readPair 40 = .ok (.goto 4, 3) := by decide +kernel
theorem dX5_readPair_43 : decode cX5_readPair 43 = .ok (.iconst 0, 1) := by decide +kernel
theorem dX5_readPair_44 : decode cX5_readPair 44 = .ok (.ireturn, 1) := by decide +kernel
set_option maxRecDepth 20000 in
theorem ggX5_readFirst_X5_readNumber : GoodIn wsX5_readFirst wsX5_readNumber := goodIn_r _ [6, 7, 8, 9, 10, 11, 5, 12, 13, 19, 20, 21] (by decide +kernel) (by decide +kernel)
set_option maxRecDepth 20000 in
theorem gX5_readFirst_X5_readNumber : GoodIn wsX5_readFirst (wsV RX5 49 RX5 yX5_readNumber wsX5_readNumber) := goodIn_app (goodIn_of _ (by decide +kernel)) ggX5_readFirst_X5_readNumber
theorem dX5_readFirst_0 : decode cX5_readFirst 0 = .ok (.aload_n 0, 1) := by decide +kernel
theorem dX5_readFirst_1 : decode cX5_readFirst 1 = .ok (.bipush 48, 2) := by decide +kernel
theorem dX5_readFirst_3 : decode cX5_readFirst 3 = .ok (.invokevirtual 49, 3) := by decide +kernel
theorem dX5_readFirst_6 : decode cX5_readFirst 6 = .ok (.istore_n 3, 1) := by decide +kernel
theorem dX5_readFirst_7 : decode cX5_readFirst 7 = .ok (.aload_n 1, 1) := by decide +kernel
theorem dX5_readFirst_8 : decode cX5_readFirst 8 = .ok (.getfield 57, 3) := by decide +kernel
theorem dX5_readFirst_11 : decode cX5_readFirst 11 = .ok (.iload_n 2, 1) := by decide +kernel
theorem dX5_readFirst_12 : decode cX5_readFirst 12 = .ok (.iload_n 3, 1) := by decide +kernel
theorem dX5_readFirst_13 : decode cX5_readFirst 13 = .ok (.iastore, 1) := by decide +kernel
theorem dX5_readFirst_14 : decode cX5_readFirst 14 = .ok (.iload_n 3, 1) := by decide +kernel
theorem dX5_readFirst_15 : decode cX5_readFirst 15 = .ok (.iconst (-1), 1) := by decide +kernel
theorem dX5_readFirst_16 : decode cX5_readFirst 16 = .ok (.if_icmp .eq 7, 3) := by decide +kernel
theorem dX5_readFirst_19 : decode cX5_readFirst 19 = .ok (.iconst 1, 1) := by decide +kernel
theorem dX5_readFirst_20 : decode cX5_readFirst 20 = .ok (.goto 4, 3) := by decide +kernel
theorem dX5_readFirst_23 : decode cX5_readFirst 23 = .ok (.iconst 0, 1) := by decide +kernel
theorem dX5_readFirst_24 : decode cX5_readFirst 24 = .ok (.ireturn, 1) := by decide +kernel
set_option maxRecDepth 20000 in
theorem ggX5_readTimer_X5_accepts : GoodIn wsX5_readTimer wsX5_accepts := goodIn_r _ [6, 7, 8, 9, 23, 24, 25] (by decide +kernel) (by decide +kernel)
set_option maxRecDepth 20000 in
theorem gX5_readTimer_X5_accepts : GoodIn wsX5_readTimer (wsV RX5 31 RX5 yX5_accepts wsX5_accepts) := goodIn_app (goodIn_of _ (by decide +kernel)) ggX5_readTimer_X5_accepts
set_option maxRecDepth 20000 in
theorem ggX5_readTimer_X5_readNumber : GoodIn wsX5_readTimer wsX5_readNumber := goodIn_r _ [13, 9, 7, 14, 15, 16, 5, 17, 8, 23, 24, 25] (by decide +kernel) (by decide +kernel)
set_option maxRecDepth 20000 in
theorem gX5_readTimer_X5_readNumber : GoodIn wsX5_readTimer (wsV RX5 49 RX5 yX5_readNumber wsX5_readNumber) := goodIn_app (goodIn_of _ (by decide +kernel)) ggX5_readTimer_X5_readNumber
theorem dX5_readTimer_0 : decode cX5_readTimer 0 = .ok (.aload_n 0, 1) := by decide +kernel
theorem dX5_readTimer_1 : decode cX5_readTimer 1 = .ok (.bipush 47, 2) := by decide +kernel
theorem dX5_readTimer_3 : decode cX5_readTimer 3 = .ok (.invokevirtual 31, 3) := by decide +kernel
theorem dX5_readTimer_6 : decode cX5_readTimer 6 = .ok (.ifCond .ne 5, 3) := by decide +kernel
theorem dX5_readTimer_9 : decode cX5_readTimer 9 = .ok (.iconst 1, 1) := by decide +kernel
theorem dX5_readTimer_10 : decode cX5_readTimer 10 = .ok (.ireturn, 1) := by decide +kernel
theorem dX5_readTimer_11 : decode cX5_readTimer 11 = .ok (.aload_n 0, 1) := by decide +kernel
theorem dX5_readTimer_12 : decode cX5_readTimer 12 = .ok (.bipush 49, 2) := by decide +kernel
theorem dX5_readTimer_14 : decode cX5_readTimer 14 = .ok (.invokevirtual 49, 3) := by decide +kernel
theorem dX5_readTimer_17 : decode cX5_readTimer 17 = .ok (.istore_n 3, 1) := by decide +kernel
theorem dX5_readTimer_18 : decode cX5_readTimer 18 = .ok (.aload_n 1, 1) := by decide +kernel
theorem dX5_readTimer_19 : decode cX5_readTimer 19 = .ok (.getfield 60, 3) := by decide +kernel
theorem dX5_readTimer_22 : decode cX5_readTimer 22 = .ok (.iload_n 2, 1) := by decide +kernel
theorem dX5_readTimer_23 : decode cX5_readTimer 23 = .ok (.iload_n 3, 1) := by decide +kernel
theorem dX5_readTimer_24 : decode cX5_readTimer 24 = .ok (.iastore, 1) := by decide +kernel
theorem dX5_readTimer_25 : decode cX5_readTimer 25 = .ok (.iload_n 3, 1) := by decide +kernel
theorem dX5_readTimer_26 : decode cX5_readTimer 26 = .ok (.iconst (-1), 1) := by decide +kernel
theorem dX5_readTimer_27 : decode cX5_readTimer 27 = .ok (.if_icmp .eq 7, 3) := by decide +kernel
theorem dX5_readTimer_30 : decode cX5_readTimer 30 = .ok (.iconst 1, 1) := by decide +kernel
theorem dX5_readTimer_31 : decode cX5_readTimer 31 = .ok (.goto 4, 3) := by decide +kernel
theorem dX5_readTimer_34 : decode cX5_readTimer 34 = .ok (.iconst 0, 1) := by decide +kernel
theorem dX5_readTimer_35 : decode cX5_readTimer 35 = .ok (.ireturn, 1) := by decide +kernel
theorem dX5_accepts_0 : decode cX5_accepts 0 = .ok (.aload_n 0, 1) := by decide +kernel
theorem dX5_accepts_1 : decode cX5_accepts 1 = .ok (.getfield 15, 3) := by decide +kernel
theorem dX5_accepts_4 : decode cX5_accepts 4 = .ok (.aload_n 0, 1) := by decide +kernel
theorem dX5_accepts_5 : decode cX5_accepts 5 = .ok (.getfield 9, 3) := by decide +kernel
theorem dX5_accepts_8 : decode cX5_accepts 8 = .ok (.if_icmp .ge 16, 3) := by decide +kernel
theorem dX5_accepts_11 : decode cX5_accepts 11 = .ok (.aload_n 0, 1) := by decide +kernel
theorem dX5_accepts_12 : decode cX5_accepts 12 = .ok (.getfield 18, 3) := by decide +kernel
theorem dX5_accepts_15 : decode cX5_accepts 15 = .ok (.aload_n 0, 1) := by decide +kernel
theorem dX5_accepts_16 : decode cX5_accepts 16 = .ok (.getfield 15, 3) := by decide +kernel
theorem dX5_accepts_19 : decode cX5_accepts 19 = .ok (.caload, 1) := by decide +kernel
theorem dX5_accepts_20 : decode cX5_accepts 20 = .ok (.iload_n 1, 1) := by decide +kernel
theorem dX5_accepts_21 : decode cX5_accepts 21 = .ok (.if_icmp .eq 5, 3) := by decide +kernel
theorem dX5_accepts_24 : decode cX5_accepts 24 = .ok (.iconst 0, 1) := by decide +kernel
theorem dX5_accepts_25 : decode cX5_accepts 25 = .ok (.ireturn, 1) := by decide +kernel
theorem dX5_accepts_26 : decode cX5_accepts 26 = .ok (.aload_n 0, 1) := by decide +kernel
theorem dX5_accepts_27 : decode cX5_accepts 27 = .ok (.dup, 1) := by decide +kernel
theorem dX5_accepts_28 : decode cX5_accepts 28 = .ok (.getfield 15, 3) := by decide +kernel
theorem dX5_accepts_31 : decode cX5_accepts 31 = .ok (.iconst 1, 1) := by decide +kernel
theorem dX5_accepts_32 : decode cX5_accepts 32 = .ok (.iadd, 1) := by decide +kernel
theorem dX5_accepts_33 : decode cX5_accepts 33 = .ok (.putfield 15, 3) := by decide +kernel
theorem dX5_accepts_36 : decode cX5_accepts 36 = .ok (.iconst 1, 1) := by decide +kernel
theorem dX5_accepts_37 : decode cX5_accepts 37 = .ok (.ireturn, 1) := by decide +kernel
theorem dX5_isDigitAhead_0 : decode cX5_isDigitAhead 0 = .ok (.aload_n 0, 1) := by decide +kernel
theorem dX5_isDigitAhead_1 : decode cX5_isDigitAhead 1 = .ok (.getfield 15, 3) := by decide +kernel
theorem dX5_isDigitAhead_4 : decode cX5_isDigitAhead 4 = .ok (.aload_n 0, 1) := by decide +kernel
theorem dX5_isDigitAhead_5 : decode cX5_isDigitAhead 5 = .ok (.getfield 9, 3) := by decide +kernel
theorem dX5_isDigitAhead_8 : decode cX5_isDigitAhead 8 = .ok (.if_icmp .ge 34, 3) := by decide +kernel
theorem dX5_isDigitAhead_11 : decode cX5_isDigitAhead 11 = .ok (.aload_n 0, 1) := by decide +kernel
theorem dX5_isDigitAhead_12 : decode cX5_isDigitAhead 12 = .ok (.getfield 18, 3) := by decide +kernel
theorem dX5_isDigitAhead_15 : decode cX5_isDigitAhead 15 = .ok (.aload_n 0, 1) := by decide +kernel
theorem dX5_isDigitAhead_16 : decode cX5_isDigitAhead 16 = .ok (.getfield 15, 3) := by decide +kernel
theorem dX5_isDigitAhead_19 : decode cX5_isDigitAhead 19 = .ok (.caload, 1) := by decide +kernel
theorem dX5_isDigitAhead_20 : decode cX5_isDigitAhead 20 = .ok (.iload_n 1, 1) := by decide +kernel
theorem dX5_isDigitAhead_21 : decode cX5_isDigitAhead 21 = .ok (.if_icmp .lt 21, 3) := by decide +kernel
theorem dX5_isDigitAhead_24 : decode cX5_isDigitAhead 24 = .ok (.aload_n 0, 1) := by decide +kernel
theorem dX5_isDigitAhead_25 : decode cX5_isDigitAhead 25 = .ok (.getfield 18, 3) := by decide +kernel
theorem dX5_isDigitAhead_28 : decode cX5_isDigitAhead 28 = .ok (.aload_n 0, 1) := by decide +kernel
theorem dX5_isDigitAhead_29 : decode cX5_isDigitAhead 29 = .ok (.getfield 15, 3) := by decide +kernel
theorem dX5_isDigitAhead_32 : decode cX5_isDigitAhead 32 = .ok (.caload, 1) := by decide +kernel
theorem dX5_isDigitAhead_33 : decode cX5_isDigitAhead 33 = .ok (.bipush 57, 2) := by decide +kernel
theorem dX5_isDigitAhead_35 : decode cX5_isDigitAhead 35 = .ok (.if_icmp .gt 7, 3) := by decide +kernel
theorem dX5_isDigitAhead_38 : decode cX5_isDigitAhead 38 = .ok (.iconst 1, 1) := by decide +kernel
theorem dX5_isDigitAhead_39 : decode cX5_isDigitAhead 39 = .ok (.goto 4, 3) := by decide +kernel
theorem dX5_isDigitAhead_42 : decode cX5_isDigitAhead 42 = .ok (.iconst 0, 1) := by decide +kernel
theorem dX5_isDigitAhead_43 : decode cX5_isDigitAhead 43 = .ok (.ireturn, 1) := by decide +kernel
set_option maxRecDepth 20000 in
theorem ggX5_readNumber_X5_isDigitAhead : GoodIn wsX5_readNumber wsX5_isDigitAhead := goodIn_r _ [7, 2, 8, 1, 9, 10, 11] (by decide +kernel) (by decide +kernel)
set_option maxRecDepth 20000 in
theorem gX5_readNumber_X5_isDigitAhead : GoodIn wsX5_readNumber (wsV RX5 63 RX5 yX5_isDigitAhead wsX5_isDigitAhead) := goodIn_app (goodIn_of _ (by decide +kernel)) ggX5_readNumber_X5_isDigitAhead
theorem dX5_readNumber_0 : decode cX5_readNumber 0 = .ok (.aload_n 0, 1) := by decide +kernel
theorem dX5_readNumber_1 : decode cX5_readNumber 1 = .ok (.iload_n 1, 1) := by decide +kernel
theorem dX5_readNumber_2 : decode cX5_readNumber 2 = .ok (.invokevirtual 63, 3) := by decide +kernel
theorem dX5_readNumber_5 : decode cX5_readNumber 5 = .ok (.ifCond .ne 5, 3) := by decide +kernel
theorem dX5_readNumber_8 : decode cX5_readNumber 8 = .ok (.iconst (-1), 1) := by decide +kernel
theorem dX5_readNumber_9 : decode cX5_readNumber 9 = .ok (.ireturn, 1) := by decide +kernel
theorem dX5_readNumber_10 : decode cX5_readNumber 10 = .ok (.aload_n 0, 1) := by decide +kernel
theorem dX5_readNumber_11 : decode cX5_readNumber 11 = .ok (.getfield 18, 3) := by decide +kernel
theorem dX5_readNumber_14 : decode cX5_readNumber 14 = .ok (.aload_n 0, 1) := by decide +kernel
theorem dX5_readNumber_15 : decode cX5_readNumber 15 = .ok (.getfield 15, 3) := by decide +kernel
theorem dX5_readNumber_18 : decode cX5_readNumber 18 = .ok (.caload, 1) := by decide +kernel
theorem dX5_readNumber_19 : decode cX5_readNumber 19 = .ok (.bipush 48, 2) := by decide +kernel
theorem dX5_readNumber_21 : decode cX5_readNumber 21 = .ok (.isub, 1) := by decide +kernel
theorem dX5_readNumber_22 : decode cX5_readNumber 22 = .ok (.istore_n 2, 1) := by decide +kernel
theorem dX5_readNumber_23 : decode cX5_readNumber 23 = .ok (.aload_n 0, 1) := by decide +kernel
theorem dX5_readNumber_24 : decode cX5_readNumber 24 = .ok (.dup, 1) := by decide +kernel
theorem dX5_readNumber_25 : decode cX5_readNumber 25 = .ok (.getfield 15, 3) := by decide +kernel
theorem dX5_readNumber_28 : decode cX5_readNumber 28 = .ok (.iconst 1, 1) := by decide +kernel
theorem dX5_readNumber_29 : decode cX5_readNumber 29 = .ok (.iadd, 1) := by decide +kernel
theorem dX5_readNumber_30 : decode cX5_readNumber 30 = .ok (.putfield 15, 3) := by decide +kernel
theorem dX5_readNumber_33 : decode cX5_readNumber 33 = .ok (.iconst 1, 1) := by decide +kernel
theorem dX5_readNumber_34 : decode cX5_readNumber 34 = .ok (.istore_n 3, 1) := by decide +kernel
theorem dX5_readNumber_35 : decode cX5_readNumber 35 = .ok (.iload_n 3, 1) := by decide +kernel
theorem dX5_readNumber_36 : decode cX5_readNumber 36 = .ok (.iconst 4, 1) := by decide +kernel
theorem dX5_readNumber_37 : decode cX5_readNumber 37 = .ok (.if_icmp .ge 50, 3) := by decide +kernel
theorem dX5_readNumber_40 : decode cX5_readNumber 40 = .ok (.iload_n 2, 1) := by decide +kernel
theorem dX5_readNumber_41 : decode cX5_readNumber 41 = .ok (.ifCond .le 46, 3) := by decide +kernel
theorem dX5_readNumber_44 : decode cX5_readNumber 44 = .ok (.aload_n 0, 1) := by decide +kernel
theorem dX5_readNumber_45 : decode cX5_readNumber 45 = .ok (.bipush 48, 2) := by decide +kernel
theorem dX5_readNumber_47 : decode cX5_readNumber 47 = .ok (.invokevirtual 63, 3) := by decide +kernel
theorem dX5_readNumber_50 : decode cX5_readNumber 50 = .ok (.ifCond .eq 37, 3) := by decide +kernel
theorem dX5_readNumber_53 : decode cX5_readNumber 53 = .ok (.iload_n 2, 1) := by decide +kernel
theorem dX5_readNumber_54 : decode cX5_readNumber 54 = .ok (.bipush 10, 2) := by decide +kernel
theorem dX5_readNumber_56 : decode cX5_readNumber 56 = .ok (.imul, 1) := by decide +kernel
theorem dX5_readNumber_57 : decode cX5_readNumber 57 = .ok (.aload_n 0, 1) := by decide +kernel
theorem dX5_readNumber_58 : decode cX5_readNumber 58 = .ok (.getfield 18, 3) := by decide +kernel
theorem dX5_readNumber_61 : decode cX5_readNumber 61 = .ok (.aload_n 0, 1) := by decide +kernel
theorem dX5_readNumber_62 : decode cX5_readNumber 62 = .ok (.getfield 15, 3) := by decide +kernel
theorem dX5_readNumber_65 : decode cX5_readNumber 65 = .ok (.caload, 1) := by decide +kernel
theorem dX5_readNumber_66 : decode cX5_readNumber 66 = .ok (.iadd, 1) := by decide +kernel
theorem dX5_readNumber_67 : decode cX5_readNumber 67 = .ok (.bipush 48, 2) := by decide +kernel
theorem dX5_readNumber_69 : decode cX5_readNumber 69 = .ok (.isub, 1) := by decide +kernel
theorem dX5_readNumber_70 : decode cX5_readNumber 70 = .ok (.istore_n 2, 1) := by decide +kernel
theorem dX5_readNumber_71 : decode cX5_readNumber 71 = .ok (.aload_n 0, 1) := by decide +kernel
theorem dX5_readNumber_72 : decode cX5_readNumber 72 = .ok (.dup, 1) := by decide +kernel
theorem dX5_readNumber_73 : decode cX5_readNumber 73 = .ok (.getfield 15, 3) := by decide +kernel
theorem dX5_readNumber_76 : decode cX5_readNumber 76 = .ok (.iconst 1, 1) := by decide +kernel
theorem dX5_readNumber_77 : decode cX5_readNumber 77 = .ok (.iadd, 1) := by decide +kernel
theorem dX5_readNumber_78 : decode cX5_readNumber 78 = .ok (.putfield 15, 3) := by decide +kernel
theorem dX5_readNumber_81 : decode cX5_readNumber 81 = .ok (.iinc 3 1, 3) := by decide +kernel
theorem dX5_readNumber_84 : decode cX5_readNumber 84 = .ok (.goto (-49), 3) := by decide +kernel
theorem dX5_readNumber_87 : decode cX5_readNumber 87 = .ok (.iload_n 2, 1) := by decide +kernel
theorem dX5_readNumber_88 : decode cX5_readNumber 88 = .ok (.ireturn, 1) := by decide +kernel
set_option maxRecDepth 20000 in
theorem ggX6_init_X4_init : GoodIn wsX6_init wsX4_init := goodIn_r _ [24, 25, 2, 3, 26, 27, 28, 29, 30, 31, 32, 20, 21, 33, 34, 35, 36, 37, 38, 39, 40, 41, 42, 43, 44, 45, 46, 47, 48, 49, 50, 51, 52, 53, 54, 55, 56, 57, 58, 59, 60, 61, 62, 63, 64, 65, 66, 67, 68, 69, 70, 71, 72, 95, 96, 97, 98, 99, 100, 101, 102, 103, 104, 105, 106, 124, 125, 126, 127, 128, 129, 130, 131, 119, 120, 121, 122, 123, 132, 133, 134, 135, 136] (by decide +kernel) (by decide +kernel)
set_option maxRecDepth 20000 in
theorem gX6_init_X4_init_n9 : GoodIn wsX6_init (wsX4_init) := ggX6_init_X4_init
set_option maxRecDepth 20000 in
theorem ggX6_init_X1_init : GoodIn wsX6_init wsX1_init := goodIn_r _ [75, 76, 2, 3, 77, 78, 79, 5, 6, 23, 24, 25, 26, 27, 28, 29, 30, 31, 32, 20, 21, 33, 34, 35, 36, 37, 38, 39, 40, 41, 42, 43, 44, 45, 46, 47, 48, 49, 50, 51, 52, 53, 54, 55, 56, 57, 58, 59, 60, 61, 62, 63, 64, 65, 66, 67, 68, 69, 70, 71, 72, 114, 115, 95, 96, 97, 98, 99, 100, 101, 102, 103, 104, 105, 106, 124, 125, 126, 127, 128, 129, 130, 131, 119, 120, 121, 122, 123, 132, 133, 134, 135, 136] (by decide +kernel) (by decide +kernel)
set_option maxRecDepth 20000 in
theorem gX6_init_X1_init : GoodIn wsX6_init (wsX1_init) := ggX6_init_X1_init
set_option maxRecDepth 20000 in
theorem ggX6_init_X5_init : GoodIn wsX6_init wsX5_init := goodIn_r _ [81, 82, 2, 3, 83, 84, 85, 86, 116, 117, 118] (by decide +kernel) (by decide +kernel)
set_option maxRecDepth 20000 in
theorem gX6_init_X5_init_n35 : GoodIn wsX6_init (wsX5_init) := ggX6_init_X5_init
set_option maxRecDepth 20000 in
theorem ggX6_init_X3_init : GoodIn wsX6_init wsX3_init := goodIn_r _ [58, 59, 2, 3, 60, 26, 61, 62, 63, 64, 119, 120, 121, 122, 123] (by decide +kernel) (by decide +kernel)
set_option maxRecDepth 20000 in
theorem gX6_init_X3_init_n42 : GoodIn wsX6_init (wsX3_init) := ggX6_init_X3_init
set_option maxRecDepth 20000 in
theorem ggX6_init_X4_setUp : GoodIn wsX6_init wsX4_setUp := goodIn_r _ [90, 27, 91, 92, 93, 94, 95, 96, 97, 98, 99, 100, 101, 102, 103, 104, 105, 106] (by decide +kernel) (by decide +kernel)
set_option maxRecDepth 20000 in
theorem gX6_init_X4_setUp : GoodIn wsX6_init (wsV RX6 47 RX4 yX4_setUp wsX4_setUp) := goodIn_app (goodIn_of _ (by decide +kernel)) ggX6_init_X4_setUp
theorem dX6_init_0 : decode cX6_init 0 = .ok (.aload_n 0, 1) := by decide +kernel
theorem dX6_init_1 : decode cX6_init 1 = .ok (.invokespecial 1, 3) := by decide +kernel
theorem dX6_init_4 : decode cX6_init 4 = .ok (.aload_n 0, 1) := by decide +kernel
theorem dX6_init_5 : decode cX6_init 5 = .ok (.new 7, 3) := by decide +kernel
theorem dX6_init_8 : decode cX6_init 8 = .ok (.dup, 1) := by decide +kernel
theorem dX6_init_9 : decode cX6_init 9 = .ok (.invokespecial 9, 3) := by decide +kernel
theorem dX6_init_12 : decode cX6_init 12 = .ok (.putfield 10, 3) := by decide +kernel
theorem dX6_init_15 : decode cX6_init 15 = .ok (.aload_n 0, 1) := by decide +kernel
theorem dX6_init_16 : decode cX6_init 16 = .ok (.new 7, 3) := by decide +kernel
theorem dX6_init_19 : decode cX6_init 19 = .ok (.dup, 1) := by decide +kernel
theorem dX6_init_20 : decode cX6_init 20 = .ok (.invokespecial 9, 3) := by decide +kernel
theorem dX6_init_23 : decode cX6_init 23 = .ok (.putfield 16, 3) := by decide +kernel
theorem dX6_init_26 : decode cX6_init 26 = .ok (.aload_n 0, 1) := by decide +kernel
theorem dX6_init_27 : decode cX6_init 27 = .ok (.new 7, 3) := by decide +kernel
theorem dX6_init_30 : decode cX6_init 30 = .ok (.dup, 1) := by decide +kernel
theorem dX6_init_31 : decode cX6_init 31 = .ok (.invokespecial 9, 3) := by decide +kernel
theorem dX6_init_34 : decode cX6_init 34 = .ok (.putfield 19, 3) := by decide +kernel
theorem dX6_init_37 : decode cX6_init 37 = .ok (.aload_n 0, 1) := by decide +kernel
theorem dX6_init_38 : decode cX6_init 38 = .ok (.iconst 0, 1) := by decide +kernel
theorem dX6_init_39 : decode cX6_init 39 = .ok (.putfield 22, 3) := by decide +kernel
theorem dX6_init_42 : decode cX6_init 42 = .ok (.aload_n 0, 1) := by decide +kernel
theorem dX6_init_43 : decode cX6_init 43 = .ok (.new 26, 3) := by decide +kernel
theorem dX6_init_46 : decode cX6_init 46 = .ok (.dup, 1) := by decide +kernel
theorem dX6_init_47 : decode cX6_init 47 = .ok (.invokespecial 28, 3) := by decide +kernel
theorem dX6_init_50 : decode cX6_init 50 = .ok (.putfield 29, 3) := by decide +kernel
theorem dX6_init_53 : decode cX6_init 53 = .ok (.aload_n 0, 1) := by decide +kernel
theorem dX6_init_54 : decode cX6_init 54 = .ok (.new 33, 3) := by decide +kernel
theorem dX6_init_57 : decode cX6_init 57 = .ok (.dup, 1) := by decide +kernel
theorem dX6_init_58 : decode cX6_init 58 = .ok (.invokespecial 35, 3) := by decide +kernel
theorem dX6_init_61 : decode cX6_init 61 = .ok (.putfield 36, 3) := by decide +kernel
theorem dX6_init_64 : decode cX6_init 64 = .ok (.aload_n 0, 1) := by decide +kernel
theorem dX6_init_65 : decode cX6_init 65 = .ok (.new 40, 3) := by decide +kernel
theorem dX6_init_68 : decode cX6_init 68 = .ok (.dup, 1) := by decide +kernel
theorem dX6_init_69 : decode cX6_init 69 = .ok (.invokespecial 42, 3) := by decide +kernel
theorem dX6_init_72 : decode cX6_init 72 = .ok (.putfield 43, 3) := by decide +kernel
theorem dX6_init_75 : decode cX6_init 75 = .ok (.aload_n 0, 1) := by decide +kernel
theorem dX6_init_76 : decode cX6_init 76 = .ok (.getfield 10, 3) := by decide +kernel
theorem dX6_init_79 : decode cX6_init 79 = .ok (.invokevirtual 47, 3) := by decide +kernel
theorem dX6_init_82 : decode cX6_init 82 = .ok (.return_, 1) := by decide +kernel
end
section
set_option maxRecDepth 20000 in
theorem ggX6_battery_X1_add : GoodIn wsX6_battery wsX1_add := goodIn_r _ [10, 11, 12, 13, 14, 15, 9, 16, 17, 18, 19, 20, 21, 22, 23, 24, 25, 26, 27, 28, 29, 30, 31, 32, 33, 34, 35, 36, 37, 38, 39, 40, 41, 42, 43, 44, 45, 46, 47, 48, 49, 50, 51, 52, 53, 54, 55, 56, 57, 58, 59, 60, 61, 62, 63, 64, 65, 66, 67, 68, 69, 70, 71, 72, 73, 112, 113, 92, 93, 94, 95, 96, 97, 98, 99, 100, 101, 102, 103, 104, 105, 106, 107, 108, 109, 110, 111, 114, 115, 116, 117, 118, 119, 120, 121, 122, 123] (by decide +kernel) (by decide +kernel)
set_option maxRecDepth 20000 in
theorem gX6_battery_X1_add : GoodIn wsX6_battery (wsV RX6 60 RX1 yX1_add wsX1_add) := goodIn_app (goodIn_of _ (by decide +kernel)) ggX6_battery_X1_add
set_option maxRecDepth 20000 in
theorem ggX6_battery_X0_putEmpty : GoodIn wsX6_battery wsX0_putEmpty := goodIn_r _ [77, 78, 79, 80, 81, 82, 83, 84, 43, 44, 46, 47, 48, 49, 50, 51, 104, 105, 106, 107, 108, 109, 110, 111] (by decide +kernel) (by decide +kernel)
set_option maxRecDepth 20000 in
theorem gX6_battery_X0_putEmpty : GoodIn wsX6_battery (wsV RX6 64 RX0 yX0_putEmpty wsX0_putEmpty) := goodIn_app (goodIn_of _ (by decide +kernel)) ggX6_battery_X0_putEmpty
theorem dX6_battery_0 : decode cX6_battery 0 = .ok (.iload_n 1, 1) := by decide +kernel
theorem dX6_battery_1 : decode cX6_battery 1 = .ok (.iconst 1, 1) := by decide +kernel
theorem dX6_battery_2 : decode cX6_battery 2 = .ok (.if_icmp .lt 9, 3) := by decide +kernel
theorem dX6_battery_5 : decode cX6_battery 5 = .ok (.iload_n 1, 1) := by decide +kernel
theorem dX6_battery_6 : decode cX6_battery 6 = .ok (.bipush 6, 2) := by decide +kernel
theorem dX6_battery_8 : decode cX6_battery 8 = .ok (.if_icmp .le 6, 3) := by decide +kernel
theorem dX6_battery_11 : decode cX6_battery 11 = .ok (.bipush (-2), 2) := by decide +kernel
theorem dX6_battery_13 : decode cX6_battery 13 = .ok (.ireturn, 1) := by decide +kernel
theorem dX6_battery_14 : decode cX6_battery 14 = .ok (.aload_n 0, 1) := by decide +kernel
theorem dX6_battery_15 : decode cX6_battery 15 = .ok (.getfield 10, 3) := by decide +kernel
theorem dX6_battery_18 : decode cX6_battery 18 = .ok (.getfield 50, 3) := by decide +kernel
theorem dX6_battery_21 : decode cX6_battery 21 = .ok (.getfield 54, 3) := by decide +kernel
theorem dX6_battery_24 : decode cX6_battery 24 = .ok (.istore_n 2, 1) := by decide +kernel
theorem dX6_battery_25 : decode cX6_battery 25 = .ok (.aload_n 0, 1) := by decide +kernel
theorem dX6_battery_26 : decode cX6_battery 26 = .ok (.getfield 29, 3) := by decide +kernel
theorem dX6_battery_29 : decode cX6_battery 29 = .ok (.aload_n 0, 1) := by decide +kernel
theorem dX6_battery_30 : decode cX6_battery 30 = .ok (.getfield 10, 3) := by decide +kernel
theorem dX6_battery_33 : decode cX6_battery 33 = .ok (.invokevirtual 60, 3) := by decide +kernel
theorem dX6_battery_36 : decode cX6_battery 36 = .ok (.aload_n 0, 1) := by decide +kernel
theorem dX6_battery_37 : decode cX6_battery 37 = .ok (.getfield 10, 3) := by decide +kernel
theorem dX6_battery_40 : decode cX6_battery 40 = .ok (.getfield 50, 3) := by decide +kernel
theorem dX6_battery_43 : decode cX6_battery 43 = .ok (.iload_n 1, 1) := by decide +kernel
theorem dX6_battery_44 : decode cX6_battery 44 = .ok (.invokevirtual 64, 3) := by decide +kernel
theorem dX6_battery_47 : decode cX6_battery 47 = .ok (.aload_n 0, 1) := by decide +kernel
theorem dX6_battery_48 : decode cX6_battery 48 = .ok (.getfield 10, 3) := by decide +kernel
theorem dX6_battery_51 : decode cX6_battery 51 = .ok (.iconst 0, 1) := by decide +kernel
theorem dX6_battery_52 : decode cX6_battery 52 = .ok (.putfield 68, 3) := by decide +kernel
theorem dX6_battery_55 : decode cX6_battery 55 = .ok (.iload_n 2, 1) := by decide +kernel
theorem dX6_battery_56 : decode cX6_battery 56 = .ok (.ireturn, 1) := by decide +kernel
set_option maxRecDepth 20000 in
theorem ggX6_setCharge_X0_has : GoodIn wsX6_setCharge wsX0_has := goodIn_r _ [11, 12, 98, 99, 100, 101, 102, 103, 104, 105] (by decide +kernel) (by decide +kernel)
set_option maxRecDepth 20000 in
theorem gX6_setCharge_X0_has : GoodIn wsX6_setCharge (wsV RX6 71 RX0 yX0_has wsX0_has) := goodIn_app (goodIn_of _ (by decide +kernel)) ggX6_setCharge_X0_has
set_option maxRecDepth 20000 in
theorem ggX6_setCharge_X1_add : GoodIn wsX6_setCharge wsX1_add := goodIn_r _ [17, 18, 19, 20, 21, 22, 16, 23, 24, 25, 26, 27, 28, 29, 30, 31, 32, 33, 34, 35, 36, 37, 38, 39, 40, 41, 42, 43, 44, 45, 46, 47, 10, 48, 12, 49, 50, 51, 52, 53, 54, 55, 56, 57, 58, 59, 60, 61, 62, 63, 64, 65, 66, 67, 68, 69, 70, 71, 72, 73, 74, 75, 76, 77, 78, 106, 107, 86, 87, 88, 89, 90, 91, 92, 93, 94, 95, 96, 97, 98, 99, 100, 101, 102, 103, 104, 105, 108, 109, 110, 111, 112, 113, 114, 115, 116, 117] (by decide +kernel) (by decide +kernel)
set_option maxRecDepth 20000 in
theorem gX6_setCharge_X1_add : GoodIn wsX6_setCharge (wsV RX6 60 RX1 yX1_add wsX1_add) := goodIn_app (goodIn_of _ (by decide +kernel)) ggX6_setCharge_X1_add
theorem dX6_setCharge_0 : decode cX6_setCharge 0 = .ok (.aload_n 0, 1) := by decide +kernel
theorem dX6_setCharge_1 : decode cX6_setCharge 1 = .ok (.getfield 10, 3) := by decide +kernel
theorem dX6_setCharge_4 : decode cX6_setCharge 4 = .ok (.getfield 50, 3) := by decide +kernel
theorem dX6_setCharge_7 : decode cX6_setCharge 7 = .ok (.iload_n 1, 1) := by decide +kernel
theorem dX6_setCharge_8 : decode cX6_setCharge 8 = .ok (.invokevirtual 71, 3) := by decide +kernel
theorem dX6_setCharge_11 : decode cX6_setCharge 11 = .ok (.ifCond .ne 5, 3) := by decide +kernel
theorem dX6_setCharge_14 : decode cX6_setCharge 14 = .ok (.iconst (-1), 1) := by decide +kernel
theorem dX6_setCharge_15 : decode cX6_setCharge 15 = .ok (.ireturn, 1) := by decide +kernel
theorem dX6_setCharge_16 : decode cX6_setCharge 16 = .ok (.iload_n 2, 1) := by decide +kernel
theorem dX6_setCharge_17 : decode cX6_setCharge 17 = .ok (.ifCond .lt 16, 3) := by decide +kernel
theorem dX6_setCharge_20 : decode cX6_setCharge 20 = .ok (.iload_n 2, 1) := by decide +kernel
theorem dX6_setCharge_21 : decode cX6_setCharge 21 = .ok (.aload_n 0, 1) := by decide +kernel
theorem dX6_setCharge_22 : decode cX6_setCharge 22 = .ok (.getfield 10, 3) := by decide +kernel
theorem dX6_setCharge_25 : decode cX6_setCharge 25 = .ok (.getfield 75, 3) := by decide +kernel
theorem dX6_setCharge_28 : decode cX6_setCharge 28 = .ok (.iconst 0, 1) := by decide +kernel
theorem dX6_setCharge_29 : decode cX6_setCharge 29 = .ok (.iaload, 1) := by decide +kernel
theorem dX6_setCharge_30 : decode cX6_setCharge 30 = .ok (.if_icmp .le 6, 3) := by decide +kernel
theorem dX6_setCharge_33 : decode cX6_setCharge 33 = .ok (.bipush (-2), 2) := by decide +kernel
theorem dX6_setCharge_35 : decode cX6_setCharge 35 = .ok (.ireturn, 1) := by decide +kernel
theorem dX6_setCharge_36 : decode cX6_setCharge 36 = .ok (.aload_n 0, 1) := by decide +kernel
theorem dX6_setCharge_37 : decode cX6_setCharge 37 = .ok (.getfield 10, 3) := by decide +kernel
theorem dX6_setCharge_40 : decode cX6_setCharge 40 = .ok (.getfield 50, 3) := by decide +kernel
theorem dX6_setCharge_43 : decode cX6_setCharge 43 = .ok (.getfield 79, 3) := by decide +kernel
theorem dX6_setCharge_46 : decode cX6_setCharge 46 = .ok (.iload_n 1, 1) := by decide +kernel
theorem dX6_setCharge_47 : decode cX6_setCharge 47 = .ok (.iaload, 1) := by decide +kernel
theorem dX6_setCharge_48 : decode cX6_setCharge 48 = .ok (.istore_n 3, 1) := by decide +kernel
theorem dX6_setCharge_49 : decode cX6_setCharge 49 = .ok (.iload_n 3, 1) := by decide +kernel
theorem dX6_setCharge_50 : decode cX6_setCharge 50 = .ok (.iload_n 2, 1) := by decide +kernel
theorem dX6_setCharge_51 : decode cX6_setCharge 51 = .ok (.if_icmp .ne 21, 3) := by decide +kernel
theorem dX6_setCharge_54 : decode cX6_setCharge 54 = .ok (.aload_n 0, 1) := by decide +kernel
theorem dX6_setCharge_55 : decode cX6_setCharge 55 = .ok (.getfield 10, 3) := by decide +kernel
theorem dX6_setCharge_58 : decode cX6_setCharge 58 = .ok (.getfield 50, 3) := by decide +kernel
theorem dX6_setCharge_61 : decode cX6_setCharge 61 = .ok (.getfield 82, 3) := by decide +kernel
theorem dX6_setCharge_64 : decode cX6_setCharge 64 = .ok (.iload_n 1, 1) := by decide +kernel
theorem dX6_setCharge_65 : decode cX6_setCharge 65 = .ok (.iaload, 1) := by decide +kernel
theorem dX6_setCharge_66 : decode cX6_setCharge 66 = .ok (.ifCond .ne 6, 3) := by decide +kernel
theorem dX6_setCharge_69 : decode cX6_setCharge 69 = .ok (.bipush (-5), 2) := by decide +kernel
theorem dX6_setCharge_71 : decode cX6_setCharge 71 = .ok (.ireturn, 1) := by decide +kernel
theorem dX6_setCharge_72 : decode cX6_setCharge 72 = .ok (.aload_n 0, 1) := by decide +kernel
theorem dX6_setCharge_73 : decode cX6_setCharge 73 = .ok (.getfield 29, 3) := by decide +kernel
theorem dX6_setCharge_76 : decode cX6_setCharge 76 = .ok (.aload_n 0, 1) := by decide +kernel
theorem dX6_setCharge_77 : decode cX6_setCharge 77 = .ok (.getfield 10, 3) := by decide +kernel
theorem dX6_setCharge_80 : decode cX6_setCharge 80 = .ok (.invokevirtual 60, 3) := by decide +kernel
theorem dX6_setCharge_83 : decode cX6_setCharge 83 = .ok (.aload_n 0, 1) := by decide +kernel
theorem dX6_setCharge_84 : decode cX6_setCharge 84 = .ok (.getfield 10, 3) := by decide +kernel
theorem dX6_setCharge_87 : decode cX6_setCharge 87 = .ok (.getfield 50, 3) := by decide +kernel
theorem dX6_setCharge_90 : decode cX6_setCharge 90 = .ok (.getfield 79, 3) := by decide +kernel
theorem dX6_setCharge_93 : decode cX6_setCharge 93 = .ok (.iload_n 1, 1) := by decide +kernel
theorem dX6_setCharge_94 : decode cX6_setCharge 94 = .ok (.iload_n 2, 1) := by decide +kernel
theorem dX6_setCharge_95 : decode cX6_setCharge 95 = .ok (.iastore, 1) := by decide +kernel
theorem dX6_setCharge_96 : decode cX6_setCharge 96 = .ok (.aload_n 0, 1) := by decide +kernel
theorem dX6_setCharge_97 : decode cX6_setCharge 97 = .ok (.getfield 10, 3) := by decide +kernel
theorem dX6_setCharge_100 : decode cX6_setCharge 100 = .ok (.getfield 50, 3) := by decide +kernel
theorem dX6_setCharge_103 : decode cX6_setCharge 103 = .ok (.getfield 82, 3) := by decide +kernel
theorem dX6_setCharge_106 : decode cX6_setCharge 106 = .ok (.iload_n 1, 1) := by decide +kernel
theorem dX6_setCharge_107 : decode cX6_setCharge 107 = .ok (.iconst 0, 1) := by decide +kernel
theorem dX6_setCharge_108 : decode cX6_setCharge 108 = .ok (.iastore, 1) := by decide +kernel
theorem dX6_setCharge_109 : decode cX6_setCharge 109 = .ok (.iload_n 3, 1) := by decide +kernel
theorem dX6_setCharge_110 : decode cX6_setCharge 110 = .ok (.ireturn, 1) := by decide +kernel
set_option maxRecDepth 20000 in
theorem ggX6_use_X0_leastCharge : GoodIn wsX6_use wsX0_leastCharge := goodIn_r _ [9, 10, 11, 12, 13, 14, 15, 104, 105, 106, 107, 108, 109, 110, 111] (by decide +kernel) (by decide +kernel)
set_option maxRecDepth 20000 in
theorem gX6_use_X0_leastCharge : GoodIn wsX6_use (wsV RX6 85 RX0 yX0_leastCharge wsX0_leastCharge) := goodIn_app (goodIn_of _ (by decide +kernel)) ggX6_use_X0_leastCharge
set_option maxRecDepth 20000 in
theorem ggX6_use_X1_add : GoodIn wsX6_use wsX1_add := goodIn_r _ [20, 21, 22, 23, 24, 25, 19, 26, 27, 28, 29, 30, 31, 32, 33, 34, 35, 36, 37, 38, 39, 40, 41, 42, 43, 44, 45, 46, 47, 48, 49, 50, 8, 51, 11, 10, 52, 53, 54, 55, 56, 57, 58, 59, 60, 61, 62, 63, 64, 65, 66, 67, 68, 69, 70, 71, 72, 73, 74, 75, 76, 77, 78, 79, 80, 112, 113, 92, 93, 94, 95, 96, 97, 98, 99, 100, 101, 102, 103, 104, 105, 106, 107, 108, 109, 110, 111, 114, 115, 116, 117, 118, 119, 120, 121, 122, 123] (by decide +kernel) (by decide +kernel)
set_option maxRecDepth 20000 in
theorem gX6_use_X1_add : GoodIn wsX6_use (wsV RX6 60 RX1 yX1_add wsX1_add) := goodIn_app (goodIn_of _ (by decide +kernel)) ggX6_use_X1_add
set_option maxRecDepth 20000 in
theorem ggX6_use_X0_draw : GoodIn wsX6_use wsX0_draw := goodIn_r _ [84, 11, 10, 58, 104, 105, 106, 107, 108, 109, 110, 111] (by decide +kernel) (by decide +kernel)
set_option maxRecDepth 20000 in
theorem gX6_use_X0_draw : GoodIn wsX6_use (wsV RX6 89 RX0 yX0_draw wsX0_draw) := goodIn_app (goodIn_of _ (by decide +kernel)) ggX6_use_X0_draw
theorem dX6_use_0 : decode cX6_use 0 = .ok (.iload_n 1, 1) := by decide +kernel
theorem dX6_use_1 : decode cX6_use 1 = .ok (.iconst 1, 1) := by decide +kernel
theorem dX6_use_2 : decode cX6_use 2 = .ok (.if_icmp .lt 10, 3) := by decide +kernel
theorem dX6_use_5 : decode cX6_use 5 = .ok (.iload_n 1, 1) := by decide +kernel
theorem dX6_use_6 : decode cX6_use 6 = .ok (.sipush 5000, 3) := by decide +kernel
theorem dX6_use_9 : decode cX6_use 9 = .ok (.if_icmp .le 6, 3) := by decide +kernel
theorem dX6_use_12 : decode cX6_use 12 = .ok (.bipush (-2), 2) := by decide +kernel
theorem dX6_use_14 : decode cX6_use 14 = .ok (.ireturn, 1) := by decide +kernel
theorem dX6_use_15 : decode cX6_use 15 = .ok (.aload_n 0, 1) := by decide +kernel
theorem dX6_use_16 : decode cX6_use 16 = .ok (.getfield 10, 3) := by decide +kernel
theorem dX6_use_19 : decode cX6_use 19 = .ok (.getfield 68, 3) := by decide +kernel
theorem dX6_use_22 : decode cX6_use 22 = .ok (.iconst 1, 1) := by decide +kernel
theorem dX6_use_23 : decode cX6_use 23 = .ok (.if_icmp .eq 17, 3) := by decide +kernel
theorem dX6_use_26 : decode cX6_use 26 = .ok (.aload_n 0, 1) := by decide +kernel
theorem dX6_use_27 : decode cX6_use 27 = .ok (.getfield 10, 3) := by decide +kernel
theorem dX6_use_30 : decode cX6_use 30 = .ok (.getfield 50, 3) := by decide +kernel
theorem dX6_use_33 : decode cX6_use 33 = .ok (.invokevirtual 85, 3) := by decide +kernel
theorem dX6_use_36 : decode cX6_use 36 = .ok (.iload_n 1, 1) := by decide +kernel
theorem dX6_use_37 : decode cX6_use 37 = .ok (.if_icmp .ge 6, 3) := by decide +kernel
theorem dX6_use_40 : decode cX6_use 40 = .ok (.bipush (-4), 2) := by decide +kernel
theorem dX6_use_42 : decode cX6_use 42 = .ok (.ireturn, 1) := by decide +kernel
theorem dX6_use_43 : decode cX6_use 43 = .ok (.aload_n 0, 1) := by decide +kernel
theorem dX6_use_44 : decode cX6_use 44 = .ok (.getfield 29, 3) := by decide +kernel
theorem dX6_use_47 : decode cX6_use 47 = .ok (.aload_n 0, 1) := by decide +kernel
theorem dX6_use_48 : decode cX6_use 48 = .ok (.getfield 10, 3) := by decide +kernel
theorem dX6_use_51 : decode cX6_use 51 = .ok (.invokevirtual 60, 3) := by decide +kernel
theorem dX6_use_54 : decode cX6_use 54 = .ok (.aload_n 0, 1) := by decide +kernel
theorem dX6_use_55 : decode cX6_use 55 = .ok (.getfield 10, 3) := by decide +kernel
theorem dX6_use_58 : decode cX6_use 58 = .ok (.getfield 50, 3) := by decide +kernel
theorem dX6_use_61 : decode cX6_use 61 = .ok (.iload_n 1, 1) := by decide +kernel
theorem dX6_use_62 : decode cX6_use 62 = .ok (.invokevirtual 89, 3) := by decide +kernel
theorem dX6_use_65 : decode cX6_use 65 = .ok (.aload_n 0, 1) := by decide +kernel
theorem dX6_use_66 : decode cX6_use 66 = .ok (.getfield 10, 3) := by decide +kernel
theorem dX6_use_69 : decode cX6_use 69 = .ok (.getfield 50, 3) := by decide +kernel
theorem dX6_use_72 : decode cX6_use 72 = .ok (.invokevirtual 85, 3) := by decide +kernel
theorem dX6_use_75 : decode cX6_use 75 = .ok (.ireturn, 1) := by decide +kernel
set_option maxRecDepth 20000 in
theorem ggX6_set_X6_isSetting : GoodIn wsX6_set wsX6_isSetting := goodIn_r _ [9] (by decide +kernel) (by decide +kernel)
set_option maxRecDepth 20000 in
theorem gX6_set_X6_isSetting : GoodIn wsX6_set (va_wsS RX6 92 yX6_isSetting wsX6_isSetting) := goodIn_app (goodIn_of _ (by decide +kernel)) ggX6_set_X6_isSetting
set_option maxRecDepth 20000 in
theorem ggX6_set_X4_allows : GoodIn wsX6_set wsX4_allows := goodIn_r _ [14, 15, 16, 17, 18, 19, 20, 21, 22, 23, 24, 25, 26, 27, 97, 98, 99, 100, 101, 102, 103, 104, 105, 106, 107, 108, 109, 110, 111, 112, 113, 114, 115, 116] (by decide +kernel) (by decide +kernel)
set_option maxRecDepth 20000 in
theorem gX6_set_X4_allows : GoodIn wsX6_set (wsV RX6 101 RX4 yX4_allows wsX4_allows) := goodIn_app (goodIn_of _ (by decide +kernel)) ggX6_set_X4_allows
set_option maxRecDepth 20000 in
theorem ggX6_set_X1_add : GoodIn wsX6_set wsX1_add := goodIn_r _ [32, 33, 34, 35, 36, 37, 31, 38, 39, 40, 41, 13, 42, 16, 43, 44, 45, 46, 15, 47, 48, 49, 50, 51, 52, 53, 54, 55, 56, 57, 58, 59, 20, 60, 23, 22, 61, 62, 63, 64, 65, 66, 67, 68, 69, 70, 71, 72, 73, 74, 75, 76, 77, 78, 79, 80, 81, 82, 83, 84, 85, 86, 87, 88, 89, 117, 118, 97, 98, 99, 100, 101, 102, 103, 104, 105, 106, 107, 108, 109, 110, 111, 112, 113, 114, 115, 116, 119, 120, 121, 122, 123, 124, 125, 126, 127, 128] (by decide +kernel) (by decide +kernel)
set_option maxRecDepth 20000 in
theorem gX6_set_X1_add : GoodIn wsX6_set (wsV RX6 60 RX1 yX1_add wsX1_add) := goodIn_app (goodIn_of _ (by decide +kernel)) ggX6_set_X1_add
theorem dX6_set_0 : decode cX6_set 0 = .ok (.iload_n 1, 1) := by decide +kernel
theorem dX6_set_1 : decode cX6_set 1 = .ok (.invokestatic 92, 3) := by decide +kernel
theorem dX6_set_4 : decode cX6_set 4 = .ok (.ifCond .ne 5, 3) := by decide +kernel
theorem dX6_set_7 : decode cX6_set 7 = .ok (.iconst (-1), 1) := by decide +kernel
theorem dX6_set_8 : decode cX6_set 8 = .ok (.ireturn, 1) := by decide +kernel
theorem dX6_set_9 : decode cX6_set 9 = .ok (.iload_n 2, 1) := by decide +kernel
theorem dX6_set_10 : decode cX6_set 10 = .ok (.getstatic 95, 3) := by decide +kernel
theorem dX6_set_13 : decode cX6_set 13 = .ok (.iload_n 1, 1) := by decide +kernel
theorem dX6_set_14 : decode cX6_set 14 = .ok (.iaload, 1) := by decide +kernel
theorem dX6_set_15 : decode cX6_set 15 = .ok (.if_icmp .lt 12, 3) := by decide +kernel
theorem dX6_set_18 : decode cX6_set 18 = .ok (.iload_n 2, 1) := by decide +kernel
theorem dX6_set_19 : decode cX6_set 19 = .ok (.getstatic 98, 3) := by decide +kernel
theorem dX6_set_22 : decode cX6_set 22 = .ok (.iload_n 1, 1) := by decide +kernel
theorem dX6_set_23 : decode cX6_set 23 = .ok (.iaload, 1) := by decide +kernel
theorem dX6_set_24 : decode cX6_set 24 = .ok (.if_icmp .le 6, 3) := by decide +kernel
theorem dX6_set_27 : decode cX6_set 27 = .ok (.bipush (-2), 2) := by decide +kernel
theorem dX6_set_29 : decode cX6_set 29 = .ok (.ireturn, 1) := by decide +kernel
theorem dX6_set_30 : decode cX6_set 30 = .ok (.aload_n 0, 1) := by decide +kernel
theorem dX6_set_31 : decode cX6_set 31 = .ok (.getfield 10, 3) := by decide +kernel
theorem dX6_set_34 : decode cX6_set 34 = .ok (.iload_n 1, 1) := by decide +kernel
theorem dX6_set_35 : decode cX6_set 35 = .ok (.iload_n 2, 1) := by decide +kernel
theorem dX6_set_36 : decode cX6_set 36 = .ok (.invokevirtual 101, 3) := by decide +kernel
theorem dX6_set_39 : decode cX6_set 39 = .ok (.ifCond .ne 6, 3) := by decide +kernel
theorem dX6_set_42 : decode cX6_set 42 = .ok (.bipush (-4), 2) := by decide +kernel
theorem dX6_set_44 : decode cX6_set 44 = .ok (.ireturn, 1) := by decide +kernel
theorem dX6_set_45 : decode cX6_set 45 = .ok (.aload_n 0, 1) := by decide +kernel
theorem dX6_set_46 : decode cX6_set 46 = .ok (.getfield 10, 3) := by decide +kernel
theorem dX6_set_49 : decode cX6_set 49 = .ok (.getfield 75, 3) := by decide +kernel
theorem dX6_set_52 : decode cX6_set 52 = .ok (.iload_n 1, 1) := by decide +kernel
theorem dX6_set_53 : decode cX6_set 53 = .ok (.iaload, 1) := by decide +kernel
theorem dX6_set_54 : decode cX6_set 54 = .ok (.istore_n 3, 1) := by decide +kernel
theorem dX6_set_55 : decode cX6_set 55 = .ok (.iload_n 3, 1) := by decide +kernel
theorem dX6_set_56 : decode cX6_set 56 = .ok (.iload_n 2, 1) := by decide +kernel
theorem dX6_set_57 : decode cX6_set 57 = .ok (.if_icmp .ne 6, 3) := by decide +kernel
theorem dX6_set_60 : decode cX6_set 60 = .ok (.bipush (-5), 2) := by decide +kernel
theorem dX6_set_62 : decode cX6_set 62 = .ok (.ireturn, 1) := by decide +kernel
theorem dX6_set_63 : decode cX6_set 63 = .ok (.aload_n 0, 1) := by decide +kernel
theorem dX6_set_64 : decode cX6_set 64 = .ok (.getfield 29, 3) := by decide +kernel
theorem dX6_set_67 : decode cX6_set 67 = .ok (.aload_n 0, 1) := by decide +kernel
theorem dX6_set_68 : decode cX6_set 68 = .ok (.getfield 10, 3) := by decide +kernel
theorem dX6_set_71 : decode cX6_set 71 = .ok (.invokevirtual 60, 3) := by decide +kernel
theorem dX6_set_74 : decode cX6_set 74 = .ok (.aload_n 0, 1) := by decide +kernel
theorem dX6_set_75 : decode cX6_set 75 = .ok (.getfield 10, 3) := by decide +kernel
theorem dX6_set_78 : decode cX6_set 78 = .ok (.getfield 75, 3) := by decide +kernel
theorem dX6_set_81 : decode cX6_set 81 = .ok (.iload_n 1, 1) := by decide +kernel
theorem dX6_set_82 : decode cX6_set 82 = .ok (.iload_n 2, 1) := by decide +kernel
theorem dX6_set_83 : decode cX6_set 83 = .ok (.iastore, 1) := by decide +kernel
theorem dX6_set_84 : decode cX6_set 84 = .ok (.iload_n 3, 1) := by decide +kernel
theorem dX6_set_85 : decode cX6_set 85 = .ok (.sipush 1000, 3) := by decide +kernel
theorem dX6_set_88 : decode cX6_set 88 = .ok (.iadd, 1) := by decide +kernel
theorem dX6_set_89 : decode cX6_set 89 = .ok (.ireturn, 1) := by decide +kernel
set_option maxRecDepth 20000 in
theorem ggX6_readProfile_X5_readInto : GoodIn wsX6_readProfile wsX5_readInto := goodIn_r _ [13, 14, 15, 16, 17, 18, 19, 12, 20, 21, 22, 23, 24, 25, 26, 27, 28, 29, 30, 31, 32, 33, 34, 35, 36, 37, 38, 39, 40, 41, 42, 43, 44, 45, 46, 47, 48, 49, 50, 51, 52, 53, 54, 55, 56, 57, 58, 140, 141, 142, 155, 156, 157, 158, 159] (by decide +kernel) (by decide +kernel)
set_option maxRecDepth 20000 in
theorem gX6_readProfile_X5_readInto : GoodIn wsX6_readProfile (wsV RX6 105 RX5 yX5_readInto wsX5_readInto) := goodIn_app (goodIn_of _ (by decide +kernel)) ggX6_readProfile_X5_readInto
set_option maxRecDepth 20000 in
theorem ggX6_readProfile_X3_isInRange : GoodIn wsX6_readProfile wsX3_isInRange := goodIn_r _ [62, 31, 35, 63, 64, 65, 29, 66, 32, 33, 34, 67, 68, 69, 155, 156, 157, 158, 159] (by decide +kernel) (by decide +kernel)
set_option maxRecDepth 20000 in
theorem gX6_readProfile_X3_isInRange : GoodIn wsX6_readProfile (wsV RX6 112 RX3 yX3_isInRange wsX3_isInRange) := goodIn_app (goodIn_of _ (by decide +kernel)) ggX6_readProfile_X3_isInRange
set_option maxRecDepth 20000 in
theorem ggX6_readProfile_X1_add : GoodIn wsX6_readProfile wsX1_add := goodIn_r _ [74, 75, 76, 77, 78, 79, 73, 80, 81, 82, 83, 84, 85, 86, 87, 88, 89, 90, 91, 92, 93, 94, 95, 96, 97, 98, 99, 100, 101, 102, 103, 104, 105, 106, 107, 108, 109, 110, 111, 112, 113, 114, 115, 116, 117, 118, 29, 119, 31, 32, 120, 33, 34, 35, 121, 122, 123, 124, 125, 126, 127, 128, 129, 130, 131, 160, 161, 143, 144, 145, 146, 147, 148, 149, 150, 151, 152, 153, 154, 162, 163, 164, 165, 166, 167, 168, 169, 155, 156, 157, 158, 159, 170, 171, 172, 173, 174] (by decide +kernel) (by decide +kernel)
set_option maxRecDepth 20000 in
theorem gX6_readProfile_X1_add : GoodIn wsX6_readProfile (wsV RX6 60 RX1 yX1_add wsX1_add) := goodIn_app (goodIn_of _ (by decide +kernel)) ggX6_readProfile_X1_add
set_option maxRecDepth 20000 in
theorem ggX6_readProfile_X3_copyFrom : GoodIn wsX6_readProfile wsX3_copyFrom := goodIn_r _ [119, 31, 32, 120, 88, 89, 90, 33, 34, 35, 155, 156, 157, 158, 159] (by decide +kernel) (by decide +kernel)
set_option maxRecDepth 20000 in
theorem gX6_readProfile_X3_copyFrom : GoodIn wsX6_readProfile (wsV RX6 119 RX3 yX3_copyFrom wsX3_copyFrom) := goodIn_app (goodIn_of _ (by decide +kernel)) ggX6_readProfile_X3_copyFrom
theorem dX6_readProfile_0 : decode cX6_readProfile 0 = .ok (.aload_n 0, 1) := by decide +kernel
theorem dX6_readProfile_1 : decode cX6_readProfile 1 = .ok (.getfield 36, 3) := by decide +kernel
theorem dX6_readProfile_4 : decode cX6_readProfile 4 = .ok (.aload_n 0, 1) := by decide +kernel
theorem dX6_readProfile_5 : decode cX6_readProfile 5 = .ok (.getfield 43, 3) := by decide +kernel
theorem dX6_readProfile_8 : decode cX6_readProfile 8 = .ok (.invokevirtual 105, 3) := by decide +kernel
theorem dX6_readProfile_11 : decode cX6_readProfile 11 = .ok (.ifCond .ne 14, 3) := by decide +kernel
theorem dX6_readProfile_14 : decode cX6_readProfile 14 = .ok (.bipush (-100), 2) := by decide +kernel
theorem dX6_readProfile_16 : decode cX6_readProfile 16 = .ok (.aload_n 0, 1) := by decide +kernel
theorem dX6_readProfile_17 : decode cX6_readProfile 17 = .ok (.getfield 36, 3) := by decide +kernel
theorem dX6_readProfile_20 : decode cX6_readProfile 20 = .ok (.getfield 109, 3) := by decide +kernel
theorem dX6_readProfile_23 : decode cX6_readProfile 23 = .ok (.isub, 1) := by decide +kernel
theorem dX6_readProfile_24 : decode cX6_readProfile 24 = .ok (.ireturn, 1) := by decide +kernel
theorem dX6_readProfile_25 : decode cX6_readProfile 25 = .ok (.aload_n 0, 1) := by decide +kernel
theorem dX6_readProfile_26 : decode cX6_readProfile 26 = .ok (.getfield 43, 3) := by decide +kernel
theorem dX6_readProfile_29 : decode cX6_readProfile 29 = .ok (.invokevirtual 112, 3) := by decide +kernel
theorem dX6_readProfile_32 : decode cX6_readProfile 32 = .ok (.ifCond .ne 6, 3) := by decide +kernel
theorem dX6_readProfile_35 : decode cX6_readProfile 35 = .ok (.bipush (-2), 2) := by decide +kernel
theorem dX6_readProfile_37 : decode cX6_readProfile 37 = .ok (.ireturn, 1) := by decide +kernel
theorem dX6_readProfile_38 : decode cX6_readProfile 38 = .ok (.aload_n 0, 1) := by decide +kernel
theorem dX6_readProfile_39 : decode cX6_readProfile 39 = .ok (.getfield 10, 3) := by decide +kernel
theorem dX6_readProfile_42 : decode cX6_readProfile 42 = .ok (.getfield 68, 3) := by decide +kernel
theorem dX6_readProfile_45 : decode cX6_readProfile 45 = .ok (.iconst 1, 1) := by decide +kernel
theorem dX6_readProfile_46 : decode cX6_readProfile 46 = .ok (.if_icmp .ne 6, 3) := by decide +kernel
theorem dX6_readProfile_49 : decode cX6_readProfile 49 = .ok (.bipush (-4), 2) := by decide +kernel
theorem dX6_readProfile_51 : decode cX6_readProfile 51 = .ok (.ireturn, 1) := by decide +kernel
theorem dX6_readProfile_52 : decode cX6_readProfile 52 = .ok (.aload_n 0, 1) := by decide +kernel
theorem dX6_readProfile_53 : decode cX6_readProfile 53 = .ok (.getfield 29, 3) := by decide +kernel
theorem dX6_readProfile_56 : decode cX6_readProfile 56 = .ok (.aload_n 0, 1) := by decide +kernel
theorem dX6_readProfile_57 : decode cX6_readProfile 57 = .ok (.getfield 10, 3) := by decide +kernel
theorem dX6_readProfile_60 : decode cX6_readProfile 60 = .ok (.invokevirtual 60, 3) := by decide +kernel
theorem dX6_readProfile_63 : decode cX6_readProfile 63 = .ok (.aload_n 0, 1) := by decide +kernel
theorem dX6_readProfile_64 : decode cX6_readProfile 64 = .ok (.getfield 10, 3) := by decide +kernel
theorem dX6_readProfile_67 : decode cX6_readProfile 67 = .ok (.getfield 116, 3) := by decide +kernel
theorem dX6_readProfile_70 : decode cX6_readProfile 70 = .ok (.aload_n 0, 1) := by decide +kernel
theorem dX6_readProfile_71 : decode cX6_readProfile 71 = .ok (.getfield 43, 3) := by decide +kernel
theorem dX6_readProfile_74 : decode cX6_readProfile 74 = .ok (.invokevirtual 119, 3) := by decide +kernel
theorem dX6_readProfile_77 : decode cX6_readProfile 77 = .ok (.aload_n 0, 1) := by decide +kernel
theorem dX6_readProfile_78 : decode cX6_readProfile 78 = .ok (.getfield 10, 3) := by decide +kernel
theorem dX6_readProfile_81 : decode cX6_readProfile 81 = .ok (.getfield 116, 3) := by decide +kernel
theorem dX6_readProfile_84 : decode cX6_readProfile 84 = .ok (.getfield 123, 3) := by decide +kernel
theorem dX6_readProfile_87 : decode cX6_readProfile 87 = .ok (.ireturn, 1) := by decide +kernel
set_option maxRecDepth 20000 in
theorem ggX6_start_X1_add : GoodIn wsX6_start wsX1_add := goodIn_r _ [10, 11, 12, 13, 14, 15, 9, 16, 17, 18, 19, 20, 21, 22, 23, 24, 25, 26, 27, 28, 29, 30, 31, 32, 33, 34, 35, 36, 37, 38, 39, 40, 41, 42, 43, 44, 45, 46, 47, 48, 49, 50, 51, 52, 53, 54, 55, 56, 57, 58, 59, 60, 61, 62, 63, 64, 65, 66, 67, 68, 69, 70, 71, 72, 73, 110, 111, 93, 94, 95, 96, 97, 98, 99, 100, 101, 102, 103, 104, 112, 113, 114, 115, 116, 117, 118, 119, 105, 106, 107, 108, 109, 120, 121, 122, 123, 124] (by decide +kernel) (by decide +kernel)
set_option maxRecDepth 20000 in
theorem gX6_start_X1_add : GoodIn wsX6_start (wsV RX6 60 RX1 yX1_add wsX1_add) := goodIn_app (goodIn_of _ (by decide +kernel)) ggX6_start_X1_add
set_option maxRecDepth 20000 in
theorem ggX6_start_X4_beginCharging : GoodIn wsX6_start wsX4_beginCharging := goodIn_r _ [77, 30, 35, 78, 79, 80, 20, 81, 31, 32, 29, 33, 82, 83, 84, 66, 85, 70, 69, 72, 73, 68, 93, 94, 95, 96, 97, 98, 99, 100, 101, 102, 103, 104, 120, 121, 122, 123, 124] (by decide +kernel) (by decide +kernel)
set_option maxRecDepth 20000 in
theorem gX6_start_X4_beginCharging : GoodIn wsX6_start (wsV RX6 126 RX4 yX4_beginCharging wsX4_beginCharging) := goodIn_app (goodIn_of _ (by decide +kernel)) ggX6_start_X4_beginCharging
theorem dX6_start_0 : decode cX6_start 0 = .ok (.aload_n 0, 1) := by decide +kernel
theorem dX6_start_1 : decode cX6_start 1 = .ok (.getfield 10, 3) := by decide +kernel
theorem dX6_start_4 : decode cX6_start 4 = .ok (.getfield 68, 3) := by decide +kernel
theorem dX6_start_7 : decode cX6_start 7 = .ok (.iconst 1, 1) := by decide +kernel
theorem dX6_start_8 : decode cX6_start 8 = .ok (.if_icmp .eq 16, 3) := by decide +kernel
theorem dX6_start_11 : decode cX6_start 11 = .ok (.aload_n 0, 1) := by decide +kernel
theorem dX6_start_12 : decode cX6_start 12 = .ok (.getfield 10, 3) := by decide +kernel
theorem dX6_start_15 : decode cX6_start 15 = .ok (.getfield 116, 3) := by decide +kernel
theorem dX6_start_18 : decode cX6_start 18 = .ok (.getfield 123, 3) := by decide +kernel
theorem dX6_start_21 : decode cX6_start 21 = .ok (.ifCond .ne 6, 3) := by decide +kernel
theorem dX6_start_24 : decode cX6_start 24 = .ok (.bipush (-4), 2) := by decide +kernel
theorem dX6_start_26 : decode cX6_start 26 = .ok (.ireturn, 1) := by decide +kernel
theorem dX6_start_27 : decode cX6_start 27 = .ok (.aload_n 0, 1) := by decide +kernel
theorem dX6_start_28 : decode cX6_start 28 = .ok (.getfield 10, 3) := by decide +kernel
theorem dX6_start_31 : decode cX6_start 31 = .ok (.getfield 68, 3) := by decide +kernel
theorem dX6_start_34 : decode cX6_start 34 = .ok (.istore_n 1, 1) := by decide +kernel
theorem dX6_start_35 : decode cX6_start 35 = .ok (.aload_n 0, 1) := by decide +kernel
theorem dX6_start_36 : decode cX6_start 36 = .ok (.getfield 29, 3) := by decide +kernel
theorem dX6_start_39 : decode cX6_start 39 = .ok (.aload_n 0, 1) := by decide +kernel
theorem dX6_start_40 : decode cX6_start 40 = .ok (.getfield 10, 3) := by decide +kernel
theorem dX6_start_43 : decode cX6_start 43 = .ok (.invokevirtual 60, 3) := by decide +kernel
theorem dX6_start_46 : decode cX6_start 46 = .ok (.aload_n 0, 1) := by decide +kernel
theorem dX6_start_47 : decode cX6_start 47 = .ok (.getfield 10, 3) := by decide +kernel
theorem dX6_start_50 : decode cX6_start 50 = .ok (.invokevirtual 126, 3) := by decide +kernel
theorem dX6_start_53 : decode cX6_start 53 = .ok (.iload_n 1, 1) := by decide +kernel
theorem dX6_start_54 : decode cX6_start 54 = .ok (.ireturn, 1) := by decide +kernel
set_option maxRecDepth 20000 in
theorem ggX6_stop_X1_add : GoodIn wsX6_stop wsX1_add := goodIn_r _ [8, 9, 10, 11, 12, 13, 7, 14, 15, 16, 17, 18, 19, 20, 21, 22, 23, 24, 25, 26, 27, 28, 29, 30, 31, 32, 33, 34, 35, 36, 37, 38, 39, 40, 41, 42, 43, 44, 45, 46, 47, 48, 49, 50, 51, 52, 53, 54, 55, 56, 57, 58, 59, 60, 61, 62, 63, 64, 65, 66, 67, 68, 69, 70, 71, 91, 92, 79, 80, 81, 82, 83, 84, 85, 86, 87, 88, 89, 90, 93, 94, 95, 96, 97, 98, 99, 100, 101, 102, 103, 104, 105, 106, 107, 108, 109, 110] (by decide +kernel) (by decide +kernel)
set_option maxRecDepth 20000 in
theorem gX6_stop_X1_add : GoodIn wsX6_stop (wsV RX6 60 RX1 yX1_add wsX1_add) := goodIn_app (goodIn_of _ (by decide +kernel)) ggX6_stop_X1_add
theorem dX6_stop_0 : decode cX6_stop 0 = .ok (.aload_n 0, 1) := by decide +kernel
theorem dX6_stop_1 : decode cX6_stop 1 = .ok (.getfield 10, 3) := by decide +kernel
theorem dX6_stop_4 : decode cX6_stop 4 = .ok (.getfield 68, 3) := by decide +kernel
theorem dX6_stop_7 : decode cX6_stop 7 = .ok (.istore_n 1, 1) := by decide +kernel
theorem dX6_stop_8 : decode cX6_stop 8 = .ok (.iload_n 1, 1) := by decide +kernel
theorem dX6_stop_9 : decode cX6_stop 9 = .ok (.ifCond .ne 6, 3) := by decide +kernel
theorem dX6_stop_12 : decode cX6_stop 12 = .ok (.bipush (-5), 2) := by decide +kernel
theorem dX6_stop_14 : decode cX6_stop 14 = .ok (.ireturn, 1) := by decide +kernel
theorem dX6_stop_15 : decode cX6_stop 15 = .ok (.aload_n 0, 1) := by decide +kernel
theorem dX6_stop_16 : decode cX6_stop 16 = .ok (.getfield 29, 3) := by decide +kernel
theorem dX6_stop_19 : decode cX6_stop 19 = .ok (.aload_n 0, 1) := by decide +kernel
theorem dX6_stop_20 : decode cX6_stop 20 = .ok (.getfield 10, 3) := by decide +kernel
theorem dX6_stop_23 : decode cX6_stop 23 = .ok (.invokevirtual 60, 3) := by decide +kernel
theorem dX6_stop_26 : decode cX6_stop 26 = .ok (.aload_n 0, 1) := by decide +kernel
theorem dX6_stop_27 : decode cX6_stop 27 = .ok (.getfield 10, 3) := by decide +kernel
theorem dX6_stop_30 : decode cX6_stop 30 = .ok (.iconst 0, 1) := by decide +kernel
theorem dX6_stop_31 : decode cX6_stop 31 = .ok (.putfield 68, 3) := by decide +kernel
theorem dX6_stop_34 : decode cX6_stop 34 = .ok (.iload_n 1, 1) := by decide +kernel
theorem dX6_stop_35 : decode cX6_stop 35 = .ok (.ireturn, 1) := by decide +kernel
set_option maxRecDepth 20000 in
theorem ggX6_pass_X1_add : GoodIn wsX6_pass wsX1_add := goodIn_r _ [10, 11, 12, 13, 14, 15, 9, 16, 17, 18, 19, 20, 21, 22, 23, 24, 25, 26, 27, 28, 29, 30, 31, 32, 33, 34, 35, 36, 37, 38, 39, 40, 41, 42, 43, 44, 45, 46, 47, 48, 49, 50, 51, 52, 53, 54, 55, 56, 57, 58, 59, 60, 61, 62, 63, 64, 65, 66, 67, 68, 69, 70, 71, 72, 73, 190, 191, 178, 179, 180, 181, 182, 183, 184, 185, 186, 187, 188, 189, 192, 193, 194, 195, 196, 197, 198, 199, 200, 201, 202, 203, 204, 205, 206, 207, 208, 209] (by decide +kernel) (by decide +kernel)
set_option maxRecDepth 20000 in
theorem gX6_pass_X1_add : GoodIn wsX6_pass (wsV RX6 60 RX1 yX1_add wsX1_add) := goodIn_app (goodIn_of _ (by decide +kernel)) ggX6_pass_X1_add
set_option maxRecDepth 20000 in
theorem ggX6_pass_X4_passTicks : GoodIn wsX6_pass wsX4_passTicks := goodIn_r _ [77, 78, 79, 80, 20, 81, 30, 35, 22, 27, 33, 82, 83, 84, 85, 86, 87, 88, 89, 90, 91, 92, 29, 31, 34, 93, 94, 95, 66, 96, 70, 69, 72, 73, 68, 97, 98, 99, 100, 32, 37, 101, 102, 103, 104, 28, 105, 106, 107, 108, 109, 110, 55, 111, 57, 112, 113, 114, 115, 116, 117, 118, 119, 58, 60, 61, 120, 121, 122, 123, 124, 125, 126, 41, 127, 44, 43, 128, 129, 130, 131, 132, 133, 134, 135, 136, 137, 138, 139, 140, 141, 142, 143, 144, 46, 47, 48, 49, 145, 146, 147, 148, 149, 150, 151, 152, 36, 153, 154, 155, 156, 157, 158, 159, 160, 161, 162, 163, 164, 165, 166, 50, 167, 168, 169, 170, 178, 179, 180, 181, 182, 183, 184, 185, 186, 187, 188, 189, 205, 206, 207, 208, 209, 200, 201, 202, 203, 204, 192, 193, 194, 195, 196, 197, 198, 199] (by decide +kernel) (by decide +kernel)
set_option maxRecDepth 20000 in
theorem gX6_pass_X4_passTicks : GoodIn wsX6_pass (wsV RX6 133 RX4 yX4_passTicks wsX4_passTicks) := goodIn_app (goodIn_of _ (by decide +kernel)) ggX6_pass_X4_passTicks
theorem dX6_pass_0 : decode cX6_pass 0 = .ok (.iload_n 1, 1) := by decide +kernel
theorem dX6_pass_1 : decode cX6_pass 1 = .ok (.iconst 1, 1) := by decide +kernel
theorem dX6_pass_2 : decode cX6_pass 2 = .ok (.if_icmp .lt 10, 3) := by decide +kernel
theorem dX6_pass_5 : decode cX6_pass 5 = .ok (.iload_n 1, 1) := by decide +kernel
theorem dX6_pass_6 : decode cX6_pass 6 = .ok (.sipush 200, 3) := by decide +kernel
theorem dX6_pass_9 : decode cX6_pass 9 = .ok (.if_icmp .le 6, 3) := by decide +kernel
theorem dX6_pass_12 : decode cX6_pass 12 = .ok (.bipush (-2), 2) := by decide +kernel
theorem dX6_pass_14 : decode cX6_pass 14 = .ok (.ireturn, 1) := by decide +kernel
theorem dX6_pass_15 : decode cX6_pass 15 = .ok (.aload_n 0, 1) := by decide +kernel
theorem dX6_pass_16 : decode cX6_pass 16 = .ok (.getfield 10, 3) := by decide +kernel
theorem dX6_pass_19 : decode cX6_pass 19 = .ok (.getfield 129, 3) := by decide +kernel
theorem dX6_pass_22 : decode cX6_pass 22 = .ok (.iload_n 1, 1) := by decide +kernel
theorem dX6_pass_23 : decode cX6_pass 23 = .ok (.iadd, 1) := by decide +kernel
theorem dX6_pass_24 : decode cX6_pass 24 = .ok (.ldc 132, 2) := by decide +kernel
theorem dX6_pass_26 : decode cX6_pass 26 = .ok (.if_icmp .le 6, 3) := by decide +kernel
theorem dX6_pass_29 : decode cX6_pass 29 = .ok (.bipush (-3), 2) := by decide +kernel
theorem dX6_pass_31 : decode cX6_pass 31 = .ok (.ireturn, 1) := by decide +kernel
theorem dX6_pass_32 : decode cX6_pass 32 = .ok (.aload_n 0, 1) := by decide +kernel
theorem dX6_pass_33 : decode cX6_pass 33 = .ok (.getfield 29, 3) := by decide +kernel
theorem dX6_pass_36 : decode cX6_pass 36 = .ok (.aload_n 0, 1) := by decide +kernel
theorem dX6_pass_37 : decode cX6_pass 37 = .ok (.getfield 10, 3) := by decide +kernel
theorem dX6_pass_40 : decode cX6_pass 40 = .ok (.invokevirtual 60, 3) := by decide +kernel
theorem dX6_pass_43 : decode cX6_pass 43 = .ok (.aload_n 0, 1) := by decide +kernel
theorem dX6_pass_44 : decode cX6_pass 44 = .ok (.getfield 10, 3) := by decide +kernel
theorem dX6_pass_47 : decode cX6_pass 47 = .ok (.iload_n 1, 1) := by decide +kernel
theorem dX6_pass_48 : decode cX6_pass 48 = .ok (.invokevirtual 133, 3) := by decide +kernel
theorem dX6_pass_51 : decode cX6_pass 51 = .ok (.aload_n 0, 1) := by decide +kernel
theorem dX6_pass_52 : decode cX6_pass 52 = .ok (.getfield 10, 3) := by decide +kernel
theorem dX6_pass_55 : decode cX6_pass 55 = .ok (.getfield 68, 3) := by decide +kernel
theorem dX6_pass_58 : decode cX6_pass 58 = .ok (.ireturn, 1) := by decide +kernel
set_option maxRecDepth 20000 in
theorem ggX6_type_X5_add : GoodIn wsX6_type wsX5_add := goodIn_r _ [7, 8, 9, 17, 18, 19] (by decide +kernel) (by decide +kernel)
set_option maxRecDepth 20000 in
theorem gX6_type_X5_add : GoodIn wsX6_type (wsV RX6 139 RX5 yX5_add wsX5_add) := goodIn_app (goodIn_of _ (by decide +kernel)) ggX6_type_X5_add
theorem dX6_type_0 : decode cX6_type 0 = .ok (.aload_n 0, 1) := by decide +kernel
theorem dX6_type_1 : decode cX6_type 1 = .ok (.getfield 36, 3) := by decide +kernel
theorem dX6_type_4 : decode cX6_type 4 = .ok (.getfield 136, 3) := by decide +kernel
theorem dX6_type_7 : decode cX6_type 7 = .ok (.bipush 60, 2) := by decide +kernel
theorem dX6_type_9 : decode cX6_type 9 = .ok (.if_icmp .lt 6, 3) := by decide +kernel
theorem dX6_type_12 : decode cX6_type 12 = .ok (.bipush (-3), 2) := by decide +kernel
theorem dX6_type_14 : decode cX6_type 14 = .ok (.ireturn, 1) := by decide +kernel
theorem dX6_type_15 : decode cX6_type 15 = .ok (.aload_n 0, 1) := by decide +kernel
theorem dX6_type_16 : decode cX6_type 16 = .ok (.getfield 36, 3) := by decide +kernel
theorem dX6_type_19 : decode cX6_type 19 = .ok (.iload_n 1, 1) := by decide +kernel
theorem dX6_type_20 : decode cX6_type 20 = .ok (.invokevirtual 139, 3) := by decide +kernel
theorem dX6_type_23 : decode cX6_type 23 = .ok (.aload_n 0, 1) := by decide +kernel
theorem dX6_type_24 : decode cX6_type 24 = .ok (.getfield 36, 3) := by decide +kernel
theorem dX6_type_27 : decode cX6_type 27 = .ok (.getfield 136, 3) := by decide +kernel
theorem dX6_type_30 : decode cX6_type 30 = .ok (.ireturn, 1) := by decide +kernel
theorem dX6_clearText_0 : decode cX6_clearText 0 = .ok (.aload_n 0, 1) := by decide +kernel
theorem dX6_clearText_1 : decode cX6_clearText 1 = .ok (.getfield 36, 3) := by decide +kernel
theorem dX6_clearText_4 : decode cX6_clearText 4 = .ok (.getfield 136, 3) := by decide +kernel
theorem dX6_clearText_7 : decode cX6_clearText 7 = .ok (.istore_n 1, 1) := by decide +kernel
theorem dX6_clearText_8 : decode cX6_clearText 8 = .ok (.aload_n 0, 1) := by decide +kernel
theorem dX6_clearText_9 : decode cX6_clearText 9 = .ok (.getfield 36, 3) := by decide +kernel
theorem dX6_clearText_12 : decode cX6_clearText 12 = .ok (.iconst 0, 1) := by decide +kernel
theorem dX6_clearText_13 : decode cX6_clearText 13 = .ok (.putfield 136, 3) := by decide +kernel
theorem dX6_clearText_16 : decode cX6_clearText 16 = .ok (.iload_n 1, 1) := by decide +kernel
theorem dX6_clearText_17 : decode cX6_clearText 17 = .ok (.ireturn, 1) := by decide +kernel
set_option maxRecDepth 20000 in
theorem ggX6_undo_X1_takeInto : GoodIn wsX6_undo wsX1_takeInto := goodIn_r _ [8, 9, 10, 11, 12, 13, 14, 15, 16, 17, 18, 19, 20, 21, 22, 23, 24, 25, 26, 27, 28, 29, 30, 31, 32, 33, 34, 35, 36, 37, 38, 39, 40, 41, 42, 43, 44, 45, 46, 47, 48, 49, 50, 51, 52, 53, 54, 55, 56, 57, 58, 59, 60, 61, 62, 63, 64, 65, 66, 67, 75, 76, 77, 78, 79, 80, 81, 82, 83, 84, 85, 86, 87, 88, 89, 90, 91, 92, 93, 94, 95, 96, 97, 98, 99, 100, 101, 102, 103, 104, 105, 106] (by decide +kernel) (by decide +kernel)
set_option maxRecDepth 20000 in
theorem gX6_undo_X1_takeInto : GoodIn wsX6_undo (wsV RX6 145 RX1 yX1_takeInto wsX1_takeInto) := goodIn_app (goodIn_of _ (by decide +kernel)) ggX6_undo_X1_takeInto
theorem dX6_undo_0 : decode cX6_undo 0 = .ok (.aload_n 0, 1) := by decide +kernel
theorem dX6_undo_1 : decode cX6_undo 1 = .ok (.getfield 29, 3) := by decide +kernel
theorem dX6_undo_4 : decode cX6_undo 4 = .ok (.getfield 142, 3) := by decide +kernel
theorem dX6_undo_7 : decode cX6_undo 7 = .ok (.ifCond .ne 6, 3) := by decide +kernel
theorem dX6_undo_10 : decode cX6_undo 10 = .ok (.bipush (-5), 2) := by decide +kernel
theorem dX6_undo_12 : decode cX6_undo 12 = .ok (.ireturn, 1) := by decide +kernel
theorem dX6_undo_13 : decode cX6_undo 13 = .ok (.aload_n 0, 1) := by decide +kernel
theorem dX6_undo_14 : decode cX6_undo 14 = .ok (.getfield 29, 3) := by decide +kernel
theorem dX6_undo_17 : decode cX6_undo 17 = .ok (.aload_n 0, 1) := by decide +kernel
theorem dX6_undo_18 : decode cX6_undo 18 = .ok (.getfield 10, 3) := by decide +kernel
theorem dX6_undo_21 : decode cX6_undo 21 = .ok (.invokevirtual 145, 3) := by decide +kernel
theorem dX6_undo_24 : decode cX6_undo 24 = .ok (.aload_n 0, 1) := by decide +kernel
theorem dX6_undo_25 : decode cX6_undo 25 = .ok (.getfield 29, 3) := by decide +kernel
theorem dX6_undo_28 : decode cX6_undo 28 = .ok (.getfield 142, 3) := by decide +kernel
theorem dX6_undo_31 : decode cX6_undo 31 = .ok (.ireturn, 1) := by decide +kernel
set_option maxRecDepth 20000 in
theorem ggX6_keep_X4_copyFrom : GoodIn wsX6_keep wsX4_copyFrom := goodIn_r _ [9, 10, 11, 12, 13, 14, 15, 16, 17, 18, 19, 20, 21, 22, 23, 24, 25, 26, 27, 28, 29, 30, 31, 32, 33, 34, 35, 36, 37, 38, 39, 40, 41, 42, 43, 44, 45, 46, 47, 48, 49, 50, 51, 52, 53, 54, 55, 56, 57, 58, 59, 60, 61, 69, 70, 71, 72, 73, 74, 75, 76, 77, 78, 79, 80, 81, 82, 83, 84, 85, 86, 87, 88, 89, 90, 91, 92, 93, 94, 95, 96, 97, 98] (by decide +kernel) (by decide +kernel)
set_option maxRecDepth 20000 in
theorem gX6_keep_X4_copyFrom : GoodIn wsX6_keep (wsV RX6 148 RX4 yX4_copyFrom wsX4_copyFrom) := goodIn_app (goodIn_of _ (by decide +kernel)) ggX6_keep_X4_copyFrom
theorem dX6_keep_0 : decode cX6_keep 0 = .ok (.aload_n 0, 1) := by decide +kernel
theorem dX6_keep_1 : decode cX6_keep 1 = .ok (.getfield 19, 3) := by decide +kernel
theorem dX6_keep_4 : decode cX6_keep 4 = .ok (.aload_n 0, 1) := by decide +kernel
theorem dX6_keep_5 : decode cX6_keep 5 = .ok (.getfield 10, 3) := by decide +kernel
theorem dX6_keep_8 : decode cX6_keep 8 = .ok (.invokevirtual 148, 3) := by decide +kernel
theorem dX6_keep_11 : decode cX6_keep 11 = .ok (.aload_n 0, 1) := by decide +kernel
theorem dX6_keep_12 : decode cX6_keep 12 = .ok (.iconst 1, 1) := by decide +kernel
theorem dX6_keep_13 : decode cX6_keep 13 = .ok (.putfield 22, 3) := by decide +kernel
theorem dX6_keep_16 : decode cX6_keep 16 = .ok (.aload_n 0, 1) := by decide +kernel
theorem dX6_keep_17 : decode cX6_keep 17 = .ok (.getfield 10, 3) := by decide +kernel
theorem dX6_keep_20 : decode cX6_keep 20 = .ok (.getfield 129, 3) := by decide +kernel
theorem dX6_keep_23 : decode cX6_keep 23 = .ok (.ireturn, 1) := by decide +kernel
set_option maxRecDepth 20000 in
theorem ggX6_restore_X1_add : GoodIn wsX6_restore wsX1_add := goodIn_r _ [10, 11, 12, 13, 14, 15, 9, 16, 17, 18, 19, 20, 21, 22, 23, 24, 25, 26, 27, 28, 29, 30, 31, 32, 33, 34, 35, 36, 37, 38, 39, 40, 41, 42, 43, 44, 45, 46, 47, 48, 49, 50, 51, 52, 53, 54, 55, 56, 57, 58, 59, 60, 61, 62, 63, 64, 65, 66, 67, 68, 69, 70, 71, 72, 73, 94, 95, 82, 83, 84, 85, 86, 87, 88, 89, 90, 91, 92, 93, 96, 97, 98, 99, 100, 101, 102, 103, 104, 105, 106, 107, 108, 109, 110, 111, 112, 113] (by decide +kernel) (by decide +kernel)
set_option maxRecDepth 20000 in
theorem gX6_restore_X1_add : GoodIn wsX6_restore (wsV RX6 60 RX1 yX1_add wsX1_add) := goodIn_app (goodIn_of _ (by decide +kernel)) ggX6_restore_X1_add
set_option maxRecDepth 20000 in
theorem ggX6_restore_X4_copyFrom : GoodIn wsX6_restore wsX4_copyFrom := goodIn_r _ [21, 22, 23, 24, 25, 26, 27, 28, 29, 30, 31, 32, 33, 34, 35, 36, 37, 38, 39, 40, 41, 42, 43, 44, 45, 46, 47, 48, 49, 50, 51, 52, 53, 54, 55, 56, 57, 58, 59, 60, 61, 62, 63, 64, 65, 66, 67, 68, 69, 70, 71, 72, 73, 82, 83, 84, 85, 86, 87, 88, 89, 90, 91, 92, 93, 96, 97, 98, 99, 100, 101, 102, 103, 104, 105, 106, 107, 108, 109, 110, 111, 112, 113] (by decide +kernel) (by decide +kernel)
set_option maxRecDepth 20000 in
theorem gX6_restore_X4_copyFrom : GoodIn wsX6_restore (wsV RX6 148 RX4 yX4_copyFrom wsX4_copyFrom) := goodIn_app (goodIn_of _ (by decide +kernel)) ggX6_restore_X4_copyFrom
theorem dX6_restore_0 : decode cX6_restore 0 = .ok (.aload_n 0, 1) := by decide +kernel
theorem dX6_restore_1 : decode cX6_restore 1 = .ok (.getfield 22, 3) := by decide +kernel
theorem dX6_restore_4 : decode cX6_restore 4 = .ok (.ifCond .ne 6, 3) := by decide +kernel
theorem dX6_restore_7 : decode cX6_restore 7 = .ok (.bipush (-5), 2) := by decide +kernel
theorem dX6_restore_9 : decode cX6_restore 9 = .ok (.ireturn, 1) := by decide +kernel
theorem dX6_restore_10 : decode cX6_restore 10 = .ok (.aload_n 0, 1) := by decide +kernel
theorem dX6_restore_11 : decode cX6_restore 11 = .ok (.getfield 29, 3) := by decide +kernel
theorem dX6_restore_14 : decode cX6_restore 14 = .ok (.aload_n 0, 1) := by decide +kernel
theorem dX6_restore_15 : decode cX6_restore 15 = .ok (.getfield 10, 3) := by decide +kernel
theorem dX6_restore_18 : decode cX6_restore 18 = .ok (.invokevirtual 60, 3) := by decide +kernel
theorem dX6_restore_21 : decode cX6_restore 21 = .ok (.aload_n 0, 1) := by decide +kernel
theorem dX6_restore_22 : decode cX6_restore 22 = .ok (.getfield 10, 3) := by decide +kernel
theorem dX6_restore_25 : decode cX6_restore 25 = .ok (.aload_n 0, 1) := by decide +kernel
theorem dX6_restore_26 : decode cX6_restore 26 = .ok (.getfield 19, 3) := by decide +kernel
theorem dX6_restore_29 : decode cX6_restore 29 = .ok (.invokevirtual 148, 3) := by decide +kernel
theorem dX6_restore_32 : decode cX6_restore 32 = .ok (.aload_n 0, 1) := by decide +kernel
theorem dX6_restore_33 : decode cX6_restore 33 = .ok (.getfield 10, 3) := by decide +kernel
theorem dX6_restore_36 : decode cX6_restore 36 = .ok (.getfield 129, 3) := by decide +kernel
theorem dX6_restore_39 : decode cX6_restore 39 = .ok (.ireturn, 1) := by decide +kernel
set_option maxRecDepth 20000 in
theorem ggX6_cell_X0_has : GoodIn wsX6_cell wsX0_has := goodIn_r _ [15, 16, 40, 41, 42, 43, 44, 45, 46, 47] (by decide +kernel) (by decide +kernel)
set_option maxRecDepth 20000 in
theorem gX6_cell_X0_has : GoodIn wsX6_cell (wsV RX6 71 RX0 yX0_has wsX0_has) := goodIn_app (goodIn_of _ (by decide +kernel)) ggX6_cell_X0_has
set_option maxRecDepth 20000 in
theorem ggX6_cell_X6_baseVoltage : GoodIn wsX6_cell wsX6_baseVoltage := goodIn_r _ [20] (by decide +kernel) (by decide +kernel)
set_option maxRecDepth 20000 in
theorem gX6_cell_X6_baseVoltage : GoodIn wsX6_cell (va_wsS RX6 150 yX6_baseVoltage wsX6_baseVoltage) := goodIn_app (goodIn_of _ (by decide +kernel)) ggX6_cell_X6_baseVoltage
theorem dX6_cell_0 : decode cX6_cell 0 = .ok (.aload_n 0, 1) := by decide +kernel
theorem dX6_cell_1 : decode cX6_cell 1 = .ok (.getfield 10, 3) := by decide +kernel
theorem dX6_cell_4 : decode cX6_cell 4 = .ok (.getfield 50, 3) := by decide +kernel
theorem dX6_cell_7 : decode cX6_cell 7 = .ok (.iload_n 1, 1) := by decide +kernel
theorem dX6_cell_8 : decode cX6_cell 8 = .ok (.invokevirtual 71, 3) := by decide +kernel
theorem dX6_cell_11 : decode cX6_cell 11 = .ok (.ifCond .ne 5, 3) := by decide +kernel
theorem dX6_cell_14 : decode cX6_cell 14 = .ok (.iconst (-1), 1) := by decide +kernel
theorem dX6_cell_15 : decode cX6_cell 15 = .ok (.ireturn, 1) := by decide +kernel
theorem dX6_cell_16 : decode cX6_cell 16 = .ok (.iload_n 2, 1) := by decide +kernel
theorem dX6_cell_17 : decode cX6_cell 17 = .ok (.tableswitch 193 0 8 #[51, 64, 89, 102, 115, 128, 141, 154, 167], 51) := by decide +kernel
theorem dX6_cell_68 : decode cX6_cell 68 = .ok (.aload_n 0, 1) := by decide +kernel
theorem dX6_cell_69 : decode cX6_cell 69 = .ok (.getfield 10, 3) := by decide +kernel
theorem dX6_cell_72 : decode cX6_cell 72 = .ok (.getfield 50, 3) := by decide +kernel
theorem dX6_cell_75 : decode cX6_cell 75 = .ok (.getfield 79, 3) := by decide +kernel
theorem dX6_cell_78 : decode cX6_cell 78 = .ok (.iload_n 1, 1) := by decide +kernel
theorem dX6_cell_79 : decode cX6_cell 79 = .ok (.iaload, 1) := by decide +kernel
theorem dX6_cell_80 : decode cX6_cell 80 = .ok (.ireturn, 1) := by decide +kernel
theorem dX6_cell_81 : decode cX6_cell 81 = .ok (.aload_n 0, 1) := by decide +kernel
theorem dX6_cell_82 : decode cX6_cell 82 = .ok (.getfield 10, 3) := by decide +kernel
theorem dX6_cell_85 : decode cX6_cell 85 = .ok (.getfield 50, 3) := by decide +kernel
theorem dX6_cell_88 : decode cX6_cell 88 = .ok (.getfield 79, 3) := by decide +kernel
theorem dX6_cell_91 : decode cX6_cell 91 = .ok (.iload_n 1, 1) := by decide +kernel
theorem dX6_cell_92 : decode cX6_cell 92 = .ok (.iaload, 1) := by decide +kernel
theorem dX6_cell_93 : decode cX6_cell 93 = .ok (.aload_n 0, 1) := by decide +kernel
theorem dX6_cell_94 : decode cX6_cell 94 = .ok (.getfield 10, 3) := by decide +kernel
theorem dX6_cell_97 : decode cX6_cell 97 = .ok (.getfield 75, 3) := by decide +kernel
theorem dX6_cell_100 : decode cX6_cell 100 = .ok (.iconst 0, 1) := by decide +kernel
theorem dX6_cell_101 : decode cX6_cell 101 = .ok (.iaload, 1) := by decide +kernel
theorem dX6_cell_102 : decode cX6_cell 102 = .ok (.invokestatic 150, 3) := by decide +kernel
theorem dX6_cell_105 : decode cX6_cell 105 = .ok (.ireturn, 1) := by decide +kernel
theorem dX6_cell_106 : decode cX6_cell 106 = .ok (.aload_n 0, 1) := by decide +kernel
theorem dX6_cell_107 : decode cX6_cell 107 = .ok (.getfield 10, 3) := by decide +kernel
theorem dX6_cell_110 : decode cX6_cell 110 = .ok (.getfield 50, 3) := by decide +kernel
theorem dX6_cell_113 : decode cX6_cell 113 = .ok (.getfield 82, 3) := by decide +kernel
theorem dX6_cell_116 : decode cX6_cell 116 = .ok (.iload_n 1, 1) := by decide +kernel
theorem dX6_cell_117 : decode cX6_cell 117 = .ok (.iaload, 1) := by decide +kernel
theorem dX6_cell_118 : decode cX6_cell 118 = .ok (.ireturn, 1) := by decide +kernel
theorem dX6_cell_119 : decode cX6_cell 119 = .ok (.aload_n 0, 1) := by decide +kernel
theorem dX6_cell_120 : decode cX6_cell 120 = .ok (.getfield 10, 3) := by decide +kernel
theorem dX6_cell_123 : decode cX6_cell 123 = .ok (.getfield 50, 3) := by decide +kernel
theorem dX6_cell_126 : decode cX6_cell 126 = .ok (.getfield 154, 3) := by decide +kernel
theorem dX6_cell_129 : decode cX6_cell 129 = .ok (.iload_n 1, 1) := by decide +kernel
theorem dX6_cell_130 : decode cX6_cell 130 = .ok (.iaload, 1) := by decide +kernel
theorem dX6_cell_131 : decode cX6_cell 131 = .ok (.ireturn, 1) := by decide +kernel
theorem dX6_cell_132 : decode cX6_cell 132 = .ok (.aload_n 0, 1) := by decide +kernel
theorem dX6_cell_133 : decode cX6_cell 133 = .ok (.getfield 10, 3) := by decide +kernel
theorem dX6_cell_136 : decode cX6_cell 136 = .ok (.getfield 50, 3) := by decide +kernel
theorem dX6_cell_139 : decode cX6_cell 139 = .ok (.getfield 157, 3) := by decide +kernel
theorem dX6_cell_142 : decode cX6_cell 142 = .ok (.iload_n 1, 1) := by decide +kernel
theorem dX6_cell_143 : decode cX6_cell 143 = .ok (.iaload, 1) := by decide +kernel
theorem dX6_cell_144 : decode cX6_cell 144 = .ok (.ireturn, 1) := by decide +kernel
theorem dX6_cell_145 : decode cX6_cell 145 = .ok (.aload_n 0, 1) := by decide +kernel
theorem dX6_cell_146 : decode cX6_cell 146 = .ok (.getfield 10, 3) := by decide +kernel
theorem dX6_cell_149 : decode cX6_cell 149 = .ok (.getfield 50, 3) := by decide +kernel
theorem dX6_cell_152 : decode cX6_cell 152 = .ok (.getfield 160, 3) := by decide +kernel
theorem dX6_cell_155 : decode cX6_cell 155 = .ok (.iload_n 1, 1) := by decide +kernel
theorem dX6_cell_156 : decode cX6_cell 156 = .ok (.iaload, 1) := by decide +kernel
theorem dX6_cell_157 : decode cX6_cell 157 = .ok (.ireturn, 1) := by decide +kernel
theorem dX6_cell_158 : decode cX6_cell 158 = .ok (.aload_n 0, 1) := by decide +kernel
theorem dX6_cell_159 : decode cX6_cell 159 = .ok (.getfield 10, 3) := by decide +kernel
theorem dX6_cell_162 : decode cX6_cell 162 = .ok (.getfield 50, 3) := by decide +kernel
theorem dX6_cell_165 : decode cX6_cell 165 = .ok (.getfield 163, 3) := by decide +kernel
theorem dX6_cell_168 : decode cX6_cell 168 = .ok (.iload_n 1, 1) := by decide +kernel
theorem dX6_cell_169 : decode cX6_cell 169 = .ok (.iaload, 1) := by decide +kernel
theorem dX6_cell_170 : decode cX6_cell 170 = .ok (.ireturn, 1) := by decide +kernel
theorem dX6_cell_171 : decode cX6_cell 171 = .ok (.aload_n 0, 1) := by decide +kernel
theorem dX6_cell_172 : decode cX6_cell 172 = .ok (.getfield 10, 3) := by decide +kernel
theorem dX6_cell_175 : decode cX6_cell 175 = .ok (.getfield 50, 3) := by decide +kernel
theorem dX6_cell_178 : decode cX6_cell 178 = .ok (.getfield 166, 3) := by decide +kernel
theorem dX6_cell_181 : decode cX6_cell 181 = .ok (.iload_n 1, 1) := by decide +kernel
theorem dX6_cell_182 : decode cX6_cell 182 = .ok (.iaload, 1) := by decide +kernel
theorem dX6_cell_183 : decode cX6_cell 183 = .ok (.ireturn, 1) := by decide +kernel
theorem dX6_cell_184 : decode cX6_cell 184 = .ok (.aload_n 0, 1) := by decide +kernel
theorem dX6_cell_185 : decode cX6_cell 185 = .ok (.getfield 10, 3) := by decide +kernel
theorem dX6_cell_188 : decode cX6_cell 188 = .ok (.getfield 50, 3) := by decide +kernel
theorem dX6_cell_191 : decode cX6_cell 191 = .ok (.getfield 154, 3) := by decide +kernel
theorem dX6_cell_194 : decode cX6_cell 194 = .ok (.iload_n 1, 1) := by decide +kernel
theorem dX6_cell_195 : decode cX6_cell 195 = .ok (.iaload, 1) := by decide +kernel
theorem dX6_cell_196 : decode cX6_cell 196 = .ok (.aload_n 0, 1) := by decide +kernel
theorem dX6_cell_197 : decode cX6_cell 197 = .ok (.getfield 10, 3) := by decide +kernel
theorem dX6_cell_200 : decode cX6_cell 200 = .ok (.getfield 50, 3) := by decide +kernel
theorem dX6_cell_203 : decode cX6_cell 203 = .ok (.getfield 157, 3) := by decide +kernel
theorem dX6_cell_206 : decode cX6_cell 206 = .ok (.iload_n 1, 1) := by decide +kernel
theorem dX6_cell_207 : decode cX6_cell 207 = .ok (.iaload, 1) := by decide +kernel
theorem dX6_cell_208 : decode cX6_cell 208 = .ok (.isub, 1) := by decide +kernel
theorem dX6_cell_209 : decode cX6_cell 209 = .ok (.ireturn, 1) := by decide +kernel
theorem dX6_cell_210 : decode cX6_cell 210 = .ok (.bipush (-2), 2) := by decide +kernel
theorem dX6_cell_212 : decode cX6_cell 212 = .ok (.ireturn, 1) := by decide +kernel
set_option maxRecDepth 20000 in
theorem ggX6_setting_X6_isSetting : GoodIn wsX6_setting wsX6_isSetting := goodIn_r _ [6] (by decide +kernel) (by decide +kernel)
set_option maxRecDepth 20000 in
theorem gX6_setting_X6_isSetting : GoodIn wsX6_setting (va_wsS RX6 92 yX6_isSetting wsX6_isSetting) := goodIn_app (goodIn_of _ (by decide +kernel)) ggX6_setting_X6_isSetting
theorem dX6_setting_0 : decode cX6_setting 0 = .ok (.iload_n 1, 1) := by decide +kernel
theorem dX6_setting_1 : decode cX6_setting 1 = .ok (.invokestatic 92, 3) := by decide +kernel
theorem dX6_setting_4 : decode cX6_setting 4 = .ok (.ifCond .eq 19, 3) := by decide +kernel
theorem dX6_setting_7 : decode cX6_setting 7 = .ok (.aload_n 0, 1) := by decide +kernel
theorem dX6_setting_8 : decode cX6_setting 8 = .ok (.getfield 10, 3) := by decide +kernel
theorem dX6_setting_11 : decode cX6_setting 11 = .ok (.getfield 75, 3) := by decide +kernel
theorem dX6_setting_14 : decode cX6_setting 14 = .ok (.iload_n 1, 1) := by decide +kernel
theorem dX6_setting_15 : decode cX6_setting 15 = .ok (.iaload, 1) := by decide +kernel
theorem dX6_setting_16 : decode cX6_setting 16 = .ok (.sipush 1000, 3) := by decide +kernel
theorem dX6_setting_19 : decode cX6_setting 19 = .ok (.iadd, 1) := by decide +kernel
theorem dX6_setting_20 : decode cX6_setting 20 = .ok (.goto 4, 3) := by decide +kernel
theorem dX6_setting_23 : decode cX6_setting 23 = .ok (.iconst (-1), 1) := by decide +kernel
theorem dX6_setting_24 : decode cX6_setting 24 = .ok (.ireturn, 1) := by decide +kernel
set_option maxRecDepth 20000 in
theorem ggX6_stage_X3_has : GoodIn wsX6_stage wsX3_has := goodIn_r _ [11, 12, 46, 47, 48, 49, 50] (by decide +kernel) (by decide +kernel)
set_option maxRecDepth 20000 in
theorem gX6_stage_X3_has : GoodIn wsX6_stage (wsV RX6 169 RX3 yX3_has wsX3_has) := goodIn_app (goodIn_of _ (by decide +kernel)) ggX6_stage_X3_has
set_option maxRecDepth 20000 in
theorem ggX6_stage_X4_limitOfNow : GoodIn wsX6_stage wsX4_limitOfNow := goodIn_r _ [17, 18, 19, 20, 21, 22, 10, 23, 24, 25, 26, 34, 35, 36, 37, 38, 39, 40, 41, 42, 43, 44, 45, 46, 47, 48, 49, 50] (by decide +kernel) (by decide +kernel)
set_option maxRecDepth 20000 in
theorem gX6_stage_X4_limitOfNow : GoodIn wsX6_stage (wsV RX6 182 RX4 yX4_limitOfNow wsX4_limitOfNow) := goodIn_app (goodIn_of _ (by decide +kernel)) ggX6_stage_X4_limitOfNow
theorem dX6_stage_0 : decode cX6_stage 0 = .ok (.aload_n 0, 1) := by decide +kernel
theorem dX6_stage_1 : decode cX6_stage 1 = .ok (.getfield 10, 3) := by decide +kernel
theorem dX6_stage_4 : decode cX6_stage 4 = .ok (.getfield 116, 3) := by decide +kernel
theorem dX6_stage_7 : decode cX6_stage 7 = .ok (.astore_n 3, 1) := by decide +kernel
theorem dX6_stage_8 : decode cX6_stage 8 = .ok (.aload_n 3, 1) := by decide +kernel
theorem dX6_stage_9 : decode cX6_stage 9 = .ok (.iload_n 1, 1) := by decide +kernel
theorem dX6_stage_10 : decode cX6_stage 10 = .ok (.invokevirtual 169, 3) := by decide +kernel
theorem dX6_stage_13 : decode cX6_stage 13 = .ok (.ifCond .ne 5, 3) := by decide +kernel
theorem dX6_stage_16 : decode cX6_stage 16 = .ok (.iconst (-1), 1) := by decide +kernel
theorem dX6_stage_17 : decode cX6_stage 17 = .ok (.ireturn, 1) := by decide +kernel
theorem dX6_stage_18 : decode cX6_stage 18 = .ok (.iload_n 2, 1) := by decide +kernel
theorem dX6_stage_19 : decode cX6_stage 19 = .ok (.tableswitch 85 0 4 #[33, 40, 47, 54, 61], 33) := by decide +kernel
theorem dX6_stage_52 : decode cX6_stage 52 = .ok (.aload_n 3, 1) := by decide +kernel
theorem dX6_stage_53 : decode cX6_stage 53 = .ok (.getfield 170, 3) := by decide +kernel
theorem dX6_stage_56 : decode cX6_stage 56 = .ok (.iload_n 1, 1) := by decide +kernel
theorem dX6_stage_57 : decode cX6_stage 57 = .ok (.iaload, 1) := by decide +kernel
theorem dX6_stage_58 : decode cX6_stage 58 = .ok (.ireturn, 1) := by decide +kernel
theorem dX6_stage_59 : decode cX6_stage 59 = .ok (.aload_n 3, 1) := by decide +kernel
theorem dX6_stage_60 : decode cX6_stage 60 = .ok (.getfield 173, 3) := by decide +kernel
theorem dX6_stage_63 : decode cX6_stage 63 = .ok (.iload_n 1, 1) := by decide +kernel
theorem dX6_stage_64 : decode cX6_stage 64 = .ok (.iaload, 1) := by decide +kernel
theorem dX6_stage_65 : decode cX6_stage 65 = .ok (.ireturn, 1) := by decide +kernel
theorem dX6_stage_66 : decode cX6_stage 66 = .ok (.aload_n 3, 1) := by decide +kernel
theorem dX6_stage_67 : decode cX6_stage 67 = .ok (.getfield 176, 3) := by decide +kernel
theorem dX6_stage_70 : decode cX6_stage 70 = .ok (.iload_n 1, 1) := by decide +kernel
theorem dX6_stage_71 : decode cX6_stage 71 = .ok (.iaload, 1) := by decide +kernel
theorem dX6_stage_72 : decode cX6_stage 72 = .ok (.ireturn, 1) := by decide +kernel
theorem dX6_stage_73 : decode cX6_stage 73 = .ok (.aload_n 3, 1) := by decide +kernel
theorem dX6_stage_74 : decode cX6_stage 74 = .ok (.getfield 179, 3) := by decide +kernel
theorem dX6_stage_77 : decode cX6_stage 77 = .ok (.iload_n 1, 1) := by decide +kernel
theorem dX6_stage_78 : decode cX6_stage 78 = .ok (.iaload, 1) := by decide +kernel
theorem dX6_stage_79 : decode cX6_stage 79 = .ok (.ireturn, 1) := by decide +kernel
theorem dX6_stage_80 : decode cX6_stage 80 = .ok (.aload_n 3, 1) := by decide +kernel
theorem dX6_stage_81 : decode cX6_stage 81 = .ok (.getfield 170, 3) := by decide +kernel
theorem dX6_stage_84 : decode cX6_stage 84 = .ok (.iload_n 1, 1) := by decide +kernel
theorem dX6_stage_85 : decode cX6_stage 85 = .ok (.iaload, 1) := by decide +kernel
theorem dX6_stage_86 : decode cX6_stage 86 = .ok (.iconst 2, 1) := by decide +kernel
theorem dX6_stage_87 : decode cX6_stage 87 = .ok (.if_icmp .ne 8, 3) := by decide +kernel
theorem dX6_stage_90 : decode cX6_stage 90 = .ok (.bipush (-5), 2) := by decide +kernel
theorem dX6_stage_92 : decode cX6_stage 92 = .ok (.goto 11, 3) := by decide +kernel
theorem dX6_stage_95 : decode cX6_stage 95 = .ok (.aload_n 0, 1) := by decide +kernel
theorem dX6_stage_96 : decode cX6_stage 96 = .ok (.getfield 10, 3) := by decide +kernel
theorem dX6_stage_99 : decode cX6_stage 99 = .ok (.iload_n 1, 1) := by decide +kernel
theorem dX6_stage_100 : decode cX6_stage 100 = .ok (.invokevirtual 182, 3) := by decide +kernel
theorem dX6_stage_103 : decode cX6_stage 103 = .ok (.ireturn, 1) := by decide +kernel
theorem dX6_stage_104 : decode cX6_stage 104 = .ok (.bipush (-2), 2) := by decide +kernel
theorem dX6_stage_106 : decode cX6_stage 106 = .ok (.ireturn, 1) := by decide +kernel
set_option maxRecDepth 20000 in
theorem ggX6_voltage_X4_greatestVoltage : GoodIn wsX6_voltage wsX4_greatestVoltage := goodIn_r _ [6, 7, 8, 9, 10, 11, 12, 13, 14, 15, 16, 17, 18, 19, 20, 21, 22, 30, 31, 32, 33, 34, 35, 36, 37, 38, 39, 40, 41, 42, 43, 44, 45, 46, 47, 48, 49] (by decide +kernel) (by decide +kernel)
set_option maxRecDepth 20000 in
theorem gX6_voltage_X4_greatestVoltage : GoodIn wsX6_voltage (wsV RX6 186 RX4 yX4_greatestVoltage wsX4_greatestVoltage) := goodIn_app (goodIn_of _ (by decide +kernel)) ggX6_voltage_X4_greatestVoltage
theorem dX6_voltage_0 : decode cX6_voltage 0 = .ok (.iload_n 1, 1) := by decide +kernel
theorem dX6_voltage_1 : decode cX6_voltage 1 = .ok (.ifCond .lt 10, 3) := by decide +kernel
theorem dX6_voltage_4 : decode cX6_voltage 4 = .ok (.iload_n 1, 1) := by decide +kernel
theorem dX6_voltage_5 : decode cX6_voltage 5 = .ok (.sipush 2000, 3) := by decide +kernel
theorem dX6_voltage_8 : decode cX6_voltage 8 = .ok (.if_icmp .le 8, 3) := by decide +kernel
theorem dX6_voltage_11 : decode cX6_voltage 11 = .ok (.bipush (-2), 2) := by decide +kernel
theorem dX6_voltage_13 : decode cX6_voltage 13 = .ok (.goto 11, 3) := by decide +kernel
theorem dX6_voltage_16 : decode cX6_voltage 16 = .ok (.aload_n 0, 1) := by decide +kernel
theorem dX6_voltage_17 : decode cX6_voltage 17 = .ok (.getfield 10, 3) := by decide +kernel
theorem dX6_voltage_20 : decode cX6_voltage 20 = .ok (.iload_n 1, 1) := by decide +kernel
theorem dX6_voltage_21 : decode cX6_voltage 21 = .ok (.invokevirtual 186, 3) := by decide +kernel
theorem dX6_voltage_24 : decode cX6_voltage 24 = .ok (.ireturn, 1) := by decide +kernel
set_option maxRecDepth 20000 in
theorem ggX6_current_X4_isPaused : GoodIn wsX6_current wsX4_isPaused := goodIn_r _ [11, 12, 13, 14, 15, 16, 72, 73, 74, 75, 76, 77, 78, 79, 80, 81, 82, 83] (by decide +kernel) (by decide +kernel)
set_option maxRecDepth 20000 in
theorem gX6_current_X4_isPaused : GoodIn wsX6_current (wsV RX6 189 RX4 yX4_isPaused wsX4_isPaused) := goodIn_app (goodIn_of _ (by decide +kernel)) ggX6_current_X4_isPaused
set_option maxRecDepth 20000 in
theorem ggX6_current_X4_currentOfStage : GoodIn wsX6_current wsX4_currentOfStage := goodIn_r _ [20, 21, 22, 23, 24, 25, 26, 27, 28, 29, 30, 31, 32, 33, 34, 10, 35, 13, 36, 37, 38, 39, 40, 41, 42, 43, 44, 45, 46, 47, 48, 49, 50, 51, 52, 53, 54, 55, 4, 5, 6, 56, 15, 57, 58, 59, 60, 61, 62, 63, 64, 72, 73, 74, 75, 76, 77, 78, 79, 80, 81, 82, 83, 84, 85, 86, 87, 88, 89, 90, 91, 92, 93, 94, 95, 96] (by decide +kernel) (by decide +kernel)
set_option maxRecDepth 20000 in
theorem gX6_current_X4_currentOfStage : GoodIn wsX6_current (wsV RX6 192 RX4 yX4_currentOfStage wsX4_currentOfStage) := goodIn_app (goodIn_of _ (by decide +kernel)) ggX6_current_X4_currentOfStage
theorem dX6_current_0 : decode cX6_current 0 = .ok (.aload_n 0, 1) := by decide +kernel
theorem dX6_current_1 : decode cX6_current 1 = .ok (.getfield 10, 3) := by decide +kernel
theorem dX6_current_4 : decode cX6_current 4 = .ok (.getfield 68, 3) := by decide +kernel
theorem dX6_current_7 : decode cX6_current 7 = .ok (.iconst 1, 1) := by decide +kernel
theorem dX6_current_8 : decode cX6_current 8 = .ok (.if_icmp .ne 13, 3) := by decide +kernel
theorem dX6_current_11 : decode cX6_current 11 = .ok (.aload_n 0, 1) := by decide +kernel
theorem dX6_current_12 : decode cX6_current 12 = .ok (.getfield 10, 3) := by decide +kernel
theorem dX6_current_15 : decode cX6_current 15 = .ok (.invokevirtual 189, 3) := by decide +kernel
theorem dX6_current_18 : decode cX6_current 18 = .ok (.ifCond .eq 7, 3) := by decide +kernel
theorem dX6_current_21 : decode cX6_current 21 = .ok (.iconst 0, 1) := by decide +kernel
theorem dX6_current_22 : decode cX6_current 22 = .ok (.goto 14, 3) := by decide +kernel
theorem dX6_current_25 : decode cX6_current 25 = .ok (.iconst 0, 1) := by decide +kernel
theorem dX6_current_26 : decode cX6_current 26 = .ok (.aload_n 0, 1) := by decide +kernel
theorem dX6_current_27 : decode cX6_current 27 = .ok (.getfield 10, 3) := by decide +kernel
theorem dX6_current_30 : decode cX6_current 30 = .ok (.invokevirtual 192, 3) := by decide +kernel
theorem dX6_current_33 : decode cX6_current 33 = .ok (.invokestatic 195, 3) := by decide +kernel
theorem dX6_current_36 : decode cX6_current 36 = .ok (.ireturn, 1) := by decide +kernel
set_option maxRecDepth 20000 in
theorem ggX6_doneIn_X4_copyFrom : GoodIn wsX6_doneIn wsX4_copyFrom := goodIn_r _ [8, 9, 10, 11, 12, 13, 14, 15, 16, 17, 18, 19, 20, 21, 22, 23, 24, 25, 26, 27, 28, 29, 30, 31, 32, 33, 34, 35, 36, 37, 38, 39, 40, 41, 42, 43, 44, 45, 46, 47, 48, 49, 50, 51, 52, 53, 54, 55, 56, 57, 58, 59, 60, 165, 166, 167, 168, 169, 170, 171, 172, 173, 174, 175, 176, 177, 178, 179, 180, 181, 182, 183, 184, 185, 186, 187, 188, 189, 190, 191, 192, 193, 194] (by decide +kernel) (by decide +kernel)
set_option maxRecDepth 20000 in
theorem gX6_doneIn_X4_copyFrom : GoodIn wsX6_doneIn (wsV RX6 148 RX4 yX4_copyFrom wsX4_copyFrom) := goodIn_app (goodIn_of _ (by decide +kernel)) ggX6_doneIn_X4_copyFrom
set_option maxRecDepth 20000 in
theorem ggX6_doneIn_X4_runUntilDone : GoodIn wsX6_doneIn wsX4_runUntilDone := goodIn_r _ [64, 17, 65, 66, 67, 7, 68, 9, 69, 70, 71, 72, 73, 74, 75, 22, 14, 20, 76, 77, 78, 79, 16, 18, 21, 80, 81, 82, 53, 83, 57, 56, 59, 60, 55, 84, 85, 86, 87, 19, 24, 88, 89, 90, 91, 15, 92, 93, 94, 95, 96, 97, 42, 98, 44, 99, 100, 101, 102, 103, 104, 105, 106, 45, 47, 48, 107, 108, 109, 110, 111, 112, 113, 28, 114, 31, 30, 115, 116, 117, 118, 119, 120, 121, 122, 123, 124, 125, 126, 127, 128, 129, 130, 131, 33, 34, 35, 36, 132, 133, 134, 135, 136, 137, 138, 139, 23, 140, 141, 142, 143, 144, 145, 146, 147, 148, 149, 150, 151, 152, 153, 37, 154, 155, 156, 157, 165, 166, 167, 168, 169, 170, 171, 172, 173, 174, 175, 176, 190, 191, 192, 193, 194, 185, 186, 187, 188, 189, 177, 178, 179, 180, 181, 182, 183, 184] (by decide +kernel) (by decide +kernel)
set_option maxRecDepth 20000 in
theorem gX6_doneIn_X4_runUntilDone : GoodIn wsX6_doneIn (wsV RX6 200 RX4 yX4_runUntilDone wsX4_runUntilDone) := goodIn_app (goodIn_of _ (by decide +kernel)) ggX6_doneIn_X4_runUntilDone
theorem dX6_doneIn_0 : decode cX6_doneIn 0 = .ok (.aload_n 0, 1) := by decide +kernel
theorem dX6_doneIn_1 : decode cX6_doneIn 1 = .ok (.getfield 10, 3) := by decide +kernel
theorem dX6_doneIn_4 : decode cX6_doneIn 4 = .ok (.getfield 68, 3) := by decide +kernel
theorem dX6_doneIn_7 : decode cX6_doneIn 7 = .ok (.iconst 2, 1) := by decide +kernel
theorem dX6_doneIn_8 : decode cX6_doneIn 8 = .ok (.if_icmp .ne 5, 3) := by decide +kernel
theorem dX6_doneIn_11 : decode cX6_doneIn 11 = .ok (.iconst 0, 1) := by decide +kernel
theorem dX6_doneIn_12 : decode cX6_doneIn 12 = .ok (.ireturn, 1) := by decide +kernel
theorem dX6_doneIn_13 : decode cX6_doneIn 13 = .ok (.aload_n 0, 1) := by decide +kernel
theorem dX6_doneIn_14 : decode cX6_doneIn 14 = .ok (.getfield 16, 3) := by decide +kernel
theorem dX6_doneIn_17 : decode cX6_doneIn 17 = .ok (.aload_n 0, 1) := by decide +kernel
theorem dX6_doneIn_18 : decode cX6_doneIn 18 = .ok (.getfield 10, 3) := by decide +kernel
theorem dX6_doneIn_21 : decode cX6_doneIn 21 = .ok (.invokevirtual 148, 3) := by decide +kernel
theorem dX6_doneIn_24 : decode cX6_doneIn 24 = .ok (.aload_n 0, 1) := by decide +kernel
theorem dX6_doneIn_25 : decode cX6_doneIn 25 = .ok (.getfield 16, 3) := by decide +kernel
theorem dX6_doneIn_28 : decode cX6_doneIn 28 = .ok (.sipush 2000, 3) := by decide +kernel
theorem dX6_doneIn_31 : decode cX6_doneIn 31 = .ok (.invokevirtual 200, 3) := by decide +kernel
theorem dX6_doneIn_34 : decode cX6_doneIn 34 = .ok (.ireturn, 1) := by decide +kernel
set_option maxRecDepth 20000 in
theorem ggX6_chargeIn_X0_has : GoodIn wsX6_chargeIn wsX0_has := goodIn_r _ [9, 10, 182, 183, 184, 185, 186, 187, 188, 189] (by decide +kernel) (by decide +kernel)
set_option maxRecDepth 20000 in
theorem gX6_chargeIn_X0_has : GoodIn wsX6_chargeIn (wsV RX6 71 RX0 yX0_has wsX0_has) := goodIn_app (goodIn_of _ (by decide +kernel)) ggX6_chargeIn_X0_has
set_option maxRecDepth 20000 in
theorem ggX6_chargeIn_X4_copyFrom : GoodIn wsX6_chargeIn wsX4_copyFrom := goodIn_r _ [15, 16, 17, 18, 19, 20, 21, 22, 23, 24, 25, 26, 27, 28, 29, 30, 31, 32, 33, 34, 8, 35, 10, 36, 37, 38, 39, 40, 41, 42, 43, 44, 45, 46, 47, 48, 49, 50, 51, 52, 53, 54, 55, 56, 57, 58, 59, 60, 61, 62, 63, 64, 65, 170, 171, 172, 173, 174, 175, 176, 177, 178, 179, 180, 181, 182, 183, 184, 185, 186, 187, 188, 189, 190, 191, 192, 193, 194, 195, 196, 197, 198, 199] (by decide +kernel) (by decide +kernel)
set_option maxRecDepth 20000 in
theorem gX6_chargeIn_X4_copyFrom : GoodIn wsX6_chargeIn (wsV RX6 148 RX4 yX4_copyFrom wsX4_copyFrom) := goodIn_app (goodIn_of _ (by decide +kernel)) ggX6_chargeIn_X4_copyFrom
set_option maxRecDepth 20000 in
theorem ggX6_chargeIn_X4_passTicks : GoodIn wsX6_chargeIn wsX4_passTicks := goodIn_r _ [69, 70, 71, 72, 14, 73, 24, 29, 16, 21, 27, 74, 75, 76, 77, 78, 79, 80, 81, 82, 83, 84, 23, 25, 28, 85, 86, 87, 58, 88, 62, 61, 64, 65, 60, 89, 90, 91, 92, 26, 31, 93, 94, 95, 96, 22, 97, 98, 99, 100, 101, 102, 47, 103, 49, 104, 105, 106, 107, 108, 109, 110, 111, 50, 52, 53, 112, 113, 114, 115, 116, 117, 118, 8, 119, 36, 10, 120, 121, 122, 123, 124, 125, 126, 127, 128, 129, 130, 131, 132, 133, 134, 135, 136, 38, 39, 40, 41, 137, 138, 139, 140, 141, 142, 143, 144, 30, 145, 146, 147, 148, 149, 150, 151, 152, 153, 154, 155, 156, 157, 158, 42, 159, 160, 161, 162, 170, 171, 172, 173, 174, 175, 176, 177, 178, 179, 180, 181, 195, 196, 197, 198, 199, 190, 191, 192, 193, 194, 182, 183, 184, 185, 186, 187, 188, 189] (by decide +kernel) (by decide +kernel)
set_option maxRecDepth 20000 in
theorem gX6_chargeIn_X4_passTicks : GoodIn wsX6_chargeIn (wsV RX6 133 RX4 yX4_passTicks wsX4_passTicks) := goodIn_app (goodIn_of _ (by decide +kernel)) ggX6_chargeIn_X4_passTicks
theorem dX6_chargeIn_0 : decode cX6_chargeIn 0 = .ok (.aload_n 0, 1) := by decide +kernel
theorem dX6_chargeIn_1 : decode cX6_chargeIn 1 = .ok (.getfield 10, 3) := by decide +kernel
theorem dX6_chargeIn_4 : decode cX6_chargeIn 4 = .ok (.getfield 50, 3) := by decide +kernel
theorem dX6_chargeIn_7 : decode cX6_chargeIn 7 = .ok (.iload_n 1, 1) := by decide +kernel
theorem dX6_chargeIn_8 : decode cX6_chargeIn 8 = .ok (.invokevirtual 71, 3) := by decide +kernel
theorem dX6_chargeIn_11 : decode cX6_chargeIn 11 = .ok (.ifCond .ne 5, 3) := by decide +kernel
theorem dX6_chargeIn_14 : decode cX6_chargeIn 14 = .ok (.iconst (-1), 1) := by decide +kernel
theorem dX6_chargeIn_15 : decode cX6_chargeIn 15 = .ok (.ireturn, 1) := by decide +kernel
theorem dX6_chargeIn_16 : decode cX6_chargeIn 16 = .ok (.iload_n 2, 1) := by decide +kernel
theorem dX6_chargeIn_17 : decode cX6_chargeIn 17 = .ok (.ifCond .lt 10, 3) := by decide +kernel
theorem dX6_chargeIn_20 : decode cX6_chargeIn 20 = .ok (.iload_n 2, 1) := by decide +kernel
theorem dX6_chargeIn_21 : decode cX6_chargeIn 21 = .ok (.sipush 200, 3) := by decide +kernel
theorem dX6_chargeIn_24 : decode cX6_chargeIn 24 = .ok (.if_icmp .le 6, 3) := by decide +kernel
theorem dX6_chargeIn_27 : decode cX6_chargeIn 27 = .ok (.bipush (-2), 2) := by decide +kernel
theorem dX6_chargeIn_29 : decode cX6_chargeIn 29 = .ok (.ireturn, 1) := by decide +kernel
theorem dX6_chargeIn_30 : decode cX6_chargeIn 30 = .ok (.aload_n 0, 1) := by decide +kernel
theorem dX6_chargeIn_31 : decode cX6_chargeIn 31 = .ok (.getfield 16, 3) := by decide +kernel
theorem dX6_chargeIn_34 : decode cX6_chargeIn 34 = .ok (.aload_n 0, 1) := by decide +kernel
theorem dX6_chargeIn_35 : decode cX6_chargeIn 35 = .ok (.getfield 10, 3) := by decide +kernel
theorem dX6_chargeIn_38 : decode cX6_chargeIn 38 = .ok (.invokevirtual 148, 3) := by decide +kernel
theorem dX6_chargeIn_41 : decode cX6_chargeIn 41 = .ok (.aload_n 0, 1) := by decide +kernel
theorem dX6_chargeIn_42 : decode cX6_chargeIn 42 = .ok (.getfield 16, 3) := by decide +kernel
theorem dX6_chargeIn_45 : decode cX6_chargeIn 45 = .ok (.iload_n 2, 1) := by decide +kernel
theorem dX6_chargeIn_46 : decode cX6_chargeIn 46 = .ok (.invokevirtual 133, 3) := by decide +kernel
theorem dX6_chargeIn_49 : decode cX6_chargeIn 49 = .ok (.aload_n 0, 1) := by decide +kernel
theorem dX6_chargeIn_50 : decode cX6_chargeIn 50 = .ok (.getfield 16, 3) := by decide +kernel
theorem dX6_chargeIn_53 : decode cX6_chargeIn 53 = .ok (.getfield 50, 3) := by decide +kernel
theorem dX6_chargeIn_56 : decode cX6_chargeIn 56 = .ok (.getfield 79, 3) := by decide +kernel
theorem dX6_chargeIn_59 : decode cX6_chargeIn 59 = .ok (.iload_n 1, 1) := by decide +kernel
theorem dX6_chargeIn_60 : decode cX6_chargeIn 60 = .ok (.iaload, 1) := by decide +kernel
theorem dX6_chargeIn_61 : decode cX6_chargeIn 61 = .ok (.ireturn, 1) := by decide +kernel
set_option maxRecDepth 20000 in
theorem ggX6_warmest_X4_copyFrom : GoodIn wsX6_warmest wsX4_copyFrom := goodIn_r _ [9, 10, 11, 12, 13, 14, 15, 16, 17, 18, 19, 20, 21, 22, 23, 24, 25, 26, 27, 28, 29, 30, 31, 32, 33, 34, 35, 36, 37, 38, 39, 40, 41, 42, 43, 44, 45, 46, 47, 48, 49, 50, 51, 52, 53, 54, 55, 56, 57, 58, 59, 60, 61, 166, 167, 168, 169, 170, 171, 172, 173, 174, 175, 176, 177, 178, 179, 180, 181, 182, 183, 184, 185, 186, 187, 188, 189, 190, 191, 192, 193, 194, 195] (by decide +kernel) (by decide +kernel)
set_option maxRecDepth 20000 in
theorem gX6_warmest_X4_copyFrom : GoodIn wsX6_warmest (wsV RX6 148 RX4 yX4_copyFrom wsX4_copyFrom) := goodIn_app (goodIn_of _ (by decide +kernel)) ggX6_warmest_X4_copyFrom
set_option maxRecDepth 20000 in
theorem ggX6_warmest_X4_runUntilDone : GoodIn wsX6_warmest wsX4_runUntilDone := goodIn_r _ [65, 18, 66, 67, 68, 8, 69, 10, 70, 71, 72, 73, 74, 75, 76, 23, 15, 21, 77, 78, 79, 80, 17, 19, 22, 81, 82, 83, 54, 84, 58, 57, 60, 61, 56, 85, 86, 87, 88, 20, 25, 89, 90, 91, 92, 16, 93, 94, 95, 96, 97, 98, 43, 99, 45, 100, 101, 102, 103, 104, 105, 106, 107, 46, 48, 49, 108, 109, 110, 111, 112, 113, 114, 29, 115, 32, 31, 116, 117, 118, 119, 120, 121, 122, 123, 124, 125, 126, 127, 128, 129, 130, 131, 132, 34, 35, 36, 37, 133, 134, 135, 136, 137, 138, 139, 140, 24, 141, 142, 143, 144, 145, 146, 147, 148, 149, 150, 151, 152, 153, 154, 38, 155, 156, 157, 158, 166, 167, 168, 169, 170, 171, 172, 173, 174, 175, 176, 177, 191, 192, 193, 194, 195, 186, 187, 188, 189, 190, 178, 179, 180, 181, 182, 183, 184, 185] (by decide +kernel) (by decide +kernel)
set_option maxRecDepth 20000 in
theorem gX6_warmest_X4_runUntilDone : GoodIn wsX6_warmest (wsV RX6 200 RX4 yX4_runUntilDone wsX4_runUntilDone) := goodIn_app (goodIn_of _ (by decide +kernel)) ggX6_warmest_X4_runUntilDone
theorem dX6_warmest_0 : decode cX6_warmest 0 = .ok (.aload_n 0, 1) := by decide +kernel
theorem dX6_warmest_1 : decode cX6_warmest 1 = .ok (.getfield 10, 3) := by decide +kernel
theorem dX6_warmest_4 : decode cX6_warmest 4 = .ok (.getfield 68, 3) := by decide +kernel
theorem dX6_warmest_7 : decode cX6_warmest 7 = .ok (.iconst 1, 1) := by decide +kernel
theorem dX6_warmest_8 : decode cX6_warmest 8 = .ok (.if_icmp .eq 6, 3) := by decide +kernel
theorem dX6_warmest_11 : decode cX6_warmest 11 = .ok (.bipush (-4), 2) := by decide +kernel
theorem dX6_warmest_13 : decode cX6_warmest 13 = .ok (.ireturn, 1) := by decide +kernel
theorem dX6_warmest_14 : decode cX6_warmest 14 = .ok (.aload_n 0, 1) := by decide +kernel
theorem dX6_warmest_15 : decode cX6_warmest 15 = .ok (.getfield 10, 3) := by decide +kernel
theorem dX6_warmest_18 : decode cX6_warmest 18 = .ok (.getfield 75, 3) := by decide +kernel
theorem dX6_warmest_21 : decode cX6_warmest 21 = .ok (.iconst 5, 1) := by decide +kernel
theorem dX6_warmest_22 : decode cX6_warmest 22 = .ok (.iaload, 1) := by decide +kernel
theorem dX6_warmest_23 : decode cX6_warmest 23 = .ok (.istore_n 1, 1) := by decide +kernel
theorem dX6_warmest_24 : decode cX6_warmest 24 = .ok (.aload_n 0, 1) := by decide +kernel
theorem dX6_warmest_25 : decode cX6_warmest 25 = .ok (.getfield 10, 3) := by decide +kernel
theorem dX6_warmest_28 : decode cX6_warmest 28 = .ok (.getfield 75, 3) := by decide +kernel
theorem dX6_warmest_31 : decode cX6_warmest 31 = .ok (.bipush 6, 2) := by decide +kernel
theorem dX6_warmest_33 : decode cX6_warmest 33 = .ok (.iaload, 1) := by decide +kernel
theorem dX6_warmest_34 : decode cX6_warmest 34 = .ok (.istore_n 2, 1) := by decide +kernel
theorem dX6_warmest_35 : decode cX6_warmest 35 = .ok (.iload_n 2, 1) := by decide +kernel
theorem dX6_warmest_36 : decode cX6_warmest 36 = .ok (.iload_n 1, 1) := by decide +kernel
theorem dX6_warmest_37 : decode cX6_warmest 37 = .ok (.if_icmp .lt 51, 3) := by decide +kernel
theorem dX6_warmest_40 : decode cX6_warmest 40 = .ok (.aload_n 0, 1) := by decide +kernel
theorem dX6_warmest_41 : decode cX6_warmest 41 = .ok (.getfield 16, 3) := by decide +kernel
theorem dX6_warmest_44 : decode cX6_warmest 44 = .ok (.aload_n 0, 1) := by decide +kernel
theorem dX6_warmest_45 : decode cX6_warmest 45 = .ok (.getfield 10, 3) := by decide +kernel
theorem dX6_warmest_48 : decode cX6_warmest 48 = .ok (.invokevirtual 148, 3) := by decide +kernel
theorem dX6_warmest_51 : decode cX6_warmest 51 = .ok (.aload_n 0, 1) := by decide +kernel
theorem dX6_warmest_52 : decode cX6_warmest 52 = .ok (.getfield 16, 3) := by decide +kernel
theorem dX6_warmest_55 : decode cX6_warmest 55 = .ok (.getfield 75, 3) := by decide +kernel
theorem dX6_warmest_58 : decode cX6_warmest 58 = .ok (.iconst 3, 1) := by decide +kernel
theorem dX6_warmest_59 : decode cX6_warmest 59 = .ok (.iload_n 2, 1) := by decide +kernel
theorem dX6_warmest_60 : decode cX6_warmest 60 = .ok (.iastore, 1) := by decide +kernel
theorem dX6_warmest_61 : decode cX6_warmest 61 = .ok (.aload_n 0, 1) := by decide +kernel
theorem dX6_warmest_62 : decode cX6_warmest 62 = .ok (.getfield 16, 3) := by decide +kernel
theorem dX6_warmest_65 : decode cX6_warmest 65 = .ok (.sipush 500, 3) := by decide +kernel
theorem dX6_warmest_68 : decode cX6_warmest 68 = .ok (.invokevirtual 200, 3) := by decide +kernel
theorem dX6_warmest_71 : decode cX6_warmest 71 = .ok (.bipush (-5), 2) := by decide +kernel
theorem dX6_warmest_73 : decode cX6_warmest 73 = .ok (.if_icmp .eq 9, 3) := by decide +kernel
theorem dX6_warmest_76 : decode cX6_warmest 76 = .ok (.iload_n 2, 1) := by decide +kernel
theorem dX6_warmest_77 : decode cX6_warmest 77 = .ok (.sipush 1000, 3) := by decide +kernel
theorem dX6_warmest_80 : decode cX6_warmest 80 = .ok (.iadd, 1) := by decide +kernel
theorem dX6_warmest_81 : decode cX6_warmest 81 = .ok (.ireturn, 1) := by decide +kernel
theorem dX6_warmest_82 : decode cX6_warmest 82 = .ok (.iinc 2 (-1), 3) := by decide +kernel
theorem dX6_warmest_85 : decode cX6_warmest 85 = .ok (.goto (-50), 3) := by decide +kernel
theorem dX6_warmest_88 : decode cX6_warmest 88 = .ok (.bipush (-5), 2) := by decide +kernel
theorem dX6_warmest_90 : decode cX6_warmest 90 = .ok (.ireturn, 1) := by decide +kernel
set_option maxRecDepth 20000 in
theorem ggX6_event_X2_placeOf : GoodIn wsX6_event wsX2_placeOf := goodIn_r _ [11, 12, 13, 14, 15, 16, 36, 37, 38, 39, 40] (by decide +kernel) (by decide +kernel)
set_option maxRecDepth 20000 in
theorem gX6_event_X2_placeOf : GoodIn wsX6_event (wsV RX6 212 RX2 yX2_placeOf wsX2_placeOf) := goodIn_app (goodIn_of _ (by decide +kernel)) ggX6_event_X2_placeOf
theorem dX6_event_0 : decode cX6_event 0 = .ok (.iload_n 1, 1) := by decide +kernel
theorem dX6_event_1 : decode cX6_event 1 = .ok (.ifCond .lt 12, 3) := by decide +kernel
theorem dX6_event_4 : decode cX6_event 4 = .ok (.iload_n 2, 1) := by decide +kernel
theorem dX6_event_5 : decode cX6_event 5 = .ok (.ifCond .lt 8, 3) := by decide +kernel
theorem dX6_event_8 : decode cX6_event 8 = .ok (.iload_n 2, 1) := by decide +kernel
theorem dX6_event_9 : decode cX6_event 9 = .ok (.iconst 2, 1) := by decide +kernel
theorem dX6_event_10 : decode cX6_event 10 = .ok (.if_icmp .le 6, 3) := by decide +kernel
theorem dX6_event_13 : decode cX6_event 13 = .ok (.bipush (-2), 2) := by decide +kernel
theorem dX6_event_15 : decode cX6_event 15 = .ok (.ireturn, 1) := by decide +kernel
theorem dX6_event_16 : decode cX6_event 16 = .ok (.iload_n 1, 1) := by decide +kernel
theorem dX6_event_17 : decode cX6_event 17 = .ok (.aload_n 0, 1) := by decide +kernel
theorem dX6_event_18 : decode cX6_event 18 = .ok (.getfield 10, 3) := by decide +kernel
theorem dX6_event_21 : decode cX6_event 21 = .ok (.getfield 203, 3) := by decide +kernel
theorem dX6_event_24 : decode cX6_event 24 = .ok (.getfield 207, 3) := by decide +kernel
theorem dX6_event_27 : decode cX6_event 27 = .ok (.if_icmp .lt 6, 3) := by decide +kernel
theorem dX6_event_30 : decode cX6_event 30 = .ok (.bipush (-5), 2) := by decide +kernel
theorem dX6_event_32 : decode cX6_event 32 = .ok (.ireturn, 1) := by decide +kernel
theorem dX6_event_33 : decode cX6_event 33 = .ok (.aload_n 0, 1) := by decide +kernel
theorem dX6_event_34 : decode cX6_event 34 = .ok (.getfield 10, 3) := by decide +kernel
theorem dX6_event_37 : decode cX6_event 37 = .ok (.getfield 203, 3) := by decide +kernel
theorem dX6_event_40 : decode cX6_event 40 = .ok (.iload_n 1, 1) := by decide +kernel
theorem dX6_event_41 : decode cX6_event 41 = .ok (.invokevirtual 212, 3) := by decide +kernel
theorem dX6_event_44 : decode cX6_event 44 = .ok (.istore_n 3, 1) := by decide +kernel
theorem dX6_event_45 : decode cX6_event 45 = .ok (.iload_n 2, 1) := by decide +kernel
theorem dX6_event_46 : decode cX6_event 46 = .ok (.lookupswitch 52 #[(0, 26), (1, 39)], 26) := by decide +kernel
theorem dX6_event_72 : decode cX6_event 72 = .ok (.aload_n 0, 1) := by decide +kernel
theorem dX6_event_73 : decode cX6_event 73 = .ok (.getfield 10, 3) := by decide +kernel
theorem dX6_event_76 : decode cX6_event 76 = .ok (.getfield 203, 3) := by decide +kernel
theorem dX6_event_79 : decode cX6_event 79 = .ok (.getfield 215, 3) := by decide +kernel
theorem dX6_event_82 : decode cX6_event 82 = .ok (.iload_n 3, 1) := by decide +kernel
theorem dX6_event_83 : decode cX6_event 83 = .ok (.iaload, 1) := by decide +kernel
theorem dX6_event_84 : decode cX6_event 84 = .ok (.ireturn, 1) := by decide +kernel
theorem dX6_event_85 : decode cX6_event 85 = .ok (.aload_n 0, 1) := by decide +kernel
theorem dX6_event_86 : decode cX6_event 86 = .ok (.getfield 10, 3) := by decide +kernel
theorem dX6_event_89 : decode cX6_event 89 = .ok (.getfield 203, 3) := by decide +kernel
theorem dX6_event_92 : decode cX6_event 92 = .ok (.getfield 216, 3) := by decide +kernel
theorem dX6_event_95 : decode cX6_event 95 = .ok (.iload_n 3, 1) := by decide +kernel
theorem dX6_event_96 : decode cX6_event 96 = .ok (.iaload, 1) := by decide +kernel
theorem dX6_event_97 : decode cX6_event 97 = .ok (.ireturn, 1) := by decide +kernel
theorem dX6_event_98 : decode cX6_event 98 = .ok (.aload_n 0, 1) := by decide +kernel
theorem dX6_event_99 : decode cX6_event 99 = .ok (.getfield 10, 3) := by decide +kernel
theorem dX6_event_102 : decode cX6_event 102 = .ok (.getfield 203, 3) := by decide +kernel
theorem dX6_event_105 : decode cX6_event 105 = .ok (.getfield 218, 3) := by decide +kernel
theorem dX6_event_108 : decode cX6_event 108 = .ok (.iload_n 3, 1) := by decide +kernel
theorem dX6_event_109 : decode cX6_event 109 = .ok (.iaload, 1) := by decide +kernel
theorem dX6_event_110 : decode cX6_event 110 = .ok (.ireturn, 1) := by decide +kernel
set_option maxRecDepth 20000 in
theorem ggX6_count_X0_leastCharge : GoodIn wsX6_count wsX0_leastCharge := goodIn_r _ [21, 22, 23, 24, 25, 26, 27, 64, 65, 66, 67, 68, 69, 70, 71] (by decide +kernel) (by decide +kernel)
set_option maxRecDepth 20000 in
theorem gX6_count_X0_leastCharge : GoodIn wsX6_count (wsV RX6 85 RX0 yX0_leastCharge wsX0_leastCharge) := goodIn_app (goodIn_of _ (by decide +kernel)) ggX6_count_X0_leastCharge
set_option maxRecDepth 20000 in
theorem ggX6_count_X0_greatestCharge : GoodIn wsX6_count wsX0_greatestCharge := goodIn_r _ [31, 22, 23, 32, 33, 26, 34, 64, 65, 66, 67, 68, 69, 70, 71] (by decide +kernel) (by decide +kernel)
set_option maxRecDepth 20000 in
theorem gX6_count_X0_greatestCharge : GoodIn wsX6_count (wsV RX6 229 RX0 yX0_greatestCharge wsX0_greatestCharge) := goodIn_app (goodIn_of _ (by decide +kernel)) ggX6_count_X0_greatestCharge
set_option maxRecDepth 20000 in
theorem ggX6_count_X4_isPaused : GoodIn wsX6_count wsX4_isPaused := goodIn_r _ [39, 40, 41, 42, 43, 44, 52, 53, 54, 55, 56, 57, 58, 59, 60, 61, 62, 63] (by decide +kernel) (by decide +kernel)
set_option maxRecDepth 20000 in
theorem gX6_count_X4_isPaused : GoodIn wsX6_count (wsV RX6 189 RX4 yX4_isPaused wsX4_isPaused) := goodIn_app (goodIn_of _ (by decide +kernel)) ggX6_count_X4_isPaused
theorem dX6_count_0 : decode cX6_count 0 = .ok (.iload_n 1, 1) := by decide +kernel
theorem dX6_count_1 : decode cX6_count 1 = .ok (.tableswitch 234 0 13 #[71, 79, 90, 101, 109, 133, 156, 164, 175, 186, 202, 210, 218, 226], 71) := by decide +kernel
theorem dX6_count_72 : decode cX6_count 72 = .ok (.aload_n 0, 1) := by decide +kernel
theorem dX6_count_73 : decode cX6_count 73 = .ok (.getfield 10, 3) := by decide +kernel
theorem dX6_count_76 : decode cX6_count 76 = .ok (.getfield 129, 3) := by decide +kernel
theorem dX6_count_79 : decode cX6_count 79 = .ok (.ireturn, 1) := by decide +kernel
theorem dX6_count_80 : decode cX6_count 80 = .ok (.aload_n 0, 1) := by decide +kernel
theorem dX6_count_81 : decode cX6_count 81 = .ok (.getfield 10, 3) := by decide +kernel
theorem dX6_count_84 : decode cX6_count 84 = .ok (.getfield 50, 3) := by decide +kernel
theorem dX6_count_87 : decode cX6_count 87 = .ok (.getfield 54, 3) := by decide +kernel
theorem dX6_count_90 : decode cX6_count 90 = .ok (.ireturn, 1) := by decide +kernel
theorem dX6_count_91 : decode cX6_count 91 = .ok (.aload_n 0, 1) := by decide +kernel
theorem dX6_count_92 : decode cX6_count 92 = .ok (.getfield 10, 3) := by decide +kernel
theorem dX6_count_95 : decode cX6_count 95 = .ok (.getfield 116, 3) := by decide +kernel
theorem dX6_count_98 : decode cX6_count 98 = .ok (.getfield 123, 3) := by decide +kernel
theorem dX6_count_101 : decode cX6_count 101 = .ok (.ireturn, 1) := by decide +kernel
theorem dX6_count_102 : decode cX6_count 102 = .ok (.aload_n 0, 1) := by decide +kernel
theorem dX6_count_103 : decode cX6_count 103 = .ok (.getfield 10, 3) := by decide +kernel
theorem dX6_count_106 : decode cX6_count 106 = .ok (.getfield 68, 3) := by decide +kernel
theorem dX6_count_109 : decode cX6_count 109 = .ok (.ireturn, 1) := by decide +kernel
theorem dX6_count_110 : decode cX6_count 110 = .ok (.aload_n 0, 1) := by decide +kernel
theorem dX6_count_111 : decode cX6_count 111 = .ok (.getfield 10, 3) := by decide +kernel
theorem dX6_count_114 : decode cX6_count 114 = .ok (.getfield 68, 3) := by decide +kernel
theorem dX6_count_117 : decode cX6_count 117 = .ok (.iconst 1, 1) := by decide +kernel
theorem dX6_count_118 : decode cX6_count 118 = .ok (.if_icmp .ne 13, 3) := by decide +kernel
theorem dX6_count_121 : decode cX6_count 121 = .ok (.aload_n 0, 1) := by decide +kernel
theorem dX6_count_122 : decode cX6_count 122 = .ok (.getfield 10, 3) := by decide +kernel
theorem dX6_count_125 : decode cX6_count 125 = .ok (.getfield 221, 3) := by decide +kernel
theorem dX6_count_128 : decode cX6_count 128 = .ok (.goto 5, 3) := by decide +kernel
theorem dX6_count_131 : decode cX6_count 131 = .ok (.bipush (-5), 2) := by decide +kernel
theorem dX6_count_133 : decode cX6_count 133 = .ok (.ireturn, 1) := by decide +kernel
theorem dX6_count_134 : decode cX6_count 134 = .ok (.aload_n 0, 1) := by decide +kernel
theorem dX6_count_135 : decode cX6_count 135 = .ok (.getfield 10, 3) := by decide +kernel
theorem dX6_count_138 : decode cX6_count 138 = .ok (.getfield 68, 3) := by decide +kernel
theorem dX6_count_141 : decode cX6_count 141 = .ok (.iconst 1, 1) := by decide +kernel
theorem dX6_count_142 : decode cX6_count 142 = .ok (.if_icmp .ne 13, 3) := by decide +kernel
theorem dX6_count_145 : decode cX6_count 145 = .ok (.aload_n 0, 1) := by decide +kernel
theorem dX6_count_146 : decode cX6_count 146 = .ok (.getfield 10, 3) := by decide +kernel
theorem dX6_count_149 : decode cX6_count 149 = .ok (.getfield 223, 3) := by decide +kernel
theorem dX6_count_152 : decode cX6_count 152 = .ok (.goto 4, 3) := by decide +kernel
theorem dX6_count_155 : decode cX6_count 155 = .ok (.iconst 0, 1) := by decide +kernel
theorem dX6_count_156 : decode cX6_count 156 = .ok (.ireturn, 1) := by decide +kernel
theorem dX6_count_157 : decode cX6_count 157 = .ok (.aload_n 0, 1) := by decide +kernel
theorem dX6_count_158 : decode cX6_count 158 = .ok (.getfield 10, 3) := by decide +kernel
theorem dX6_count_161 : decode cX6_count 161 = .ok (.getfield 226, 3) := by decide +kernel
theorem dX6_count_164 : decode cX6_count 164 = .ok (.ireturn, 1) := by decide +kernel
theorem dX6_count_165 : decode cX6_count 165 = .ok (.aload_n 0, 1) := by decide +kernel
theorem dX6_count_166 : decode cX6_count 166 = .ok (.getfield 10, 3) := by decide +kernel
end
section
theorem dX6_count_169 : decode cX6_count 169 = .ok (.getfield 50, 3) := by decide +kernel
theorem dX6_count_172 : decode cX6_count 172 = .ok (.invokevirtual 85, 3) := by decide +kernel
theorem dX6_count_175 : decode cX6_count 175 = .ok (.ireturn, 1) := by decide +kernel
theorem dX6_count_176 : decode cX6_count 176 = .ok (.aload_n 0, 1) := by decide +kernel
theorem dX6_count_177 : decode cX6_count 177 = .ok (.getfield 10, 3) := by decide +kernel
theorem dX6_count_180 : decode cX6_count 180 = .ok (.getfield 50, 3) := by decide +kernel
theorem dX6_count_183 : decode cX6_count 183 = .ok (.invokevirtual 229, 3) := by decide +kernel
theorem dX6_count_186 : decode cX6_count 186 = .ok (.ireturn, 1) := by decide +kernel
theorem dX6_count_187 : decode cX6_count 187 = .ok (.aload_n 0, 1) := by decide +kernel
theorem dX6_count_188 : decode cX6_count 188 = .ok (.getfield 10, 3) := by decide +kernel
theorem dX6_count_191 : decode cX6_count 191 = .ok (.invokevirtual 189, 3) := by decide +kernel
theorem dX6_count_194 : decode cX6_count 194 = .ok (.ifCond .eq 7, 3) := by decide +kernel
theorem dX6_count_197 : decode cX6_count 197 = .ok (.iconst 1, 1) := by decide +kernel
theorem dX6_count_198 : decode cX6_count 198 = .ok (.goto 4, 3) := by decide +kernel
theorem dX6_count_201 : decode cX6_count 201 = .ok (.iconst 0, 1) := by decide +kernel
theorem dX6_count_202 : decode cX6_count 202 = .ok (.ireturn, 1) := by decide +kernel
theorem dX6_count_203 : decode cX6_count 203 = .ok (.aload_n 0, 1) := by decide +kernel
theorem dX6_count_204 : decode cX6_count 204 = .ok (.getfield 10, 3) := by decide +kernel
theorem dX6_count_207 : decode cX6_count 207 = .ok (.getfield 232, 3) := by decide +kernel
theorem dX6_count_210 : decode cX6_count 210 = .ok (.ireturn, 1) := by decide +kernel
theorem dX6_count_211 : decode cX6_count 211 = .ok (.aload_n 0, 1) := by decide +kernel
theorem dX6_count_212 : decode cX6_count 212 = .ok (.getfield 10, 3) := by decide +kernel
theorem dX6_count_215 : decode cX6_count 215 = .ok (.getfield 235, 3) := by decide +kernel
theorem dX6_count_218 : decode cX6_count 218 = .ok (.ireturn, 1) := by decide +kernel
theorem dX6_count_219 : decode cX6_count 219 = .ok (.aload_n 0, 1) := by decide +kernel
theorem dX6_count_220 : decode cX6_count 220 = .ok (.getfield 29, 3) := by decide +kernel
theorem dX6_count_223 : decode cX6_count 223 = .ok (.getfield 142, 3) := by decide +kernel
theorem dX6_count_226 : decode cX6_count 226 = .ok (.ireturn, 1) := by decide +kernel
theorem dX6_count_227 : decode cX6_count 227 = .ok (.aload_n 0, 1) := by decide +kernel
theorem dX6_count_228 : decode cX6_count 228 = .ok (.getfield 36, 3) := by decide +kernel
theorem dX6_count_231 : decode cX6_count 231 = .ok (.getfield 136, 3) := by decide +kernel
theorem dX6_count_234 : decode cX6_count 234 = .ok (.ireturn, 1) := by decide +kernel
theorem dX6_count_235 : decode cX6_count 235 = .ok (.bipush (-2), 2) := by decide +kernel
theorem dX6_count_237 : decode cX6_count 237 = .ok (.ireturn, 1) := by decide +kernel
theorem dX6_isSetting_0 : decode cX6_isSetting 0 = .ok (.iload_n 0, 1) := by decide +kernel
theorem dX6_isSetting_1 : decode cX6_isSetting 1 = .ok (.ifCond .lt 13, 3) := by decide +kernel
theorem dX6_isSetting_4 : decode cX6_isSetting 4 = .ok (.iload_n 0, 1) := by decide +kernel
theorem dX6_isSetting_5 : decode cX6_isSetting 5 = .ok (.bipush 9, 2) := by decide +kernel
theorem dX6_isSetting_7 : decode cX6_isSetting 7 = .ok (.if_icmp .ge 7, 3) := by decide +kernel
theorem dX6_isSetting_10 : decode cX6_isSetting 10 = .ok (.iconst 1, 1) := by decide +kernel
theorem dX6_isSetting_11 : decode cX6_isSetting 11 = .ok (.goto 4, 3) := by decide +kernel
theorem dX6_isSetting_14 : decode cX6_isSetting 14 = .ok (.iconst 0, 1) := by decide +kernel
theorem dX6_isSetting_15 : decode cX6_isSetting 15 = .ok (.ireturn, 1) := by decide +kernel
theorem dX6_isIn_0 : decode cX6_isIn 0 = .ok (.iload_n 0, 1) := by decide +kernel
theorem dX6_isIn_1 : decode cX6_isIn 1 = .ok (.iload_n 1, 1) := by decide +kernel
theorem dX6_isIn_2 : decode cX6_isIn 2 = .ok (.if_icmp .lt 12, 3) := by decide +kernel
theorem dX6_isIn_5 : decode cX6_isIn 5 = .ok (.iload_n 0, 1) := by decide +kernel
theorem dX6_isIn_6 : decode cX6_isIn 6 = .ok (.iload_n 2, 1) := by decide +kernel
theorem dX6_isIn_7 : decode cX6_isIn 7 = .ok (.if_icmp .gt 7, 3) := by decide +kernel
theorem dX6_isIn_10 : decode cX6_isIn 10 = .ok (.iconst 1, 1) := by decide +kernel
theorem dX6_isIn_11 : decode cX6_isIn 11 = .ok (.goto 4, 3) := by decide +kernel
theorem dX6_isIn_14 : decode cX6_isIn 14 = .ok (.iconst 0, 1) := by decide +kernel
theorem dX6_isIn_15 : decode cX6_isIn 15 = .ok (.ireturn, 1) := by decide +kernel
theorem dX6_baseVoltage_0 : decode cX6_baseVoltage 0 = .ok (.iload_n 1, 1) := by decide +kernel
theorem dX6_baseVoltage_1 : decode cX6_baseVoltage 1 = .ok (.ifCond .le 17, 3) := by decide +kernel
theorem dX6_baseVoltage_4 : decode cX6_baseVoltage 4 = .ok (.sipush 3000, 3) := by decide +kernel
theorem dX6_baseVoltage_7 : decode cX6_baseVoltage 7 = .ok (.sipush 1200, 3) := by decide +kernel
theorem dX6_baseVoltage_10 : decode cX6_baseVoltage 10 = .ok (.iload_n 0, 1) := by decide +kernel
theorem dX6_baseVoltage_11 : decode cX6_baseVoltage 11 = .ok (.imul, 1) := by decide +kernel
theorem dX6_baseVoltage_12 : decode cX6_baseVoltage 12 = .ok (.iload_n 1, 1) := by decide +kernel
theorem dX6_baseVoltage_13 : decode cX6_baseVoltage 13 = .ok (.idiv, 1) := by decide +kernel
theorem dX6_baseVoltage_14 : decode cX6_baseVoltage 14 = .ok (.iadd, 1) := by decide +kernel
theorem dX6_baseVoltage_15 : decode cX6_baseVoltage 15 = .ok (.goto 6, 3) := by decide +kernel
theorem dX6_baseVoltage_18 : decode cX6_baseVoltage 18 = .ok (.sipush 3000, 3) := by decide +kernel
theorem dX6_baseVoltage_21 : decode cX6_baseVoltage 21 = .ok (.ireturn, 1) := by decide +kernel
theorem dX7_init_0 : decode cX7_init 0 = .ok (.aload_n 0, 1) := by decide +kernel
theorem dX7_init_1 : decode cX7_init 1 = .ok (.invokespecial 1, 3) := by decide +kernel
theorem dX7_init_4 : decode cX7_init 4 = .ok (.aload_n 0, 1) := by decide +kernel
theorem dX7_init_5 : decode cX7_init 5 = .ok (.bipush 112, 2) := by decide +kernel
theorem dX7_init_7 : decode cX7_init 7 = .ok (.newarray .int, 2) := by decide +kernel
theorem dX7_init_9 : decode cX7_init 9 = .ok (.putfield 7, 3) := by decide +kernel
theorem dX7_init_12 : decode cX7_init 12 = .ok (.aload_n 0, 1) := by decide +kernel
theorem dX7_init_13 : decode cX7_init 13 = .ok (.bipush 112, 2) := by decide +kernel
theorem dX7_init_15 : decode cX7_init 15 = .ok (.newarray .int, 2) := by decide +kernel
theorem dX7_init_17 : decode cX7_init 17 = .ok (.putfield 13, 3) := by decide +kernel
theorem dX7_init_20 : decode cX7_init 20 = .ok (.aload_n 0, 1) := by decide +kernel
theorem dX7_init_21 : decode cX7_init 21 = .ok (.sipush 448, 3) := by decide +kernel
theorem dX7_init_24 : decode cX7_init 24 = .ok (.newarray .int, 2) := by decide +kernel
theorem dX7_init_26 : decode cX7_init 26 = .ok (.putfield 16, 3) := by decide +kernel
theorem dX7_init_29 : decode cX7_init 29 = .ok (.aload_n 0, 1) := by decide +kernel
theorem dX7_init_30 : decode cX7_init 30 = .ok (.bipush 112, 2) := by decide +kernel
theorem dX7_init_32 : decode cX7_init 32 = .ok (.newarray .int, 2) := by decide +kernel
theorem dX7_init_34 : decode cX7_init 34 = .ok (.putfield 19, 3) := by decide +kernel
theorem dX7_init_37 : decode cX7_init 37 = .ok (.aload_n 0, 1) := by decide +kernel
theorem dX7_init_38 : decode cX7_init 38 = .ok (.bipush 60, 2) := by decide +kernel
theorem dX7_init_40 : decode cX7_init 40 = .ok (.newarray .char, 2) := by decide +kernel
theorem dX7_init_42 : decode cX7_init 42 = .ok (.putfield 22, 3) := by decide +kernel
theorem dX7_init_45 : decode cX7_init 45 = .ok (.aload_n 0, 1) := by decide +kernel
theorem dX7_init_46 : decode cX7_init 46 = .ok (.bipush 20, 2) := by decide +kernel
theorem dX7_init_48 : decode cX7_init 48 = .ok (.newarray .int, 2) := by decide +kernel
theorem dX7_init_50 : decode cX7_init 50 = .ok (.putfield 26, 3) := by decide +kernel
theorem dX7_init_53 : decode cX7_init 53 = .ok (.aload_n 0, 1) := by decide +kernel
theorem dX7_init_54 : decode cX7_init 54 = .ok (.getfield 7, 3) := by decide +kernel
theorem dX7_init_57 : decode cX7_init 57 = .ok (.bipush 71, 2) := by decide +kernel
theorem dX7_init_59 : decode cX7_init 59 = .ok (.iconst 3, 1) := by decide +kernel
theorem dX7_init_60 : decode cX7_init 60 = .ok (.iastore, 1) := by decide +kernel
theorem dX7_init_61 : decode cX7_init 61 = .ok (.aload_n 0, 1) := by decide +kernel
theorem dX7_init_62 : decode cX7_init 62 = .ok (.getfield 7, 3) := by decide +kernel
theorem dX7_init_65 : decode cX7_init 65 = .ok (.bipush 42, 2) := by decide +kernel
theorem dX7_init_67 : decode cX7_init 67 = .ok (.sipush 1000, 3) := by decide +kernel
theorem dX7_init_70 : decode cX7_init 70 = .ok (.iastore, 1) := by decide +kernel
theorem dX7_init_71 : decode cX7_init 71 = .ok (.aload_n 0, 1) := by decide +kernel
theorem dX7_init_72 : decode cX7_init 72 = .ok (.getfield 7, 3) := by decide +kernel
theorem dX7_init_75 : decode cX7_init 75 = .ok (.bipush 43, 2) := by decide +kernel
theorem dX7_init_77 : decode cX7_init 77 = .ok (.bipush 100, 2) := by decide +kernel
theorem dX7_init_79 : decode cX7_init 79 = .ok (.iastore, 1) := by decide +kernel
theorem dX7_init_80 : decode cX7_init 80 = .ok (.aload_n 0, 1) := by decide +kernel
theorem dX7_init_81 : decode cX7_init 81 = .ok (.getfield 7, 3) := by decide +kernel
theorem dX7_init_84 : decode cX7_init 84 = .ok (.bipush 44, 2) := by decide +kernel
theorem dX7_init_86 : decode cX7_init 86 = .ok (.bipush 90, 2) := by decide +kernel
theorem dX7_init_88 : decode cX7_init 88 = .ok (.iastore, 1) := by decide +kernel
theorem dX7_init_89 : decode cX7_init 89 = .ok (.aload_n 0, 1) := by decide +kernel
theorem dX7_init_90 : decode cX7_init 90 = .ok (.getfield 7, 3) := by decide +kernel
theorem dX7_init_93 : decode cX7_init 93 = .ok (.bipush 45, 2) := by decide +kernel
theorem dX7_init_95 : decode cX7_init 95 = .ok (.bipush 25, 2) := by decide +kernel
theorem dX7_init_97 : decode cX7_init 97 = .ok (.iastore, 1) := by decide +kernel
theorem dX7_init_98 : decode cX7_init 98 = .ok (.aload_n 0, 1) := by decide +kernel
theorem dX7_init_99 : decode cX7_init 99 = .ok (.getfield 7, 3) := by decide +kernel
theorem dX7_init_102 : decode cX7_init 102 = .ok (.bipush 46, 2) := by decide +kernel
theorem dX7_init_104 : decode cX7_init 104 = .ok (.iconst 3, 1) := by decide +kernel
theorem dX7_init_105 : decode cX7_init 105 = .ok (.iastore, 1) := by decide +kernel
theorem dX7_init_106 : decode cX7_init 106 = .ok (.aload_n 0, 1) := by decide +kernel
theorem dX7_init_107 : decode cX7_init 107 = .ok (.getfield 7, 3) := by decide +kernel
theorem dX7_init_110 : decode cX7_init 110 = .ok (.bipush 48, 2) := by decide +kernel
theorem dX7_init_112 : decode cX7_init 112 = .ok (.bipush 45, 2) := by decide +kernel
theorem dX7_init_114 : decode cX7_init 114 = .ok (.iastore, 1) := by decide +kernel
theorem dX7_init_115 : decode cX7_init 115 = .ok (.aload_n 0, 1) := by decide +kernel
theorem dX7_init_116 : decode cX7_init 116 = .ok (.getfield 7, 3) := by decide +kernel
theorem dX7_init_119 : decode cX7_init 119 = .ok (.bipush 49, 2) := by decide +kernel
theorem dX7_init_121 : decode cX7_init 121 = .ok (.bipush 20, 2) := by decide +kernel
theorem dX7_init_123 : decode cX7_init 123 = .ok (.iastore, 1) := by decide +kernel
theorem dX7_init_124 : decode cX7_init 124 = .ok (.return_, 1) := by decide +kernel
theorem dX7_in_0 : decode cX7_in 0 = .ok (.iload_n 0, 1) := by decide +kernel
theorem dX7_in_1 : decode cX7_in 1 = .ok (.iload_n 1, 1) := by decide +kernel
theorem dX7_in_2 : decode cX7_in 2 = .ok (.if_icmp .lt 12, 3) := by decide +kernel
theorem dX7_in_5 : decode cX7_in 5 = .ok (.iload_n 0, 1) := by decide +kernel
theorem dX7_in_6 : decode cX7_in 6 = .ok (.iload_n 2, 1) := by decide +kernel
theorem dX7_in_7 : decode cX7_in 7 = .ok (.if_icmp .gt 7, 3) := by decide +kernel
theorem dX7_in_10 : decode cX7_in 10 = .ok (.iconst 1, 1) := by decide +kernel
theorem dX7_in_11 : decode cX7_in 11 = .ok (.goto 4, 3) := by decide +kernel
theorem dX7_in_14 : decode cX7_in 14 = .ok (.iconst 0, 1) := by decide +kernel
theorem dX7_in_15 : decode cX7_in 15 = .ok (.ireturn, 1) := by decide +kernel
theorem dX7_copies_0 : decode cX7_copies 0 = .ok (.iconst 0, 1) := by decide +kernel
theorem dX7_copies_1 : decode cX7_copies 1 = .ok (.istore_n 3, 1) := by decide +kernel
theorem dX7_copies_2 : decode cX7_copies 2 = .ok (.iload_n 3, 1) := by decide +kernel
theorem dX7_copies_3 : decode cX7_copies 3 = .ok (.bipush 112, 2) := by decide +kernel
theorem dX7_copies_5 : decode cX7_copies 5 = .ok (.if_icmp .ge 17, 3) := by decide +kernel
theorem dX7_copies_8 : decode cX7_copies 8 = .ok (.aload_n 1, 1) := by decide +kernel
theorem dX7_copies_9 : decode cX7_copies 9 = .ok (.iload_n 2, 1) := by decide +kernel
theorem dX7_copies_10 : decode cX7_copies 10 = .ok (.iload_n 3, 1) := by decide +kernel
theorem dX7_copies_11 : decode cX7_copies 11 = .ok (.iadd, 1) := by decide +kernel
theorem dX7_copies_12 : decode cX7_copies 12 = .ok (.aload_n 0, 1) := by decide +kernel
theorem dX7_copies_13 : decode cX7_copies 13 = .ok (.iload_n 3, 1) := by decide +kernel
theorem dX7_copies_14 : decode cX7_copies 14 = .ok (.iaload, 1) := by decide +kernel
theorem dX7_copies_15 : decode cX7_copies 15 = .ok (.iastore, 1) := by decide +kernel
theorem dX7_copies_16 : decode cX7_copies 16 = .ok (.iinc 3 1, 3) := by decide +kernel
theorem dX7_copies_19 : decode cX7_copies 19 = .ok (.goto (-17), 3) := by decide +kernel
theorem dX7_copies_22 : decode cX7_copies 22 = .ok (.return_, 1) := by decide +kernel
set_option maxRecDepth 20000 in
theorem ggX7_records_X7_copies : GoodIn wsX7_records wsX7_copies := goodIn_r _ [7] (by decide +kernel) (by decide +kernel)
set_option maxRecDepth 20000 in
theorem gX7_records_X7_copies : GoodIn wsX7_records (va_wsS RX7 33 yX7_copies wsX7_copies) := goodIn_app (goodIn_of _ (by decide +kernel)) ggX7_records_X7_copies
theorem dX7_records_0 : decode cX7_records 0 = .ok (.aload_n 0, 1) := by decide +kernel
theorem dX7_records_1 : decode cX7_records 1 = .ok (.getfield 29, 3) := by decide +kernel
theorem dX7_records_4 : decode cX7_records 4 = .ok (.iconst 4, 1) := by decide +kernel
theorem dX7_records_5 : decode cX7_records 5 = .ok (.if_icmp .ne 43, 3) := by decide +kernel
theorem dX7_records_8 : decode cX7_records 8 = .ok (.iconst 0, 1) := by decide +kernel
theorem dX7_records_9 : decode cX7_records 9 = .ok (.istore_n 1, 1) := by decide +kernel
theorem dX7_records_10 : decode cX7_records 10 = .ok (.iload_n 1, 1) := by decide +kernel
theorem dX7_records_11 : decode cX7_records 11 = .ok (.sipush 336, 3) := by decide +kernel
theorem dX7_records_14 : decode cX7_records 14 = .ok (.if_icmp .ge 24, 3) := by decide +kernel
theorem dX7_records_17 : decode cX7_records 17 = .ok (.aload_n 0, 1) := by decide +kernel
theorem dX7_records_18 : decode cX7_records 18 = .ok (.getfield 16, 3) := by decide +kernel
theorem dX7_records_21 : decode cX7_records 21 = .ok (.iload_n 1, 1) := by decide +kernel
theorem dX7_records_22 : decode cX7_records 22 = .ok (.aload_n 0, 1) := by decide +kernel
theorem dX7_records_23 : decode cX7_records 23 = .ok (.getfield 16, 3) := by decide +kernel
theorem dX7_records_26 : decode cX7_records 26 = .ok (.iload_n 1, 1) := by decide +kernel
theorem dX7_records_27 : decode cX7_records 27 = .ok (.bipush 112, 2) := by decide +kernel
theorem dX7_records_29 : decode cX7_records 29 = .ok (.iadd, 1) := by decide +kernel
theorem dX7_records_30 : decode cX7_records 30 = .ok (.iaload, 1) := by decide +kernel
theorem dX7_records_31 : decode cX7_records 31 = .ok (.iastore, 1) := by decide +kernel
theorem dX7_records_32 : decode cX7_records 32 = .ok (.iinc 1 1, 3) := by decide +kernel
theorem dX7_records_35 : decode cX7_records 35 = .ok (.goto (-25), 3) := by decide +kernel
theorem dX7_records_38 : decode cX7_records 38 = .ok (.aload_n 0, 1) := by decide +kernel
theorem dX7_records_39 : decode cX7_records 39 = .ok (.dup, 1) := by decide +kernel
theorem dX7_records_40 : decode cX7_records 40 = .ok (.getfield 29, 3) := by decide +kernel
theorem dX7_records_43 : decode cX7_records 43 = .ok (.iconst 1, 1) := by decide +kernel
theorem dX7_records_44 : decode cX7_records 44 = .ok (.isub, 1) := by decide +kernel
theorem dX7_records_45 : decode cX7_records 45 = .ok (.putfield 29, 3) := by decide +kernel
theorem dX7_records_48 : decode cX7_records 48 = .ok (.aload_n 0, 1) := by decide +kernel
theorem dX7_records_49 : decode cX7_records 49 = .ok (.getfield 7, 3) := by decide +kernel
theorem dX7_records_52 : decode cX7_records 52 = .ok (.aload_n 0, 1) := by decide +kernel
theorem dX7_records_53 : decode cX7_records 53 = .ok (.getfield 16, 3) := by decide +kernel
theorem dX7_records_56 : decode cX7_records 56 = .ok (.bipush 112, 2) := by decide +kernel
theorem dX7_records_58 : decode cX7_records 58 = .ok (.aload_n 0, 1) := by decide +kernel
theorem dX7_records_59 : decode cX7_records 59 = .ok (.getfield 29, 3) := by decide +kernel
theorem dX7_records_62 : decode cX7_records 62 = .ok (.imul, 1) := by decide +kernel
theorem dX7_records_63 : decode cX7_records 63 = .ok (.invokestatic 33, 3) := by decide +kernel
theorem dX7_records_66 : decode cX7_records 66 = .ok (.aload_n 0, 1) := by decide +kernel
theorem dX7_records_67 : decode cX7_records 67 = .ok (.dup, 1) := by decide +kernel
theorem dX7_records_68 : decode cX7_records 68 = .ok (.getfield 29, 3) := by decide +kernel
theorem dX7_records_71 : decode cX7_records 71 = .ok (.iconst 1, 1) := by decide +kernel
theorem dX7_records_72 : decode cX7_records 72 = .ok (.iadd, 1) := by decide +kernel
theorem dX7_records_73 : decode cX7_records 73 = .ok (.putfield 29, 3) := by decide +kernel
theorem dX7_records_76 : decode cX7_records 76 = .ok (.return_, 1) := by decide +kernel
theorem dX7_undo_0 : decode cX7_undo 0 = .ok (.aload_n 0, 1) := by decide +kernel
theorem dX7_undo_1 : decode cX7_undo 1 = .ok (.getfield 29, 3) := by decide +kernel
theorem dX7_undo_4 : decode cX7_undo 4 = .ok (.ifCond .ne 6, 3) := by decide +kernel
theorem dX7_undo_7 : decode cX7_undo 7 = .ok (.bipush (-5), 2) := by decide +kernel
theorem dX7_undo_9 : decode cX7_undo 9 = .ok (.ireturn, 1) := by decide +kernel
theorem dX7_undo_10 : decode cX7_undo 10 = .ok (.aload_n 0, 1) := by decide +kernel
theorem dX7_undo_11 : decode cX7_undo 11 = .ok (.dup, 1) := by decide +kernel
theorem dX7_undo_12 : decode cX7_undo 12 = .ok (.getfield 29, 3) := by decide +kernel
theorem dX7_undo_15 : decode cX7_undo 15 = .ok (.iconst 1, 1) := by decide +kernel
theorem dX7_undo_16 : decode cX7_undo 16 = .ok (.isub, 1) := by decide +kernel
theorem dX7_undo_17 : decode cX7_undo 17 = .ok (.putfield 29, 3) := by decide +kernel
theorem dX7_undo_20 : decode cX7_undo 20 = .ok (.iconst 0, 1) := by decide +kernel
theorem dX7_undo_21 : decode cX7_undo 21 = .ok (.istore_n 1, 1) := by decide +kernel
theorem dX7_undo_22 : decode cX7_undo 22 = .ok (.iload_n 1, 1) := by decide +kernel
theorem dX7_undo_23 : decode cX7_undo 23 = .ok (.bipush 112, 2) := by decide +kernel
theorem dX7_undo_25 : decode cX7_undo 25 = .ok (.if_icmp .ge 29, 3) := by decide +kernel
theorem dX7_undo_28 : decode cX7_undo 28 = .ok (.aload_n 0, 1) := by decide +kernel
theorem dX7_undo_29 : decode cX7_undo 29 = .ok (.getfield 7, 3) := by decide +kernel
theorem dX7_undo_32 : decode cX7_undo 32 = .ok (.iload_n 1, 1) := by decide +kernel
theorem dX7_undo_33 : decode cX7_undo 33 = .ok (.aload_n 0, 1) := by decide +kernel
theorem dX7_undo_34 : decode cX7_undo 34 = .ok (.getfield 16, 3) := by decide +kernel
theorem dX7_undo_37 : decode cX7_undo 37 = .ok (.bipush 112, 2) := by decide +kernel
theorem dX7_undo_39 : decode cX7_undo 39 = .ok (.aload_n 0, 1) := by decide +kernel
theorem dX7_undo_40 : decode cX7_undo 40 = .ok (.getfield 29, 3) := by decide +kernel
theorem dX7_undo_43 : decode cX7_undo 43 = .ok (.imul, 1) := by decide +kernel
theorem dX7_undo_44 : decode cX7_undo 44 = .ok (.iload_n 1, 1) := by decide +kernel
theorem dX7_undo_45 : decode cX7_undo 45 = .ok (.iadd, 1) := by decide +kernel
theorem dX7_undo_46 : decode cX7_undo 46 = .ok (.iaload, 1) := by decide +kernel
theorem dX7_undo_47 : decode cX7_undo 47 = .ok (.iastore, 1) := by decide +kernel
theorem dX7_undo_48 : decode cX7_undo 48 = .ok (.iinc 1 1, 3) := by decide +kernel
theorem dX7_undo_51 : decode cX7_undo 51 = .ok (.goto (-29), 3) := by decide +kernel
theorem dX7_undo_54 : decode cX7_undo 54 = .ok (.aload_n 0, 1) := by decide +kernel
theorem dX7_undo_55 : decode cX7_undo 55 = .ok (.getfield 29, 3) := by decide +kernel
theorem dX7_undo_58 : decode cX7_undo 58 = .ok (.ireturn, 1) := by decide +kernel
set_option maxRecDepth 20000 in
theorem ggX7_keep_X7_copies : GoodIn wsX7_keep wsX7_copies := goodIn_r _ [7] (by decide +kernel) (by decide +kernel)
set_option maxRecDepth 20000 in
theorem gX7_keep_X7_copies : GoodIn wsX7_keep (va_wsS RX7 33 yX7_copies wsX7_copies) := goodIn_app (goodIn_of _ (by decide +kernel)) ggX7_keep_X7_copies
theorem dX7_keep_0 : decode cX7_keep 0 = .ok (.aload_n 0, 1) := by decide +kernel
theorem dX7_keep_1 : decode cX7_keep 1 = .ok (.getfield 7, 3) := by decide +kernel
theorem dX7_keep_4 : decode cX7_keep 4 = .ok (.aload_n 0, 1) := by decide +kernel
theorem dX7_keep_5 : decode cX7_keep 5 = .ok (.getfield 19, 3) := by decide +kernel
theorem dX7_keep_8 : decode cX7_keep 8 = .ok (.iconst 0, 1) := by decide +kernel
theorem dX7_keep_9 : decode cX7_keep 9 = .ok (.invokestatic 33, 3) := by decide +kernel
theorem dX7_keep_12 : decode cX7_keep 12 = .ok (.aload_n 0, 1) := by decide +kernel
theorem dX7_keep_13 : decode cX7_keep 13 = .ok (.iconst 1, 1) := by decide +kernel
theorem dX7_keep_14 : decode cX7_keep 14 = .ok (.putfield 37, 3) := by decide +kernel
theorem dX7_keep_17 : decode cX7_keep 17 = .ok (.aload_n 0, 1) := by decide +kernel
theorem dX7_keep_18 : decode cX7_keep 18 = .ok (.getfield 7, 3) := by decide +kernel
theorem dX7_keep_21 : decode cX7_keep 21 = .ok (.bipush 76, 2) := by decide +kernel
theorem dX7_keep_23 : decode cX7_keep 23 = .ok (.iaload, 1) := by decide +kernel
theorem dX7_keep_24 : decode cX7_keep 24 = .ok (.ireturn, 1) := by decide +kernel
set_option maxRecDepth 20000 in
theorem ggX7_restore_X7_records : GoodIn wsX7_restore wsX7_records := goodIn_r _ [8, 9, 10, 3, 11, 12, 7, 13, 14, 15, 16, 17, 18, 19, 20, 21, 22, 23, 24, 25] (by decide +kernel) (by decide +kernel)
set_option maxRecDepth 20000 in
theorem gX7_restore_X7_records : GoodIn wsX7_restore (wsV RX7 41 RX7 yX7_records wsX7_records) := goodIn_app (goodIn_of _ (by decide +kernel)) ggX7_restore_X7_records
set_option maxRecDepth 20000 in
theorem ggX7_restore_X7_copies : GoodIn wsX7_restore wsX7_copies := goodIn_r _ [13] (by decide +kernel) (by decide +kernel)
set_option maxRecDepth 20000 in
theorem gX7_restore_X7_copies : GoodIn wsX7_restore (va_wsS RX7 33 yX7_copies wsX7_copies) := goodIn_app (goodIn_of _ (by decide +kernel)) ggX7_restore_X7_copies
theorem dX7_restore_0 : decode cX7_restore 0 = .ok (.aload_n 0, 1) := by decide +kernel
theorem dX7_restore_1 : decode cX7_restore 1 = .ok (.getfield 37, 3) := by decide +kernel
theorem dX7_restore_4 : decode cX7_restore 4 = .ok (.ifCond .ne 6, 3) := by decide +kernel
theorem dX7_restore_7 : decode cX7_restore 7 = .ok (.bipush (-5), 2) := by decide +kernel
theorem dX7_restore_9 : decode cX7_restore 9 = .ok (.ireturn, 1) := by decide +kernel
theorem dX7_restore_10 : decode cX7_restore 10 = .ok (.aload_n 0, 1) := by decide +kernel
theorem dX7_restore_11 : decode cX7_restore 11 = .ok (.invokevirtual 41, 3) := by decide +kernel
theorem dX7_restore_14 : decode cX7_restore 14 = .ok (.aload_n 0, 1) := by decide +kernel
theorem dX7_restore_15 : decode cX7_restore 15 = .ok (.getfield 19, 3) := by decide +kernel
theorem dX7_restore_18 : decode cX7_restore 18 = .ok (.aload_n 0, 1) := by decide +kernel
theorem dX7_restore_19 : decode cX7_restore 19 = .ok (.getfield 7, 3) := by decide +kernel
theorem dX7_restore_22 : decode cX7_restore 22 = .ok (.iconst 0, 1) := by decide +kernel
theorem dX7_restore_23 : decode cX7_restore 23 = .ok (.invokestatic 33, 3) := by decide +kernel
theorem dX7_restore_26 : decode cX7_restore 26 = .ok (.aload_n 0, 1) := by decide +kernel
theorem dX7_restore_27 : decode cX7_restore 27 = .ok (.getfield 7, 3) := by decide +kernel
theorem dX7_restore_30 : decode cX7_restore 30 = .ok (.bipush 76, 2) := by decide +kernel
theorem dX7_restore_32 : decode cX7_restore 32 = .ok (.iaload, 1) := by decide +kernel
theorem dX7_restore_33 : decode cX7_restore 33 = .ok (.ireturn, 1) := by decide +kernel
set_option maxRecDepth 20000 in
theorem ggX7_isCell_X7_in : GoodIn wsX7_isCell wsX7_in := goodIn_r _ [5] (by decide +kernel) (by decide +kernel)
set_option maxRecDepth 20000 in
theorem gX7_isCell_X7_in : GoodIn wsX7_isCell (va_wsS RX7 44 yX7_in wsX7_in) := goodIn_app (goodIn_of _ (by decide +kernel)) ggX7_isCell_X7_in
theorem dX7_isCell_0 : decode cX7_isCell 0 = .ok (.iload_n 1, 1) := by decide +kernel
theorem dX7_isCell_1 : decode cX7_isCell 1 = .ok (.iconst 0, 1) := by decide +kernel
theorem dX7_isCell_2 : decode cX7_isCell 2 = .ok (.aload_n 0, 1) := by decide +kernel
theorem dX7_isCell_3 : decode cX7_isCell 3 = .ok (.getfield 7, 3) := by decide +kernel
theorem dX7_isCell_6 : decode cX7_isCell 6 = .ok (.bipush 71, 2) := by decide +kernel
theorem dX7_isCell_8 : decode cX7_isCell 8 = .ok (.iaload, 1) := by decide +kernel
theorem dX7_isCell_9 : decode cX7_isCell 9 = .ok (.iconst 1, 1) := by decide +kernel
theorem dX7_isCell_10 : decode cX7_isCell 10 = .ok (.isub, 1) := by decide +kernel
theorem dX7_isCell_11 : decode cX7_isCell 11 = .ok (.invokestatic 44, 3) := by decide +kernel
theorem dX7_isCell_14 : decode cX7_isCell 14 = .ok (.ireturn, 1) := by decide +kernel
theorem dX7_of_0 : decode cX7_of 0 = .ok (.aload_n 0, 1) := by decide +kernel
theorem dX7_of_1 : decode cX7_of 1 = .ok (.bipush 7, 2) := by decide +kernel
theorem dX7_of_3 : decode cX7_of 3 = .ok (.iload_n 1, 1) := by decide +kernel
theorem dX7_of_4 : decode cX7_of 4 = .ok (.imul, 1) := by decide +kernel
theorem dX7_of_5 : decode cX7_of 5 = .ok (.iload_n 2, 1) := by decide +kernel
theorem dX7_of_6 : decode cX7_of 6 = .ok (.iadd, 1) := by decide +kernel
theorem dX7_of_7 : decode cX7_of 7 = .ok (.iaload, 1) := by decide +kernel
theorem dX7_of_8 : decode cX7_of 8 = .ok (.ireturn, 1) := by decide +kernel
set_option maxRecDepth 20000 in
theorem ggX7_base_X7_of : GoodIn wsX7_base wsX7_of := goodIn_r _ [4] (by decide +kernel) (by decide +kernel)
set_option maxRecDepth 20000 in
theorem gX7_base_X7_of : GoodIn wsX7_base (va_wsS RX7 48 yX7_of wsX7_of) := goodIn_app (goodIn_of _ (by decide +kernel)) ggX7_base_X7_of
theorem dX7_base_0 : decode cX7_base 0 = .ok (.sipush 3000, 3) := by decide +kernel
theorem dX7_base_3 : decode cX7_base 3 = .ok (.sipush 1200, 3) := by decide +kernel
theorem dX7_base_6 : decode cX7_base 6 = .ok (.aload_n 0, 1) := by decide +kernel
theorem dX7_base_7 : decode cX7_base 7 = .ok (.iload_n 1, 1) := by decide +kernel
theorem dX7_base_8 : decode cX7_base 8 = .ok (.iconst 0, 1) := by decide +kernel
theorem dX7_base_9 : decode cX7_base 9 = .ok (.invokestatic 48, 3) := by decide +kernel
theorem dX7_base_12 : decode cX7_base 12 = .ok (.imul, 1) := by decide +kernel
theorem dX7_base_13 : decode cX7_base 13 = .ok (.aload_n 0, 1) := by decide +kernel
theorem dX7_base_14 : decode cX7_base 14 = .ok (.bipush 42, 2) := by decide +kernel
theorem dX7_base_16 : decode cX7_base 16 = .ok (.iaload, 1) := by decide +kernel
theorem dX7_base_17 : decode cX7_base 17 = .ok (.idiv, 1) := by decide +kernel
theorem dX7_base_18 : decode cX7_base 18 = .ok (.iadd, 1) := by decide +kernel
theorem dX7_base_19 : decode cX7_base 19 = .ok (.ireturn, 1) := by decide +kernel
set_option maxRecDepth 20000 in
theorem ggX7_highest_X7_base : GoodIn wsX7_highest wsX7_base := goodIn_r _ [4, 5, 6, 3, 7] (by decide +kernel) (by decide +kernel)
set_option maxRecDepth 20000 in
theorem gX7_highest_X7_base : GoodIn wsX7_highest (va_wsS RX7 52 yX7_base wsX7_base) := goodIn_app (goodIn_of _ (by decide +kernel)) ggX7_highest_X7_base
theorem dX7_highest_0 : decode cX7_highest 0 = .ok (.iconst 0, 1) := by decide +kernel
theorem dX7_highest_1 : decode cX7_highest 1 = .ok (.istore_n 1, 1) := by decide +kernel
theorem dX7_highest_2 : decode cX7_highest 2 = .ok (.iconst 0, 1) := by decide +kernel
theorem dX7_highest_3 : decode cX7_highest 3 = .ok (.istore_n 2, 1) := by decide +kernel
theorem dX7_highest_4 : decode cX7_highest 4 = .ok (.iload_n 2, 1) := by decide +kernel
theorem dX7_highest_5 : decode cX7_highest 5 = .ok (.aload_n 0, 1) := by decide +kernel
theorem dX7_highest_6 : decode cX7_highest 6 = .ok (.bipush 71, 2) := by decide +kernel
theorem dX7_highest_8 : decode cX7_highest 8 = .ok (.iaload, 1) := by decide +kernel
theorem dX7_highest_9 : decode cX7_highest 9 = .ok (.if_icmp .ge 28, 3) := by decide +kernel
theorem dX7_highest_12 : decode cX7_highest 12 = .ok (.aload_n 0, 1) := by decide +kernel
theorem dX7_highest_13 : decode cX7_highest 13 = .ok (.iload_n 2, 1) := by decide +kernel
theorem dX7_highest_14 : decode cX7_highest 14 = .ok (.invokestatic 52, 3) := by decide +kernel
theorem dX7_highest_17 : decode cX7_highest 17 = .ok (.iload_n 1, 1) := by decide +kernel
theorem dX7_highest_18 : decode cX7_highest 18 = .ok (.if_icmp .le 11, 3) := by decide +kernel
theorem dX7_highest_21 : decode cX7_highest 21 = .ok (.aload_n 0, 1) := by decide +kernel
theorem dX7_highest_22 : decode cX7_highest 22 = .ok (.iload_n 2, 1) := by decide +kernel
theorem dX7_highest_23 : decode cX7_highest 23 = .ok (.invokestatic 52, 3) := by decide +kernel
theorem dX7_highest_26 : decode cX7_highest 26 = .ok (.goto 4, 3) := by decide +kernel
theorem dX7_highest_29 : decode cX7_highest 29 = .ok (.iload_n 1, 1) := by decide +kernel
theorem dX7_highest_30 : decode cX7_highest 30 = .ok (.istore_n 1, 1) := by decide +kernel
theorem dX7_highest_31 : decode cX7_highest 31 = .ok (.iinc 2 1, 3) := by decide +kernel
theorem dX7_highest_34 : decode cX7_highest 34 = .ok (.goto (-30), 3) := by decide +kernel
theorem dX7_highest_37 : decode cX7_highest 37 = .ok (.iload_n 1, 1) := by decide +kernel
theorem dX7_highest_38 : decode cX7_highest 38 = .ok (.ireturn, 1) := by decide +kernel
set_option maxRecDepth 20000 in
theorem ggX7_lowest_X7_base : GoodIn wsX7_lowest wsX7_base := goodIn_r _ [4, 5, 6, 3, 7] (by decide +kernel) (by decide +kernel)
set_option maxRecDepth 20000 in
theorem gX7_lowest_X7_base : GoodIn wsX7_lowest (va_wsS RX7 52 yX7_base wsX7_base) := goodIn_app (goodIn_of _ (by decide +kernel)) ggX7_lowest_X7_base
theorem dX7_lowest_0 : decode cX7_lowest 0 = .ok (.aload_n 0, 1) := by decide +kernel
theorem dX7_lowest_1 : decode cX7_lowest 1 = .ok (.iconst 0, 1) := by decide +kernel
theorem dX7_lowest_2 : decode cX7_lowest 2 = .ok (.invokestatic 52, 3) := by decide +kernel
theorem dX7_lowest_5 : decode cX7_lowest 5 = .ok (.istore_n 1, 1) := by decide +kernel
theorem dX7_lowest_6 : decode cX7_lowest 6 = .ok (.iconst 1, 1) := by decide +kernel
theorem dX7_lowest_7 : decode cX7_lowest 7 = .ok (.istore_n 2, 1) := by decide +kernel
theorem dX7_lowest_8 : decode cX7_lowest 8 = .ok (.iload_n 2, 1) := by decide +kernel
theorem dX7_lowest_9 : decode cX7_lowest 9 = .ok (.aload_n 0, 1) := by decide +kernel
theorem dX7_lowest_10 : decode cX7_lowest 10 = .ok (.bipush 71, 2) := by decide +kernel
theorem dX7_lowest_12 : decode cX7_lowest 12 = .ok (.iaload, 1) := by decide +kernel
theorem dX7_lowest_13 : decode cX7_lowest 13 = .ok (.if_icmp .ge 28, 3) := by decide +kernel
theorem dX7_lowest_16 : decode cX7_lowest 16 = .ok (.aload_n 0, 1) := by decide +kernel
theorem dX7_lowest_17 : decode cX7_lowest 17 = .ok (.iload_n 2, 1) := by decide +kernel
theorem dX7_lowest_18 : decode cX7_lowest 18 = .ok (.invokestatic 52, 3) := by decide +kernel
theorem dX7_lowest_21 : decode cX7_lowest 21 = .ok (.iload_n 1, 1) := by decide +kernel
theorem dX7_lowest_22 : decode cX7_lowest 22 = .ok (.if_icmp .ge 11, 3) := by decide +kernel
theorem dX7_lowest_25 : decode cX7_lowest 25 = .ok (.aload_n 0, 1) := by decide +kernel
theorem dX7_lowest_26 : decode cX7_lowest 26 = .ok (.iload_n 2, 1) := by decide +kernel
theorem dX7_lowest_27 : decode cX7_lowest 27 = .ok (.invokestatic 52, 3) := by decide +kernel
theorem dX7_lowest_30 : decode cX7_lowest 30 = .ok (.goto 4, 3) := by decide +kernel
theorem dX7_lowest_33 : decode cX7_lowest 33 = .ok (.iload_n 1, 1) := by decide +kernel
theorem dX7_lowest_34 : decode cX7_lowest 34 = .ok (.istore_n 1, 1) := by decide +kernel
theorem dX7_lowest_35 : decode cX7_lowest 35 = .ok (.iinc 2 1, 3) := by decide +kernel
theorem dX7_lowest_38 : decode cX7_lowest 38 = .ok (.goto (-30), 3) := by decide +kernel
theorem dX7_lowest_41 : decode cX7_lowest 41 = .ok (.iload_n 1, 1) := by decide +kernel
theorem dX7_lowest_42 : decode cX7_lowest 42 = .ok (.ireturn, 1) := by decide +kernel
theorem dX7_more_0 : decode cX7_more 0 = .ok (.iload_n 1, 1) := by decide +kernel
theorem dX7_more_1 : decode cX7_more 1 = .ok (.aload_n 0, 1) := by decide +kernel
theorem dX7_more_2 : decode cX7_more 2 = .ok (.bipush 43, 2) := by decide +kernel
theorem dX7_more_4 : decode cX7_more 4 = .ok (.iaload, 1) := by decide +kernel
theorem dX7_more_5 : decode cX7_more 5 = .ok (.imul, 1) := by decide +kernel
theorem dX7_more_6 : decode cX7_more 6 = .ok (.sipush 1000, 3) := by decide +kernel
theorem dX7_more_9 : decode cX7_more 9 = .ok (.idiv, 1) := by decide +kernel
theorem dX7_more_10 : decode cX7_more 10 = .ok (.ireturn, 1) := by decide +kernel
set_option maxRecDepth 20000 in
theorem ggX7_charged_X7_of : GoodIn wsX7_charged wsX7_of := goodIn_r _ [4] (by decide +kernel) (by decide +kernel)
set_option maxRecDepth 20000 in
theorem gX7_charged_X7_of : GoodIn wsX7_charged (va_wsS RX7 48 yX7_of wsX7_of) := goodIn_app (goodIn_of _ (by decide +kernel)) ggX7_charged_X7_of
theorem dX7_charged_0 : decode cX7_charged 0 = .ok (.aload_n 0, 1) := by decide +kernel
theorem dX7_charged_1 : decode cX7_charged 1 = .ok (.iconst 0, 1) := by decide +kernel
theorem dX7_charged_2 : decode cX7_charged 2 = .ok (.iconst 0, 1) := by decide +kernel
theorem dX7_charged_3 : decode cX7_charged 3 = .ok (.invokestatic 48, 3) := by decide +kernel
theorem dX7_charged_6 : decode cX7_charged 6 = .ok (.istore_n 2, 1) := by decide +kernel
theorem dX7_charged_7 : decode cX7_charged 7 = .ok (.iconst 1, 1) := by decide +kernel
theorem dX7_charged_8 : decode cX7_charged 8 = .ok (.istore_n 3, 1) := by decide +kernel
theorem dX7_charged_9 : decode cX7_charged 9 = .ok (.iload_n 3, 1) := by decide +kernel
theorem dX7_charged_10 : decode cX7_charged 10 = .ok (.aload_n 0, 1) := by decide +kernel
theorem dX7_charged_11 : decode cX7_charged 11 = .ok (.bipush 71, 2) := by decide +kernel
theorem dX7_charged_13 : decode cX7_charged 13 = .ok (.iaload, 1) := by decide +kernel
theorem dX7_charged_14 : decode cX7_charged 14 = .ok (.if_icmp .ge 43, 3) := by decide +kernel
theorem dX7_charged_17 : decode cX7_charged 17 = .ok (.aload_n 0, 1) := by decide +kernel
theorem dX7_charged_18 : decode cX7_charged 18 = .ok (.iload_n 3, 1) := by decide +kernel
theorem dX7_charged_19 : decode cX7_charged 19 = .ok (.iconst 0, 1) := by decide +kernel
theorem dX7_charged_20 : decode cX7_charged 20 = .ok (.invokestatic 48, 3) := by decide +kernel
theorem dX7_charged_23 : decode cX7_charged 23 = .ok (.istore 4, 2) := by decide +kernel
theorem dX7_charged_25 : decode cX7_charged 25 = .ok (.iload_n 1, 1) := by decide +kernel
theorem dX7_charged_26 : decode cX7_charged 26 = .ok (.ifCond .eq 12, 3) := by decide +kernel
theorem dX7_charged_29 : decode cX7_charged 29 = .ok (.iload 4, 2) := by decide +kernel
theorem dX7_charged_31 : decode cX7_charged 31 = .ok (.iload_n 2, 1) := by decide +kernel
theorem dX7_charged_32 : decode cX7_charged 32 = .ok (.if_icmp .le 17, 3) := by decide +kernel
theorem dX7_charged_35 : decode cX7_charged 35 = .ok (.goto 9, 3) := by decide +kernel
theorem dX7_charged_38 : decode cX7_charged 38 = .ok (.iload 4, 2) := by decide +kernel
theorem dX7_charged_40 : decode cX7_charged 40 = .ok (.iload_n 2, 1) := by decide +kernel
theorem dX7_charged_41 : decode cX7_charged 41 = .ok (.if_icmp .ge 8, 3) := by decide +kernel
theorem dX7_charged_44 : decode cX7_charged 44 = .ok (.iload 4, 2) := by decide +kernel
theorem dX7_charged_46 : decode cX7_charged 46 = .ok (.goto 4, 3) := by decide +kernel
theorem dX7_charged_49 : decode cX7_charged 49 = .ok (.iload_n 2, 1) := by decide +kernel
theorem dX7_charged_50 : decode cX7_charged 50 = .ok (.istore_n 2, 1) := by decide +kernel
theorem dX7_charged_51 : decode cX7_charged 51 = .ok (.iinc 3 1, 3) := by decide +kernel
theorem dX7_charged_54 : decode cX7_charged 54 = .ok (.goto (-45), 3) := by decide +kernel
theorem dX7_charged_57 : decode cX7_charged 57 = .ok (.iload_n 2, 1) := by decide +kernel
theorem dX7_charged_58 : decode cX7_charged 58 = .ok (.ireturn, 1) := by decide +kernel
theorem dX7_logs_0 : decode cX7_logs 0 = .ok (.aload_n 0, 1) := by decide +kernel
theorem dX7_logs_1 : decode cX7_logs 1 = .ok (.bipush 81, 2) := by decide +kernel
theorem dX7_logs_3 : decode cX7_logs 3 = .ok (.iaload, 1) := by decide +kernel
theorem dX7_logs_4 : decode cX7_logs 4 = .ok (.bipush 10, 2) := by decide +kernel
theorem dX7_logs_6 : decode cX7_logs 6 = .ok (.if_icmp .ne 34, 3) := by decide +kernel
theorem dX7_logs_9 : decode cX7_logs 9 = .ok (.bipush 82, 2) := by decide +kernel
theorem dX7_logs_11 : decode cX7_logs 11 = .ok (.istore_n 2, 1) := by decide +kernel
theorem dX7_logs_12 : decode cX7_logs 12 = .ok (.iload_n 2, 1) := by decide +kernel
theorem dX7_logs_13 : decode cX7_logs 13 = .ok (.bipush 109, 2) := by decide +kernel
theorem dX7_logs_15 : decode cX7_logs 15 = .ok (.if_icmp .ge 17, 3) := by decide +kernel
theorem dX7_logs_18 : decode cX7_logs 18 = .ok (.aload_n 0, 1) := by decide +kernel
theorem dX7_logs_19 : decode cX7_logs 19 = .ok (.iload_n 2, 1) := by decide +kernel
theorem dX7_logs_20 : decode cX7_logs 20 = .ok (.aload_n 0, 1) := by decide +kernel
theorem dX7_logs_21 : decode cX7_logs 21 = .ok (.iload_n 2, 1) := by decide +kernel
theorem dX7_logs_22 : decode cX7_logs 22 = .ok (.iconst 3, 1) := by decide +kernel
theorem dX7_logs_23 : decode cX7_logs 23 = .ok (.iadd, 1) := by decide +kernel
theorem dX7_logs_24 : decode cX7_logs 24 = .ok (.iaload, 1) := by decide +kernel
theorem dX7_logs_25 : decode cX7_logs 25 = .ok (.iastore, 1) := by decide +kernel
theorem dX7_logs_26 : decode cX7_logs 26 = .ok (.iinc 2 1, 3) := by decide +kernel
theorem dX7_logs_29 : decode cX7_logs 29 = .ok (.goto (-17), 3) := by decide +kernel
theorem dX7_logs_32 : decode cX7_logs 32 = .ok (.aload_n 0, 1) := by decide +kernel
theorem dX7_logs_33 : decode cX7_logs 33 = .ok (.bipush 81, 2) := by decide +kernel
theorem dX7_logs_35 : decode cX7_logs 35 = .ok (.dup2, 1) := by decide +kernel
theorem dX7_logs_36 : decode cX7_logs 36 = .ok (.iaload, 1) := by decide +kernel
theorem dX7_logs_37 : decode cX7_logs 37 = .ok (.iconst 1, 1) := by decide +kernel
theorem dX7_logs_38 : decode cX7_logs 38 = .ok (.isub, 1) := by decide +kernel
theorem dX7_logs_39 : decode cX7_logs 39 = .ok (.iastore, 1) := by decide +kernel
theorem dX7_logs_40 : decode cX7_logs 40 = .ok (.bipush 82, 2) := by decide +kernel
theorem dX7_logs_42 : decode cX7_logs 42 = .ok (.iconst 3, 1) := by decide +kernel
theorem dX7_logs_43 : decode cX7_logs 43 = .ok (.aload_n 0, 1) := by decide +kernel
theorem dX7_logs_44 : decode cX7_logs 44 = .ok (.bipush 81, 2) := by decide +kernel
theorem dX7_logs_46 : decode cX7_logs 46 = .ok (.iaload, 1) := by decide +kernel
theorem dX7_logs_47 : decode cX7_logs 47 = .ok (.imul, 1) := by decide +kernel
theorem dX7_logs_48 : decode cX7_logs 48 = .ok (.iadd, 1) := by decide +kernel
theorem dX7_logs_49 : decode cX7_logs 49 = .ok (.istore_n 2, 1) := by decide +kernel
theorem dX7_logs_50 : decode cX7_logs 50 = .ok (.aload_n 0, 1) := by decide +kernel
theorem dX7_logs_51 : decode cX7_logs 51 = .ok (.iload_n 2, 1) := by decide +kernel
theorem dX7_logs_52 : decode cX7_logs 52 = .ok (.iload_n 1, 1) := by decide +kernel
theorem dX7_logs_53 : decode cX7_logs 53 = .ok (.iastore, 1) := by decide +kernel
theorem dX7_logs_54 : decode cX7_logs 54 = .ok (.aload_n 0, 1) := by decide +kernel
theorem dX7_logs_55 : decode cX7_logs 55 = .ok (.iload_n 2, 1) := by decide +kernel
theorem dX7_logs_56 : decode cX7_logs 56 = .ok (.iconst 1, 1) := by decide +kernel
theorem dX7_logs_57 : decode cX7_logs 57 = .ok (.iadd, 1) := by decide +kernel
theorem dX7_logs_58 : decode cX7_logs 58 = .ok (.aload_n 0, 1) := by decide +kernel
theorem dX7_logs_59 : decode cX7_logs 59 = .ok (.bipush 76, 2) := by decide +kernel
theorem dX7_logs_61 : decode cX7_logs 61 = .ok (.iaload, 1) := by decide +kernel
theorem dX7_logs_62 : decode cX7_logs 62 = .ok (.iastore, 1) := by decide +kernel
theorem dX7_logs_63 : decode cX7_logs 63 = .ok (.aload_n 0, 1) := by decide +kernel
theorem dX7_logs_64 : decode cX7_logs 64 = .ok (.iload_n 2, 1) := by decide +kernel
theorem dX7_logs_65 : decode cX7_logs 65 = .ok (.iconst 2, 1) := by decide +kernel
theorem dX7_logs_66 : decode cX7_logs 66 = .ok (.iadd, 1) := by decide +kernel
theorem dX7_logs_67 : decode cX7_logs 67 = .ok (.aload_n 0, 1) := by decide +kernel
theorem dX7_logs_68 : decode cX7_logs 68 = .ok (.bipush 74, 2) := by decide +kernel
theorem dX7_logs_70 : decode cX7_logs 70 = .ok (.iaload, 1) := by decide +kernel
theorem dX7_logs_71 : decode cX7_logs 71 = .ok (.iastore, 1) := by decide +kernel
theorem dX7_logs_72 : decode cX7_logs 72 = .ok (.aload_n 0, 1) := by decide +kernel
theorem dX7_logs_73 : decode cX7_logs 73 = .ok (.bipush 81, 2) := by decide +kernel
theorem dX7_logs_75 : decode cX7_logs 75 = .ok (.dup2, 1) := by decide +kernel
theorem dX7_logs_76 : decode cX7_logs 76 = .ok (.iaload, 1) := by decide +kernel
theorem dX7_logs_77 : decode cX7_logs 77 = .ok (.iconst 1, 1) := by decide +kernel
theorem dX7_logs_78 : decode cX7_logs 78 = .ok (.iadd, 1) := by decide +kernel
theorem dX7_logs_79 : decode cX7_logs 79 = .ok (.iastore, 1) := by decide +kernel
theorem dX7_logs_80 : decode cX7_logs 80 = .ok (.return_, 1) := by decide +kernel
set_option maxRecDepth 20000 in
theorem ggX7_isOut_X7_in : GoodIn wsX7_isOut wsX7_in := goodIn_r _ [4] (by decide +kernel) (by decide +kernel)
set_option maxRecDepth 20000 in
theorem gX7_isOut_X7_in : GoodIn wsX7_isOut (va_wsS RX7 44 yX7_in wsX7_in) := goodIn_app (goodIn_of _ (by decide +kernel)) ggX7_isOut_X7_in
theorem dX7_isOut_0 : decode cX7_isOut 0 = .ok (.aload_n 0, 1) := by decide +kernel
theorem dX7_isOut_1 : decode cX7_isOut 1 = .ok (.bipush 45, 2) := by decide +kernel
theorem dX7_isOut_3 : decode cX7_isOut 3 = .ok (.iaload, 1) := by decide +kernel
theorem dX7_isOut_4 : decode cX7_isOut 4 = .ok (.aload_n 0, 1) := by decide +kernel
theorem dX7_isOut_5 : decode cX7_isOut 5 = .ok (.bipush 47, 2) := by decide +kernel
theorem dX7_isOut_7 : decode cX7_isOut 7 = .ok (.iaload, 1) := by decide +kernel
theorem dX7_isOut_8 : decode cX7_isOut 8 = .ok (.aload_n 0, 1) := by decide +kernel
theorem dX7_isOut_9 : decode cX7_isOut 9 = .ok (.bipush 48, 2) := by decide +kernel
theorem dX7_isOut_11 : decode cX7_isOut 11 = .ok (.iaload, 1) := by decide +kernel
theorem dX7_isOut_12 : decode cX7_isOut 12 = .ok (.invokestatic 44, 3) := by decide +kernel
theorem dX7_isOut_15 : decode cX7_isOut 15 = .ok (.ifCond .ne 7, 3) := by decide +kernel
theorem dX7_isOut_18 : decode cX7_isOut 18 = .ok (.iconst 1, 1) := by decide +kernel
theorem dX7_isOut_19 : decode cX7_isOut 19 = .ok (.goto 4, 3) := by decide +kernel
theorem dX7_isOut_22 : decode cX7_isOut 22 = .ok (.iconst 0, 1) := by decide +kernel
theorem dX7_isOut_23 : decode cX7_isOut 23 = .ok (.ireturn, 1) := by decide +kernel
theorem dX7_ofStage_0 : decode cX7_ofStage 0 = .ok (.aload_n 0, 1) := by decide +kernel
theorem dX7_ofStage_1 : decode cX7_ofStage 1 = .ok (.bipush 51, 2) := by decide +kernel
theorem dX7_ofStage_3 : decode cX7_ofStage 3 = .ok (.iconst 4, 1) := by decide +kernel
theorem dX7_ofStage_4 : decode cX7_ofStage 4 = .ok (.iload_n 1, 1) := by decide +kernel
theorem dX7_ofStage_5 : decode cX7_ofStage 5 = .ok (.imul, 1) := by decide +kernel
theorem dX7_ofStage_6 : decode cX7_ofStage 6 = .ok (.iadd, 1) := by decide +kernel
theorem dX7_ofStage_7 : decode cX7_ofStage 7 = .ok (.iload_n 2, 1) := by decide +kernel
theorem dX7_ofStage_8 : decode cX7_ofStage 8 = .ok (.iadd, 1) := by decide +kernel
theorem dX7_ofStage_9 : decode cX7_ofStage 9 = .ok (.iaload, 1) := by decide +kernel
theorem dX7_ofStage_10 : decode cX7_ofStage 10 = .ok (.ireturn, 1) := by decide +kernel
set_option maxRecDepth 20000 in
theorem ggX7_limit_X7_ofStage : GoodIn wsX7_limit wsX7_ofStage := goodIn_r _ [4] (by decide +kernel) (by decide +kernel)
set_option maxRecDepth 20000 in
theorem gX7_limit_X7_ofStage : GoodIn wsX7_limit (va_wsS RX7 56 yX7_ofStage wsX7_ofStage) := goodIn_app (goodIn_of _ (by decide +kernel)) ggX7_limit_X7_ofStage
theorem dX7_limit_0 : decode cX7_limit 0 = .ok (.aload_n 0, 1) := by decide +kernel
theorem dX7_limit_1 : decode cX7_limit 1 = .ok (.iload_n 1, 1) := by decide +kernel
theorem dX7_limit_2 : decode cX7_limit 2 = .ok (.aload_n 0, 1) := by decide +kernel
theorem dX7_limit_3 : decode cX7_limit 3 = .ok (.iload_n 1, 1) := by decide +kernel
theorem dX7_limit_4 : decode cX7_limit 4 = .ok (.iconst 0, 1) := by decide +kernel
theorem dX7_limit_5 : decode cX7_limit 5 = .ok (.invokestatic 56, 3) := by decide +kernel
theorem dX7_limit_8 : decode cX7_limit 8 = .ok (.ifCond .ne 7, 3) := by decide +kernel
theorem dX7_limit_11 : decode cX7_limit 11 = .ok (.iconst 2, 1) := by decide +kernel
theorem dX7_limit_12 : decode cX7_limit 12 = .ok (.goto 4, 3) := by decide +kernel
theorem dX7_limit_15 : decode cX7_limit 15 = .ok (.iconst 1, 1) := by decide +kernel
theorem dX7_limit_16 : decode cX7_limit 16 = .ok (.invokestatic 56, 3) := by decide +kernel
theorem dX7_limit_19 : decode cX7_limit 19 = .ok (.istore_n 2, 1) := by decide +kernel
theorem dX7_limit_20 : decode cX7_limit 20 = .ok (.iload_n 2, 1) := by decide +kernel
theorem dX7_limit_21 : decode cX7_limit 21 = .ok (.aload_n 0, 1) := by decide +kernel
theorem dX7_limit_22 : decode cX7_limit 22 = .ok (.bipush 46, 2) := by decide +kernel
theorem dX7_limit_24 : decode cX7_limit 24 = .ok (.iaload, 1) := by decide +kernel
theorem dX7_limit_25 : decode cX7_limit 25 = .ok (.aload_n 0, 1) := by decide +kernel
theorem dX7_limit_26 : decode cX7_limit 26 = .ok (.bipush 45, 2) := by decide +kernel
theorem dX7_limit_28 : decode cX7_limit 28 = .ok (.iaload, 1) := by decide +kernel
theorem dX7_limit_29 : decode cX7_limit 29 = .ok (.bipush 25, 2) := by decide +kernel
theorem dX7_limit_31 : decode cX7_limit 31 = .ok (.isub, 1) := by decide +kernel
theorem dX7_limit_32 : decode cX7_limit 32 = .ok (.imul, 1) := by decide +kernel
theorem dX7_limit_33 : decode cX7_limit 33 = .ok (.isub, 1) := by decide +kernel
theorem dX7_limit_34 : decode cX7_limit 34 = .ok (.ireturn, 1) := by decide +kernel
set_option maxRecDepth 20000 in
theorem ggX7_held_X7_limit : GoodIn wsX7_held wsX7_limit := goodIn_r _ [4, 5, 6, 3, 7] (by decide +kernel) (by decide +kernel)
set_option maxRecDepth 20000 in
theorem gX7_held_X7_limit : GoodIn wsX7_held (va_wsS RX7 59 yX7_limit wsX7_limit) := goodIn_app (goodIn_of _ (by decide +kernel)) ggX7_held_X7_limit
set_option maxRecDepth 20000 in
theorem ggX7_held_X7_highest : GoodIn wsX7_held wsX7_highest := goodIn_r _ [10, 11, 12, 3, 13, 14, 15, 16] (by decide +kernel) (by decide +kernel)
set_option maxRecDepth 20000 in
theorem gX7_held_X7_highest : GoodIn wsX7_held (va_wsS RX7 62 yX7_highest wsX7_highest) := goodIn_app (goodIn_of _ (by decide +kernel)) ggX7_held_X7_highest
theorem dX7_held_0 : decode cX7_held 0 = .ok (.aload_n 0, 1) := by decide +kernel
theorem dX7_held_1 : decode cX7_held 1 = .ok (.aload_n 0, 1) := by decide +kernel
theorem dX7_held_2 : decode cX7_held 2 = .ok (.bipush 74, 2) := by decide +kernel
theorem dX7_held_4 : decode cX7_held 4 = .ok (.iaload, 1) := by decide +kernel
theorem dX7_held_5 : decode cX7_held 5 = .ok (.invokestatic 59, 3) := by decide +kernel
theorem dX7_held_8 : decode cX7_held 8 = .ok (.aload_n 0, 1) := by decide +kernel
theorem dX7_held_9 : decode cX7_held 9 = .ok (.invokestatic 62, 3) := by decide +kernel
theorem dX7_held_12 : decode cX7_held 12 = .ok (.isub, 1) := by decide +kernel
theorem dX7_held_13 : decode cX7_held 13 = .ok (.istore_n 1, 1) := by decide +kernel
theorem dX7_held_14 : decode cX7_held 14 = .ok (.iload_n 1, 1) := by decide +kernel
theorem dX7_held_15 : decode cX7_held 15 = .ok (.ifCond .ge 5, 3) := by decide +kernel
theorem dX7_held_18 : decode cX7_held 18 = .ok (.iconst 0, 1) := by decide +kernel
theorem dX7_held_19 : decode cX7_held 19 = .ok (.ireturn, 1) := by decide +kernel
theorem dX7_held_20 : decode cX7_held 20 = .ok (.aload_n 0, 1) := by decide +kernel
theorem dX7_held_21 : decode cX7_held 21 = .ok (.bipush 43, 2) := by decide +kernel
theorem dX7_held_23 : decode cX7_held 23 = .ok (.iaload, 1) := by decide +kernel
theorem dX7_held_24 : decode cX7_held 24 = .ok (.ifCond .ne 7, 3) := by decide +kernel
theorem dX7_held_27 : decode cX7_held 27 = .ok (.sipush 2000, 3) := by decide +kernel
theorem dX7_held_30 : decode cX7_held 30 = .ok (.ireturn, 1) := by decide +kernel
theorem dX7_held_31 : decode cX7_held 31 = .ok (.sipush 1000, 3) := by decide +kernel
theorem dX7_held_34 : decode cX7_held 34 = .ok (.iload_n 1, 1) := by decide +kernel
theorem dX7_held_35 : decode cX7_held 35 = .ok (.imul, 1) := by decide +kernel
theorem dX7_held_36 : decode cX7_held 36 = .ok (.sipush 999, 3) := by decide +kernel
theorem dX7_held_39 : decode cX7_held 39 = .ok (.iadd, 1) := by decide +kernel
theorem dX7_held_40 : decode cX7_held 40 = .ok (.aload_n 0, 1) := by decide +kernel
theorem dX7_held_41 : decode cX7_held 41 = .ok (.bipush 43, 2) := by decide +kernel
theorem dX7_held_43 : decode cX7_held 43 = .ok (.iaload, 1) := by decide +kernel
theorem dX7_held_44 : decode cX7_held 44 = .ok (.idiv, 1) := by decide +kernel
theorem dX7_held_45 : decode cX7_held 45 = .ok (.istore_n 2, 1) := by decide +kernel
theorem dX7_held_46 : decode cX7_held 46 = .ok (.iload_n 2, 1) := by decide +kernel
theorem dX7_held_47 : decode cX7_held 47 = .ok (.sipush 2000, 3) := by decide +kernel
theorem dX7_held_50 : decode cX7_held 50 = .ok (.if_icmp .le 9, 3) := by decide +kernel
theorem dX7_held_53 : decode cX7_held 53 = .ok (.sipush 2000, 3) := by decide +kernel
theorem dX7_held_56 : decode cX7_held 56 = .ok (.goto 4, 3) := by decide +kernel
theorem dX7_held_59 : decode cX7_held 59 = .ok (.iload_n 2, 1) := by decide +kernel
theorem dX7_held_60 : decode cX7_held 60 = .ok (.ireturn, 1) := by decide +kernel
set_option maxRecDepth 20000 in
theorem ggX7_told_X7_ofStage : GoodIn wsX7_told wsX7_ofStage := goodIn_r _ [4] (by decide +kernel) (by decide +kernel)
set_option maxRecDepth 20000 in
theorem gX7_told_X7_ofStage : GoodIn wsX7_told (va_wsS RX7 56 yX7_ofStage wsX7_ofStage) := goodIn_app (goodIn_of _ (by decide +kernel)) ggX7_told_X7_ofStage
set_option maxRecDepth 20000 in
theorem ggX7_told_X7_held : GoodIn wsX7_told wsX7_held := goodIn_r _ [7, 8, 9, 3, 10, 1, 2, 4, 11, 12, 13, 14, 15, 16, 17, 18, 19] (by decide +kernel) (by decide +kernel)
set_option maxRecDepth 20000 in
theorem gX7_told_X7_held : GoodIn wsX7_told (va_wsS RX7 66 yX7_held wsX7_held) := goodIn_app (goodIn_of _ (by decide +kernel)) ggX7_told_X7_held
theorem dX7_told_0 : decode cX7_told 0 = .ok (.aload_n 0, 1) := by decide +kernel
theorem dX7_told_1 : decode cX7_told 1 = .ok (.aload_n 0, 1) := by decide +kernel
theorem dX7_told_2 : decode cX7_told 2 = .ok (.bipush 74, 2) := by decide +kernel
theorem dX7_told_4 : decode cX7_told 4 = .ok (.iaload, 1) := by decide +kernel
theorem dX7_told_5 : decode cX7_told 5 = .ok (.iconst 0, 1) := by decide +kernel
theorem dX7_told_6 : decode cX7_told 6 = .ok (.invokestatic 56, 3) := by decide +kernel
theorem dX7_told_9 : decode cX7_told 9 = .ok (.istore_n 1, 1) := by decide +kernel
theorem dX7_told_10 : decode cX7_told 10 = .ok (.iload_n 1, 1) := by decide +kernel
theorem dX7_told_11 : decode cX7_told 11 = .ok (.ifCond .ne 15, 3) := by decide +kernel
theorem dX7_told_14 : decode cX7_told 14 = .ok (.aload_n 0, 1) := by decide +kernel
theorem dX7_told_15 : decode cX7_told 15 = .ok (.aload_n 0, 1) := by decide +kernel
theorem dX7_told_16 : decode cX7_told 16 = .ok (.bipush 74, 2) := by decide +kernel
theorem dX7_told_18 : decode cX7_told 18 = .ok (.iaload, 1) := by decide +kernel
theorem dX7_told_19 : decode cX7_told 19 = .ok (.iconst 1, 1) := by decide +kernel
theorem dX7_told_20 : decode cX7_told 20 = .ok (.invokestatic 56, 3) := by decide +kernel
theorem dX7_told_23 : decode cX7_told 23 = .ok (.goto 16, 3) := by decide +kernel
theorem dX7_told_26 : decode cX7_told 26 = .ok (.iload_n 1, 1) := by decide +kernel
theorem dX7_told_27 : decode cX7_told 27 = .ok (.iconst 1, 1) := by decide +kernel
theorem dX7_told_28 : decode cX7_told 28 = .ok (.if_icmp .ne 10, 3) := by decide +kernel
theorem dX7_told_31 : decode cX7_told 31 = .ok (.aload_n 0, 1) := by decide +kernel
theorem dX7_told_32 : decode cX7_told 32 = .ok (.invokestatic 66, 3) := by decide +kernel
theorem dX7_told_35 : decode cX7_told 35 = .ok (.goto 4, 3) := by decide +kernel
theorem dX7_told_38 : decode cX7_told 38 = .ok (.iconst 0, 1) := by decide +kernel
theorem dX7_told_39 : decode cX7_told 39 = .ok (.ireturn, 1) := by decide +kernel
set_option maxRecDepth 20000 in
theorem ggX7_endsAtOnce_X7_ofStage : GoodIn wsX7_endsAtOnce wsX7_ofStage := goodIn_r _ [4] (by decide +kernel) (by decide +kernel)
set_option maxRecDepth 20000 in
theorem gX7_endsAtOnce_X7_ofStage : GoodIn wsX7_endsAtOnce (va_wsS RX7 56 yX7_ofStage wsX7_ofStage) := goodIn_app (goodIn_of _ (by decide +kernel)) ggX7_endsAtOnce_X7_ofStage
theorem dX7_endsAtOnce_0 : decode cX7_endsAtOnce 0 = .ok (.aload_n 0, 1) := by decide +kernel
theorem dX7_endsAtOnce_1 : decode cX7_endsAtOnce 1 = .ok (.aload_n 0, 1) := by decide +kernel
theorem dX7_endsAtOnce_2 : decode cX7_endsAtOnce 2 = .ok (.bipush 74, 2) := by decide +kernel
theorem dX7_endsAtOnce_4 : decode cX7_endsAtOnce 4 = .ok (.iaload, 1) := by decide +kernel
theorem dX7_endsAtOnce_5 : decode cX7_endsAtOnce 5 = .ok (.iconst 0, 1) := by decide +kernel
theorem dX7_endsAtOnce_6 : decode cX7_endsAtOnce 6 = .ok (.invokestatic 56, 3) := by decide +kernel
theorem dX7_endsAtOnce_9 : decode cX7_endsAtOnce 9 = .ok (.iconst 1, 1) := by decide +kernel
theorem dX7_endsAtOnce_10 : decode cX7_endsAtOnce 10 = .ok (.if_icmp .ne 20, 3) := by decide +kernel
theorem dX7_endsAtOnce_13 : decode cX7_endsAtOnce 13 = .ok (.iload_n 1, 1) := by decide +kernel
theorem dX7_endsAtOnce_14 : decode cX7_endsAtOnce 14 = .ok (.aload_n 0, 1) := by decide +kernel
theorem dX7_endsAtOnce_15 : decode cX7_endsAtOnce 15 = .ok (.aload_n 0, 1) := by decide +kernel
theorem dX7_endsAtOnce_16 : decode cX7_endsAtOnce 16 = .ok (.bipush 74, 2) := by decide +kernel
theorem dX7_endsAtOnce_18 : decode cX7_endsAtOnce 18 = .ok (.iaload, 1) := by decide +kernel
theorem dX7_endsAtOnce_19 : decode cX7_endsAtOnce 19 = .ok (.iconst 2, 1) := by decide +kernel
theorem dX7_endsAtOnce_20 : decode cX7_endsAtOnce 20 = .ok (.invokestatic 56, 3) := by decide +kernel
theorem dX7_endsAtOnce_23 : decode cX7_endsAtOnce 23 = .ok (.if_icmp .gt 7, 3) := by decide +kernel
theorem dX7_endsAtOnce_26 : decode cX7_endsAtOnce 26 = .ok (.iconst 1, 1) := by decide +kernel
theorem dX7_endsAtOnce_27 : decode cX7_endsAtOnce 27 = .ok (.goto 4, 3) := by decide +kernel
theorem dX7_endsAtOnce_30 : decode cX7_endsAtOnce 30 = .ok (.iconst 0, 1) := by decide +kernel
theorem dX7_endsAtOnce_31 : decode cX7_endsAtOnce 31 = .ok (.ireturn, 1) := by decide +kernel
theorem dX7_takesIn_0 : decode cX7_takesIn 0 = .ok (.bipush 7, 2) := by decide +kernel
theorem dX7_takesIn_2 : decode cX7_takesIn 2 = .ok (.iload_n 1, 1) := by decide +kernel
theorem dX7_takesIn_3 : decode cX7_takesIn 3 = .ok (.imul, 1) := by decide +kernel
theorem dX7_takesIn_4 : decode cX7_takesIn 4 = .ok (.istore_n 3, 1) := by decide +kernel
theorem dX7_takesIn_5 : decode cX7_takesIn 5 = .ok (.aload_n 0, 1) := by decide +kernel
theorem dX7_takesIn_6 : decode cX7_takesIn 6 = .ok (.iload_n 3, 1) := by decide +kernel
theorem dX7_takesIn_7 : decode cX7_takesIn 7 = .ok (.iconst 2, 1) := by decide +kernel
theorem dX7_takesIn_8 : decode cX7_takesIn 8 = .ok (.iadd, 1) := by decide +kernel
theorem dX7_takesIn_9 : decode cX7_takesIn 9 = .ok (.dup2, 1) := by decide +kernel
theorem dX7_takesIn_10 : decode cX7_takesIn 10 = .ok (.iaload, 1) := by decide +kernel
theorem dX7_takesIn_11 : decode cX7_takesIn 11 = .ok (.iload_n 2, 1) := by decide +kernel
theorem dX7_takesIn_12 : decode cX7_takesIn 12 = .ok (.iadd, 1) := by decide +kernel
theorem dX7_takesIn_13 : decode cX7_takesIn 13 = .ok (.iastore, 1) := by decide +kernel
theorem dX7_takesIn_14 : decode cX7_takesIn 14 = .ok (.aload_n 0, 1) := by decide +kernel
theorem dX7_takesIn_15 : decode cX7_takesIn 15 = .ok (.iload_n 3, 1) := by decide +kernel
theorem dX7_takesIn_16 : decode cX7_takesIn 16 = .ok (.iconst 1, 1) := by decide +kernel
theorem dX7_takesIn_17 : decode cX7_takesIn 17 = .ok (.iadd, 1) := by decide +kernel
theorem dX7_takesIn_18 : decode cX7_takesIn 18 = .ok (.dup2, 1) := by decide +kernel
theorem dX7_takesIn_19 : decode cX7_takesIn 19 = .ok (.iaload, 1) := by decide +kernel
theorem dX7_takesIn_20 : decode cX7_takesIn 20 = .ok (.iload_n 2, 1) := by decide +kernel
theorem dX7_takesIn_21 : decode cX7_takesIn 21 = .ok (.aload_n 0, 1) := by decide +kernel
theorem dX7_takesIn_22 : decode cX7_takesIn 22 = .ok (.bipush 44, 2) := by decide +kernel
theorem dX7_takesIn_24 : decode cX7_takesIn 24 = .ok (.iaload, 1) := by decide +kernel
theorem dX7_takesIn_25 : decode cX7_takesIn 25 = .ok (.imul, 1) := by decide +kernel
theorem dX7_takesIn_26 : decode cX7_takesIn 26 = .ok (.iadd, 1) := by decide +kernel
theorem dX7_takesIn_27 : decode cX7_takesIn 27 = .ok (.iastore, 1) := by decide +kernel
theorem dX7_takesIn_28 : decode cX7_takesIn 28 = .ok (.aload_n 0, 1) := by decide +kernel
theorem dX7_takesIn_29 : decode cX7_takesIn 29 = .ok (.iload_n 3, 1) := by decide +kernel
theorem dX7_takesIn_30 : decode cX7_takesIn 30 = .ok (.iconst 1, 1) := by decide +kernel
theorem dX7_takesIn_31 : decode cX7_takesIn 31 = .ok (.iadd, 1) := by decide +kernel
theorem dX7_takesIn_32 : decode cX7_takesIn 32 = .ok (.iaload, 1) := by decide +kernel
theorem dX7_takesIn_33 : decode cX7_takesIn 33 = .ok (.bipush 100, 2) := by decide +kernel
theorem dX7_takesIn_35 : decode cX7_takesIn 35 = .ok (.idiv, 1) := by decide +kernel
theorem dX7_takesIn_36 : decode cX7_takesIn 36 = .ok (.istore 4, 2) := by decide +kernel
theorem dX7_takesIn_38 : decode cX7_takesIn 38 = .ok (.aload_n 0, 1) := by decide +kernel
theorem dX7_takesIn_39 : decode cX7_takesIn 39 = .ok (.iload_n 3, 1) := by decide +kernel
theorem dX7_takesIn_40 : decode cX7_takesIn 40 = .ok (.iconst 1, 1) := by decide +kernel
theorem dX7_takesIn_41 : decode cX7_takesIn 41 = .ok (.iadd, 1) := by decide +kernel
theorem dX7_takesIn_42 : decode cX7_takesIn 42 = .ok (.dup2, 1) := by decide +kernel
theorem dX7_takesIn_43 : decode cX7_takesIn 43 = .ok (.iaload, 1) := by decide +kernel
theorem dX7_takesIn_44 : decode cX7_takesIn 44 = .ok (.bipush 100, 2) := by decide +kernel
theorem dX7_takesIn_46 : decode cX7_takesIn 46 = .ok (.irem, 1) := by decide +kernel
theorem dX7_takesIn_47 : decode cX7_takesIn 47 = .ok (.iastore, 1) := by decide +kernel
theorem dX7_takesIn_48 : decode cX7_takesIn 48 = .ok (.aload_n 0, 1) := by decide +kernel
theorem dX7_takesIn_49 : decode cX7_takesIn 49 = .ok (.iload_n 3, 1) := by decide +kernel
theorem dX7_takesIn_50 : decode cX7_takesIn 50 = .ok (.iconst 3, 1) := by decide +kernel
theorem dX7_takesIn_51 : decode cX7_takesIn 51 = .ok (.iadd, 1) := by decide +kernel
theorem dX7_takesIn_52 : decode cX7_takesIn 52 = .ok (.dup2, 1) := by decide +kernel
theorem dX7_takesIn_53 : decode cX7_takesIn 53 = .ok (.iaload, 1) := by decide +kernel
theorem dX7_takesIn_54 : decode cX7_takesIn 54 = .ok (.iload 4, 2) := by decide +kernel
theorem dX7_takesIn_56 : decode cX7_takesIn 56 = .ok (.iadd, 1) := by decide +kernel
theorem dX7_takesIn_57 : decode cX7_takesIn 57 = .ok (.iastore, 1) := by decide +kernel
theorem dX7_takesIn_58 : decode cX7_takesIn 58 = .ok (.aload_n 0, 1) := by decide +kernel
theorem dX7_takesIn_59 : decode cX7_takesIn 59 = .ok (.iload_n 3, 1) := by decide +kernel
theorem dX7_takesIn_60 : decode cX7_takesIn 60 = .ok (.iconst 0, 1) := by decide +kernel
theorem dX7_takesIn_61 : decode cX7_takesIn 61 = .ok (.iadd, 1) := by decide +kernel
theorem dX7_takesIn_62 : decode cX7_takesIn 62 = .ok (.iaload, 1) := by decide +kernel
theorem dX7_takesIn_63 : decode cX7_takesIn 63 = .ok (.iload 4, 2) := by decide +kernel
theorem dX7_takesIn_65 : decode cX7_takesIn 65 = .ok (.iadd, 1) := by decide +kernel
theorem dX7_takesIn_66 : decode cX7_takesIn 66 = .ok (.istore 5, 2) := by decide +kernel
theorem dX7_takesIn_68 : decode cX7_takesIn 68 = .ok (.iload 5, 2) := by decide +kernel
theorem dX7_takesIn_70 : decode cX7_takesIn 70 = .ok (.aload_n 0, 1) := by decide +kernel
theorem dX7_takesIn_71 : decode cX7_takesIn 71 = .ok (.bipush 42, 2) := by decide +kernel
theorem dX7_takesIn_73 : decode cX7_takesIn 73 = .ok (.iaload, 1) := by decide +kernel
theorem dX7_takesIn_74 : decode cX7_takesIn 74 = .ok (.if_icmp .le 13, 3) := by decide +kernel
theorem dX7_takesIn_77 : decode cX7_takesIn 77 = .ok (.iload 5, 2) := by decide +kernel
theorem dX7_takesIn_79 : decode cX7_takesIn 79 = .ok (.aload_n 0, 1) := by decide +kernel
theorem dX7_takesIn_80 : decode cX7_takesIn 80 = .ok (.bipush 42, 2) := by decide +kernel
theorem dX7_takesIn_82 : decode cX7_takesIn 82 = .ok (.iaload, 1) := by decide +kernel
theorem dX7_takesIn_83 : decode cX7_takesIn 83 = .ok (.isub, 1) := by decide +kernel
theorem dX7_takesIn_84 : decode cX7_takesIn 84 = .ok (.goto 4, 3) := by decide +kernel
theorem dX7_takesIn_87 : decode cX7_takesIn 87 = .ok (.iconst 0, 1) := by decide +kernel
theorem dX7_takesIn_88 : decode cX7_takesIn 88 = .ok (.istore 6, 2) := by decide +kernel
theorem dX7_takesIn_90 : decode cX7_takesIn 90 = .ok (.aload_n 0, 1) := by decide +kernel
theorem dX7_takesIn_91 : decode cX7_takesIn 91 = .ok (.iload_n 3, 1) := by decide +kernel
theorem dX7_takesIn_92 : decode cX7_takesIn 92 = .ok (.iconst 0, 1) := by decide +kernel
theorem dX7_takesIn_93 : decode cX7_takesIn 93 = .ok (.iadd, 1) := by decide +kernel
theorem dX7_takesIn_94 : decode cX7_takesIn 94 = .ok (.iload 5, 2) := by decide +kernel
theorem dX7_takesIn_96 : decode cX7_takesIn 96 = .ok (.iload 6, 2) := by decide +kernel
theorem dX7_takesIn_98 : decode cX7_takesIn 98 = .ok (.isub, 1) := by decide +kernel
theorem dX7_takesIn_99 : decode cX7_takesIn 99 = .ok (.iastore, 1) := by decide +kernel
theorem dX7_takesIn_100 : decode cX7_takesIn 100 = .ok (.aload_n 0, 1) := by decide +kernel
theorem dX7_takesIn_101 : decode cX7_takesIn 101 = .ok (.iload_n 3, 1) := by decide +kernel
theorem dX7_takesIn_102 : decode cX7_takesIn 102 = .ok (.iconst 4, 1) := by decide +kernel
theorem dX7_takesIn_103 : decode cX7_takesIn 103 = .ok (.iadd, 1) := by decide +kernel
theorem dX7_takesIn_104 : decode cX7_takesIn 104 = .ok (.dup2, 1) := by decide +kernel
theorem dX7_takesIn_105 : decode cX7_takesIn 105 = .ok (.iaload, 1) := by decide +kernel
theorem dX7_takesIn_106 : decode cX7_takesIn 106 = .ok (.iload 6, 2) := by decide +kernel
theorem dX7_takesIn_108 : decode cX7_takesIn 108 = .ok (.iadd, 1) := by decide +kernel
theorem dX7_takesIn_109 : decode cX7_takesIn 109 = .ok (.iastore, 1) := by decide +kernel
theorem dX7_takesIn_110 : decode cX7_takesIn 110 = .ok (.return_, 1) := by decide +kernel
set_option maxRecDepth 20000 in
theorem ggX7_endsBehind_X7_ofStage : GoodIn wsX7_endsBehind wsX7_ofStage := goodIn_r _ [4] (by decide +kernel) (by decide +kernel)
set_option maxRecDepth 20000 in
theorem gX7_endsBehind_X7_ofStage : GoodIn wsX7_endsBehind (va_wsS RX7 56 yX7_ofStage wsX7_ofStage) := goodIn_app (goodIn_of _ (by decide +kernel)) ggX7_endsBehind_X7_ofStage
set_option maxRecDepth 20000 in
theorem ggX7_endsBehind_X7_highest : GoodIn wsX7_endsBehind wsX7_highest := goodIn_r _ [7, 8, 9, 3, 10, 11, 12, 13] (by decide +kernel) (by decide +kernel)
set_option maxRecDepth 20000 in
theorem gX7_endsBehind_X7_highest : GoodIn wsX7_endsBehind (va_wsS RX7 62 yX7_highest wsX7_highest) := goodIn_app (goodIn_of _ (by decide +kernel)) ggX7_endsBehind_X7_highest
set_option maxRecDepth 20000 in
theorem ggX7_endsBehind_X7_more : GoodIn wsX7_endsBehind wsX7_more := goodIn_r _ [16] (by decide +kernel) (by decide +kernel)
set_option maxRecDepth 20000 in
theorem gX7_endsBehind_X7_more : GoodIn wsX7_endsBehind (va_wsS RX7 69 yX7_more wsX7_more) := goodIn_app (goodIn_of _ (by decide +kernel)) ggX7_endsBehind_X7_more
set_option maxRecDepth 20000 in
theorem ggX7_endsBehind_X7_limit : GoodIn wsX7_endsBehind wsX7_limit := goodIn_r _ [19, 1, 2, 3, 4] (by decide +kernel) (by decide +kernel)
set_option maxRecDepth 20000 in
theorem gX7_endsBehind_X7_limit : GoodIn wsX7_endsBehind (va_wsS RX7 59 yX7_limit wsX7_limit) := goodIn_app (goodIn_of _ (by decide +kernel)) ggX7_endsBehind_X7_limit
theorem dX7_endsBehind_0 : decode cX7_endsBehind 0 = .ok (.aload_n 0, 1) := by decide +kernel
theorem dX7_endsBehind_1 : decode cX7_endsBehind 1 = .ok (.aload_n 0, 1) := by decide +kernel
theorem dX7_endsBehind_2 : decode cX7_endsBehind 2 = .ok (.bipush 74, 2) := by decide +kernel
theorem dX7_endsBehind_4 : decode cX7_endsBehind 4 = .ok (.iaload, 1) := by decide +kernel
theorem dX7_endsBehind_5 : decode cX7_endsBehind 5 = .ok (.iconst 0, 1) := by decide +kernel
theorem dX7_endsBehind_6 : decode cX7_endsBehind 6 = .ok (.invokestatic 56, 3) := by decide +kernel
theorem dX7_endsBehind_9 : decode cX7_endsBehind 9 = .ok (.istore_n 2, 1) := by decide +kernel
theorem dX7_endsBehind_10 : decode cX7_endsBehind 10 = .ok (.iload_n 2, 1) := by decide +kernel
theorem dX7_endsBehind_11 : decode cX7_endsBehind 11 = .ok (.ifCond .ne 30, 3) := by decide +kernel
theorem dX7_endsBehind_14 : decode cX7_endsBehind 14 = .ok (.aload_n 0, 1) := by decide +kernel
theorem dX7_endsBehind_15 : decode cX7_endsBehind 15 = .ok (.invokestatic 62, 3) := by decide +kernel
theorem dX7_endsBehind_18 : decode cX7_endsBehind 18 = .ok (.aload_n 0, 1) := by decide +kernel
theorem dX7_endsBehind_19 : decode cX7_endsBehind 19 = .ok (.iload_n 1, 1) := by decide +kernel
theorem dX7_endsBehind_20 : decode cX7_endsBehind 20 = .ok (.invokestatic 69, 3) := by decide +kernel
theorem dX7_endsBehind_23 : decode cX7_endsBehind 23 = .ok (.iadd, 1) := by decide +kernel
theorem dX7_endsBehind_24 : decode cX7_endsBehind 24 = .ok (.aload_n 0, 1) := by decide +kernel
theorem dX7_endsBehind_25 : decode cX7_endsBehind 25 = .ok (.aload_n 0, 1) := by decide +kernel
theorem dX7_endsBehind_26 : decode cX7_endsBehind 26 = .ok (.bipush 74, 2) := by decide +kernel
theorem dX7_endsBehind_28 : decode cX7_endsBehind 28 = .ok (.iaload, 1) := by decide +kernel
theorem dX7_endsBehind_29 : decode cX7_endsBehind 29 = .ok (.invokestatic 59, 3) := by decide +kernel
theorem dX7_endsBehind_32 : decode cX7_endsBehind 32 = .ok (.if_icmp .lt 7, 3) := by decide +kernel
theorem dX7_endsBehind_35 : decode cX7_endsBehind 35 = .ok (.iconst 1, 1) := by decide +kernel
theorem dX7_endsBehind_36 : decode cX7_endsBehind 36 = .ok (.goto 4, 3) := by decide +kernel
theorem dX7_endsBehind_39 : decode cX7_endsBehind 39 = .ok (.iconst 0, 1) := by decide +kernel
theorem dX7_endsBehind_40 : decode cX7_endsBehind 40 = .ok (.ireturn, 1) := by decide +kernel
theorem dX7_endsBehind_41 : decode cX7_endsBehind 41 = .ok (.iload_n 2, 1) := by decide +kernel
theorem dX7_endsBehind_42 : decode cX7_endsBehind 42 = .ok (.iconst 2, 1) := by decide +kernel
theorem dX7_endsBehind_43 : decode cX7_endsBehind 43 = .ok (.if_icmp .ne 23, 3) := by decide +kernel
theorem dX7_endsBehind_46 : decode cX7_endsBehind 46 = .ok (.aload_n 0, 1) := by decide +kernel
theorem dX7_endsBehind_47 : decode cX7_endsBehind 47 = .ok (.bipush 75, 2) := by decide +kernel
theorem dX7_endsBehind_49 : decode cX7_endsBehind 49 = .ok (.iaload, 1) := by decide +kernel
theorem dX7_endsBehind_50 : decode cX7_endsBehind 50 = .ok (.aload_n 0, 1) := by decide +kernel
theorem dX7_endsBehind_51 : decode cX7_endsBehind 51 = .ok (.aload_n 0, 1) := by decide +kernel
theorem dX7_endsBehind_52 : decode cX7_endsBehind 52 = .ok (.bipush 74, 2) := by decide +kernel
theorem dX7_endsBehind_54 : decode cX7_endsBehind 54 = .ok (.iaload, 1) := by decide +kernel
theorem dX7_endsBehind_55 : decode cX7_endsBehind 55 = .ok (.iconst 1, 1) := by decide +kernel
theorem dX7_endsBehind_56 : decode cX7_endsBehind 56 = .ok (.invokestatic 56, 3) := by decide +kernel
theorem dX7_endsBehind_59 : decode cX7_endsBehind 59 = .ok (.if_icmp .lt 7, 3) := by decide +kernel
theorem dX7_endsBehind_62 : decode cX7_endsBehind 62 = .ok (.iconst 1, 1) := by decide +kernel
theorem dX7_endsBehind_63 : decode cX7_endsBehind 63 = .ok (.goto 4, 3) := by decide +kernel
theorem dX7_endsBehind_66 : decode cX7_endsBehind 66 = .ok (.iconst 0, 1) := by decide +kernel
theorem dX7_endsBehind_67 : decode cX7_endsBehind 67 = .ok (.ireturn, 1) := by decide +kernel
set_option maxRecDepth 20000 in
theorem ggX7_goesOn_X7_logs : GoodIn wsX7_goesOn wsX7_logs := goodIn_r _ [4] (by decide +kernel) (by decide +kernel)
set_option maxRecDepth 20000 in
theorem gX7_goesOn_X7_logs : GoodIn wsX7_goesOn (va_wsS RX7 72 yX7_logs wsX7_logs) := goodIn_app (goodIn_of _ (by decide +kernel)) ggX7_goesOn_X7_logs
theorem dX7_goesOn_0 : decode cX7_goesOn 0 = .ok (.aload_n 0, 1) := by decide +kernel
theorem dX7_goesOn_1 : decode cX7_goesOn 1 = .ok (.bipush 74, 2) := by decide +kernel
theorem dX7_goesOn_3 : decode cX7_goesOn 3 = .ok (.iaload, 1) := by decide +kernel
theorem dX7_goesOn_4 : decode cX7_goesOn 4 = .ok (.iconst 1, 1) := by decide +kernel
theorem dX7_goesOn_5 : decode cX7_goesOn 5 = .ok (.iadd, 1) := by decide +kernel
theorem dX7_goesOn_6 : decode cX7_goesOn 6 = .ok (.aload_n 0, 1) := by decide +kernel
theorem dX7_goesOn_7 : decode cX7_goesOn 7 = .ok (.bipush 72, 2) := by decide +kernel
theorem dX7_goesOn_9 : decode cX7_goesOn 9 = .ok (.iaload, 1) := by decide +kernel
theorem dX7_goesOn_10 : decode cX7_goesOn 10 = .ok (.if_icmp .ge 24, 3) := by decide +kernel
theorem dX7_goesOn_13 : decode cX7_goesOn 13 = .ok (.aload_n 0, 1) := by decide +kernel
theorem dX7_goesOn_14 : decode cX7_goesOn 14 = .ok (.bipush 74, 2) := by decide +kernel
theorem dX7_goesOn_16 : decode cX7_goesOn 16 = .ok (.dup2, 1) := by decide +kernel
theorem dX7_goesOn_17 : decode cX7_goesOn 17 = .ok (.iaload, 1) := by decide +kernel
theorem dX7_goesOn_18 : decode cX7_goesOn 18 = .ok (.iconst 1, 1) := by decide +kernel
theorem dX7_goesOn_19 : decode cX7_goesOn 19 = .ok (.iadd, 1) := by decide +kernel
theorem dX7_goesOn_20 : decode cX7_goesOn 20 = .ok (.iastore, 1) := by decide +kernel
theorem dX7_goesOn_21 : decode cX7_goesOn 21 = .ok (.aload_n 0, 1) := by decide +kernel
theorem dX7_goesOn_22 : decode cX7_goesOn 22 = .ok (.bipush 75, 2) := by decide +kernel
theorem dX7_goesOn_24 : decode cX7_goesOn 24 = .ok (.iconst 0, 1) := by decide +kernel
theorem dX7_goesOn_25 : decode cX7_goesOn 25 = .ok (.iastore, 1) := by decide +kernel
theorem dX7_goesOn_26 : decode cX7_goesOn 26 = .ok (.aload_n 0, 1) := by decide +kernel
theorem dX7_goesOn_27 : decode cX7_goesOn 27 = .ok (.iconst 0, 1) := by decide +kernel
theorem dX7_goesOn_28 : decode cX7_goesOn 28 = .ok (.invokestatic 72, 3) := by decide +kernel
theorem dX7_goesOn_31 : decode cX7_goesOn 31 = .ok (.goto 21, 3) := by decide +kernel
theorem dX7_goesOn_34 : decode cX7_goesOn 34 = .ok (.aload_n 0, 1) := by decide +kernel
theorem dX7_goesOn_35 : decode cX7_goesOn 35 = .ok (.bipush 73, 2) := by decide +kernel
theorem dX7_goesOn_37 : decode cX7_goesOn 37 = .ok (.iconst 2, 1) := by decide +kernel
theorem dX7_goesOn_38 : decode cX7_goesOn 38 = .ok (.iastore, 1) := by decide +kernel
theorem dX7_goesOn_39 : decode cX7_goesOn 39 = .ok (.aload_n 0, 1) := by decide +kernel
theorem dX7_goesOn_40 : decode cX7_goesOn 40 = .ok (.bipush 78, 2) := by decide +kernel
theorem dX7_goesOn_42 : decode cX7_goesOn 42 = .ok (.dup2, 1) := by decide +kernel
theorem dX7_goesOn_43 : decode cX7_goesOn 43 = .ok (.iaload, 1) := by decide +kernel
theorem dX7_goesOn_44 : decode cX7_goesOn 44 = .ok (.iconst 1, 1) := by decide +kernel
theorem dX7_goesOn_45 : decode cX7_goesOn 45 = .ok (.iadd, 1) := by decide +kernel
theorem dX7_goesOn_46 : decode cX7_goesOn 46 = .ok (.iastore, 1) := by decide +kernel
theorem dX7_goesOn_47 : decode cX7_goesOn 47 = .ok (.aload_n 0, 1) := by decide +kernel
theorem dX7_goesOn_48 : decode cX7_goesOn 48 = .ok (.iconst 1, 1) := by decide +kernel
theorem dX7_goesOn_49 : decode cX7_goesOn 49 = .ok (.invokestatic 72, 3) := by decide +kernel
theorem dX7_goesOn_52 : decode cX7_goesOn 52 = .ok (.return_, 1) := by decide +kernel
set_option maxRecDepth 20000 in
theorem ggX7_charges_X7_told : GoodIn wsX7_charges wsX7_told := goodIn_r _ [4, 5, 6, 3, 7, 8, 9, 10, 11, 12, 13, 14, 15, 16, 17, 18, 19, 20, 21, 22] (by decide +kernel) (by decide +kernel)
set_option maxRecDepth 20000 in
theorem gX7_charges_X7_told : GoodIn wsX7_charges (va_wsS RX7 76 yX7_told wsX7_told) := goodIn_app (goodIn_of _ (by decide +kernel)) ggX7_charges_X7_told
set_option maxRecDepth 20000 in
theorem ggX7_charges_X7_endsAtOnce : GoodIn wsX7_charges wsX7_endsAtOnce := goodIn_r _ [25, 5, 6, 3, 7] (by decide +kernel) (by decide +kernel)
set_option maxRecDepth 20000 in
theorem gX7_charges_X7_endsAtOnce : GoodIn wsX7_charges (va_wsS RX7 79 yX7_endsAtOnce wsX7_endsAtOnce) := goodIn_app (goodIn_of _ (by decide +kernel)) ggX7_charges_X7_endsAtOnce
set_option maxRecDepth 20000 in
theorem ggX7_charges_X7_takesIn : GoodIn wsX7_charges wsX7_takesIn := goodIn_r _ [28] (by decide +kernel) (by decide +kernel)
set_option maxRecDepth 20000 in
theorem gX7_charges_X7_takesIn : GoodIn wsX7_charges (va_wsS RX7 83 yX7_takesIn wsX7_takesIn) := goodIn_app (goodIn_of _ (by decide +kernel)) ggX7_charges_X7_takesIn
set_option maxRecDepth 20000 in
theorem ggX7_charges_X7_endsBehind : GoodIn wsX7_charges wsX7_endsBehind := goodIn_r _ [31, 5, 6, 3, 7, 14, 15, 16, 17, 18, 19, 20, 21, 22, 32, 33, 34, 11, 12, 13] (by decide +kernel) (by decide +kernel)
set_option maxRecDepth 20000 in
theorem gX7_charges_X7_endsBehind : GoodIn wsX7_charges (va_wsS RX7 87 yX7_endsBehind wsX7_endsBehind) := goodIn_app (goodIn_of _ (by decide +kernel)) ggX7_charges_X7_endsBehind
set_option maxRecDepth 20000 in
theorem ggX7_charges_X7_ofStage : GoodIn wsX7_charges wsX7_ofStage := goodIn_r _ [7] (by decide +kernel) (by decide +kernel)
set_option maxRecDepth 20000 in
theorem gX7_charges_X7_ofStage : GoodIn wsX7_charges (va_wsS RX7 56 yX7_ofStage wsX7_ofStage) := goodIn_app (goodIn_of _ (by decide +kernel)) ggX7_charges_X7_ofStage
set_option maxRecDepth 20000 in
theorem ggX7_charges_X7_goesOn : GoodIn wsX7_charges wsX7_goesOn := goodIn_r _ [37, 38, 39, 3, 40] (by decide +kernel) (by decide +kernel)
set_option maxRecDepth 20000 in
theorem gX7_charges_X7_goesOn : GoodIn wsX7_charges (va_wsS RX7 90 yX7_goesOn wsX7_goesOn) := goodIn_app (goodIn_of _ (by decide +kernel)) ggX7_charges_X7_goesOn
set_option maxRecDepth 20000 in
theorem ggX7_charges_X7_logs : GoodIn wsX7_charges wsX7_logs := goodIn_r _ [40] (by decide +kernel) (by decide +kernel)
set_option maxRecDepth 20000 in
theorem gX7_charges_X7_logs : GoodIn wsX7_charges (va_wsS RX7 72 yX7_logs wsX7_logs) := goodIn_app (goodIn_of _ (by decide +kernel)) ggX7_charges_X7_logs
theorem dX7_charges_0 : decode cX7_charges 0 = .ok (.aload_n 0, 1) := by decide +kernel
theorem dX7_charges_1 : decode cX7_charges 1 = .ok (.invokestatic 76, 3) := by decide +kernel
theorem dX7_charges_4 : decode cX7_charges 4 = .ok (.istore_n 1, 1) := by decide +kernel
theorem dX7_charges_5 : decode cX7_charges 5 = .ok (.aload_n 0, 1) := by decide +kernel
theorem dX7_charges_6 : decode cX7_charges 6 = .ok (.iload_n 1, 1) := by decide +kernel
theorem dX7_charges_7 : decode cX7_charges 7 = .ok (.invokestatic 79, 3) := by decide +kernel
theorem dX7_charges_10 : decode cX7_charges 10 = .ok (.istore_n 2, 1) := by decide +kernel
theorem dX7_charges_11 : decode cX7_charges 11 = .ok (.iload_n 2, 1) := by decide +kernel
theorem dX7_charges_12 : decode cX7_charges 12 = .ok (.ifCond .ne 39, 3) := by decide +kernel
theorem dX7_charges_15 : decode cX7_charges 15 = .ok (.iconst 0, 1) := by decide +kernel
theorem dX7_charges_16 : decode cX7_charges 16 = .ok (.istore_n 3, 1) := by decide +kernel
theorem dX7_charges_17 : decode cX7_charges 17 = .ok (.iload_n 3, 1) := by decide +kernel
theorem dX7_charges_18 : decode cX7_charges 18 = .ok (.aload_n 0, 1) := by decide +kernel
theorem dX7_charges_19 : decode cX7_charges 19 = .ok (.bipush 71, 2) := by decide +kernel
theorem dX7_charges_21 : decode cX7_charges 21 = .ok (.iaload, 1) := by decide +kernel
theorem dX7_charges_22 : decode cX7_charges 22 = .ok (.if_icmp .ge 15, 3) := by decide +kernel
theorem dX7_charges_25 : decode cX7_charges 25 = .ok (.aload_n 0, 1) := by decide +kernel
theorem dX7_charges_26 : decode cX7_charges 26 = .ok (.iload_n 3, 1) := by decide +kernel
theorem dX7_charges_27 : decode cX7_charges 27 = .ok (.iload_n 1, 1) := by decide +kernel
theorem dX7_charges_28 : decode cX7_charges 28 = .ok (.invokestatic 83, 3) := by decide +kernel
theorem dX7_charges_31 : decode cX7_charges 31 = .ok (.iinc 3 1, 3) := by decide +kernel
theorem dX7_charges_34 : decode cX7_charges 34 = .ok (.goto (-17), 3) := by decide +kernel
theorem dX7_charges_37 : decode cX7_charges 37 = .ok (.aload_n 0, 1) := by decide +kernel
theorem dX7_charges_38 : decode cX7_charges 38 = .ok (.bipush 75, 2) := by decide +kernel
theorem dX7_charges_40 : decode cX7_charges 40 = .ok (.dup2, 1) := by decide +kernel
theorem dX7_charges_41 : decode cX7_charges 41 = .ok (.iaload, 1) := by decide +kernel
theorem dX7_charges_42 : decode cX7_charges 42 = .ok (.iconst 1, 1) := by decide +kernel
theorem dX7_charges_43 : decode cX7_charges 43 = .ok (.iadd, 1) := by decide +kernel
theorem dX7_charges_44 : decode cX7_charges 44 = .ok (.iastore, 1) := by decide +kernel
theorem dX7_charges_45 : decode cX7_charges 45 = .ok (.aload_n 0, 1) := by decide +kernel
theorem dX7_charges_46 : decode cX7_charges 46 = .ok (.iload_n 1, 1) := by decide +kernel
theorem dX7_charges_47 : decode cX7_charges 47 = .ok (.invokestatic 87, 3) := by decide +kernel
theorem dX7_charges_50 : decode cX7_charges 50 = .ok (.istore_n 2, 1) := by decide +kernel
theorem dX7_charges_51 : decode cX7_charges 51 = .ok (.aload_n 0, 1) := by decide +kernel
end
section
theorem dX7_charges_52 : decode cX7_charges 52 = .ok (.aload_n 0, 1) := by decide +kernel
theorem dX7_charges_53 : decode cX7_charges 53 = .ok (.bipush 74, 2) := by decide +kernel
theorem dX7_charges_55 : decode cX7_charges 55 = .ok (.iaload, 1) := by decide +kernel
theorem dX7_charges_56 : decode cX7_charges 56 = .ok (.iconst 3, 1) := by decide +kernel
theorem dX7_charges_57 : decode cX7_charges 57 = .ok (.invokestatic 56, 3) := by decide +kernel
theorem dX7_charges_60 : decode cX7_charges 60 = .ok (.istore_n 3, 1) := by decide +kernel
theorem dX7_charges_61 : decode cX7_charges 61 = .ok (.iload_n 2, 1) := by decide +kernel
theorem dX7_charges_62 : decode cX7_charges 62 = .ok (.ifCond .eq 10, 3) := by decide +kernel
theorem dX7_charges_65 : decode cX7_charges 65 = .ok (.aload_n 0, 1) := by decide +kernel
theorem dX7_charges_66 : decode cX7_charges 66 = .ok (.invokestatic 90, 3) := by decide +kernel
theorem dX7_charges_69 : decode cX7_charges 69 = .ok (.goto 33, 3) := by decide +kernel
theorem dX7_charges_72 : decode cX7_charges 72 = .ok (.iload_n 3, 1) := by decide +kernel
theorem dX7_charges_73 : decode cX7_charges 73 = .ok (.ifCond .le 29, 3) := by decide +kernel
theorem dX7_charges_76 : decode cX7_charges 76 = .ok (.aload_n 0, 1) := by decide +kernel
theorem dX7_charges_77 : decode cX7_charges 77 = .ok (.bipush 75, 2) := by decide +kernel
theorem dX7_charges_79 : decode cX7_charges 79 = .ok (.iaload, 1) := by decide +kernel
theorem dX7_charges_80 : decode cX7_charges 80 = .ok (.iload_n 3, 1) := by decide +kernel
theorem dX7_charges_81 : decode cX7_charges 81 = .ok (.if_icmp .lt 21, 3) := by decide +kernel
theorem dX7_charges_84 : decode cX7_charges 84 = .ok (.aload_n 0, 1) := by decide +kernel
theorem dX7_charges_85 : decode cX7_charges 85 = .ok (.bipush 73, 2) := by decide +kernel
theorem dX7_charges_87 : decode cX7_charges 87 = .ok (.iconst 3, 1) := by decide +kernel
theorem dX7_charges_88 : decode cX7_charges 88 = .ok (.iastore, 1) := by decide +kernel
theorem dX7_charges_89 : decode cX7_charges 89 = .ok (.aload_n 0, 1) := by decide +kernel
theorem dX7_charges_90 : decode cX7_charges 90 = .ok (.bipush 79, 2) := by decide +kernel
theorem dX7_charges_92 : decode cX7_charges 92 = .ok (.dup2, 1) := by decide +kernel
theorem dX7_charges_93 : decode cX7_charges 93 = .ok (.iaload, 1) := by decide +kernel
theorem dX7_charges_94 : decode cX7_charges 94 = .ok (.iconst 1, 1) := by decide +kernel
theorem dX7_charges_95 : decode cX7_charges 95 = .ok (.iadd, 1) := by decide +kernel
theorem dX7_charges_96 : decode cX7_charges 96 = .ok (.iastore, 1) := by decide +kernel
theorem dX7_charges_97 : decode cX7_charges 97 = .ok (.aload_n 0, 1) := by decide +kernel
theorem dX7_charges_98 : decode cX7_charges 98 = .ok (.iconst 2, 1) := by decide +kernel
theorem dX7_charges_99 : decode cX7_charges 99 = .ok (.invokestatic 72, 3) := by decide +kernel
theorem dX7_charges_102 : decode cX7_charges 102 = .ok (.return_, 1) := by decide +kernel
set_option maxRecDepth 20000 in
theorem ggX7_bleeds_X7_lowest : GoodIn wsX7_bleeds wsX7_lowest := goodIn_r _ [4, 5, 6, 3, 7, 8, 9, 10] (by decide +kernel) (by decide +kernel)
set_option maxRecDepth 20000 in
theorem gX7_bleeds_X7_lowest : GoodIn wsX7_bleeds (va_wsS RX7 94 yX7_lowest wsX7_lowest) := goodIn_app (goodIn_of _ (by decide +kernel)) ggX7_bleeds_X7_lowest
set_option maxRecDepth 20000 in
theorem ggX7_bleeds_X7_of : GoodIn wsX7_bleeds wsX7_of := goodIn_r _ [10] (by decide +kernel) (by decide +kernel)
set_option maxRecDepth 20000 in
theorem gX7_bleeds_X7_of : GoodIn wsX7_bleeds (va_wsS RX7 48 yX7_of wsX7_of) := goodIn_app (goodIn_of _ (by decide +kernel)) ggX7_bleeds_X7_of
set_option maxRecDepth 20000 in
theorem ggX7_bleeds_X7_base : GoodIn wsX7_bleeds wsX7_base := goodIn_r _ [7, 8, 9, 3, 10] (by decide +kernel) (by decide +kernel)
set_option maxRecDepth 20000 in
theorem gX7_bleeds_X7_base : GoodIn wsX7_bleeds (va_wsS RX7 52 yX7_base wsX7_base) := goodIn_app (goodIn_of _ (by decide +kernel)) ggX7_bleeds_X7_base
theorem dX7_bleeds_0 : decode cX7_bleeds 0 = .ok (.aload_n 0, 1) := by decide +kernel
theorem dX7_bleeds_1 : decode cX7_bleeds 1 = .ok (.invokestatic 94, 3) := by decide +kernel
theorem dX7_bleeds_4 : decode cX7_bleeds 4 = .ok (.istore_n 1, 1) := by decide +kernel
theorem dX7_bleeds_5 : decode cX7_bleeds 5 = .ok (.iconst 0, 1) := by decide +kernel
theorem dX7_bleeds_6 : decode cX7_bleeds 6 = .ok (.istore_n 2, 1) := by decide +kernel
theorem dX7_bleeds_7 : decode cX7_bleeds 7 = .ok (.iload_n 2, 1) := by decide +kernel
theorem dX7_bleeds_8 : decode cX7_bleeds 8 = .ok (.aload_n 0, 1) := by decide +kernel
theorem dX7_bleeds_9 : decode cX7_bleeds 9 = .ok (.bipush 71, 2) := by decide +kernel
theorem dX7_bleeds_11 : decode cX7_bleeds 11 = .ok (.iaload, 1) := by decide +kernel
theorem dX7_bleeds_12 : decode cX7_bleeds 12 = .ok (.if_icmp .ge 90, 3) := by decide +kernel
theorem dX7_bleeds_15 : decode cX7_bleeds 15 = .ok (.aload_n 0, 1) := by decide +kernel
theorem dX7_bleeds_16 : decode cX7_bleeds 16 = .ok (.iload_n 2, 1) := by decide +kernel
theorem dX7_bleeds_17 : decode cX7_bleeds 17 = .ok (.iconst 0, 1) := by decide +kernel
theorem dX7_bleeds_18 : decode cX7_bleeds 18 = .ok (.invokestatic 48, 3) := by decide +kernel
theorem dX7_bleeds_21 : decode cX7_bleeds 21 = .ok (.istore_n 3, 1) := by decide +kernel
theorem dX7_bleeds_22 : decode cX7_bleeds 22 = .ok (.aload_n 0, 1) := by decide +kernel
theorem dX7_bleeds_23 : decode cX7_bleeds 23 = .ok (.iload_n 2, 1) := by decide +kernel
theorem dX7_bleeds_24 : decode cX7_bleeds 24 = .ok (.invokestatic 52, 3) := by decide +kernel
theorem dX7_bleeds_27 : decode cX7_bleeds 27 = .ok (.iload_n 1, 1) := by decide +kernel
theorem dX7_bleeds_28 : decode cX7_bleeds 28 = .ok (.isub, 1) := by decide +kernel
theorem dX7_bleeds_29 : decode cX7_bleeds 29 = .ok (.aload_n 0, 1) := by decide +kernel
theorem dX7_bleeds_30 : decode cX7_bleeds 30 = .ok (.bipush 49, 2) := by decide +kernel
theorem dX7_bleeds_32 : decode cX7_bleeds 32 = .ok (.iaload, 1) := by decide +kernel
theorem dX7_bleeds_33 : decode cX7_bleeds 33 = .ok (.if_icmp .le 7, 3) := by decide +kernel
theorem dX7_bleeds_36 : decode cX7_bleeds 36 = .ok (.iconst 1, 1) := by decide +kernel
theorem dX7_bleeds_37 : decode cX7_bleeds 37 = .ok (.goto 4, 3) := by decide +kernel
theorem dX7_bleeds_40 : decode cX7_bleeds 40 = .ok (.iconst 0, 1) := by decide +kernel
theorem dX7_bleeds_41 : decode cX7_bleeds 41 = .ok (.istore 4, 2) := by decide +kernel
theorem dX7_bleeds_43 : decode cX7_bleeds 43 = .ok (.iload 4, 2) := by decide +kernel
theorem dX7_bleeds_45 : decode cX7_bleeds 45 = .ok (.ifCond .ne 7, 3) := by decide +kernel
theorem dX7_bleeds_48 : decode cX7_bleeds 48 = .ok (.iconst 0, 1) := by decide +kernel
theorem dX7_bleeds_49 : decode cX7_bleeds 49 = .ok (.goto 19, 3) := by decide +kernel
theorem dX7_bleeds_52 : decode cX7_bleeds 52 = .ok (.aload_n 0, 1) := by decide +kernel
theorem dX7_bleeds_53 : decode cX7_bleeds 53 = .ok (.bipush 50, 2) := by decide +kernel
theorem dX7_bleeds_55 : decode cX7_bleeds 55 = .ok (.iaload, 1) := by decide +kernel
theorem dX7_bleeds_56 : decode cX7_bleeds 56 = .ok (.iload_n 3, 1) := by decide +kernel
theorem dX7_bleeds_57 : decode cX7_bleeds 57 = .ok (.if_icmp .ge 10, 3) := by decide +kernel
theorem dX7_bleeds_60 : decode cX7_bleeds 60 = .ok (.aload_n 0, 1) := by decide +kernel
theorem dX7_bleeds_61 : decode cX7_bleeds 61 = .ok (.bipush 50, 2) := by decide +kernel
theorem dX7_bleeds_63 : decode cX7_bleeds 63 = .ok (.iaload, 1) := by decide +kernel
theorem dX7_bleeds_64 : decode cX7_bleeds 64 = .ok (.goto 4, 3) := by decide +kernel
theorem dX7_bleeds_67 : decode cX7_bleeds 67 = .ok (.iload_n 3, 1) := by decide +kernel
theorem dX7_bleeds_68 : decode cX7_bleeds 68 = .ok (.istore 5, 2) := by decide +kernel
theorem dX7_bleeds_70 : decode cX7_bleeds 70 = .ok (.aload_n 0, 1) := by decide +kernel
theorem dX7_bleeds_71 : decode cX7_bleeds 71 = .ok (.bipush 7, 2) := by decide +kernel
theorem dX7_bleeds_73 : decode cX7_bleeds 73 = .ok (.iload_n 2, 1) := by decide +kernel
theorem dX7_bleeds_74 : decode cX7_bleeds 74 = .ok (.imul, 1) := by decide +kernel
theorem dX7_bleeds_75 : decode cX7_bleeds 75 = .ok (.iconst 0, 1) := by decide +kernel
theorem dX7_bleeds_76 : decode cX7_bleeds 76 = .ok (.iadd, 1) := by decide +kernel
theorem dX7_bleeds_77 : decode cX7_bleeds 77 = .ok (.dup2, 1) := by decide +kernel
theorem dX7_bleeds_78 : decode cX7_bleeds 78 = .ok (.iaload, 1) := by decide +kernel
theorem dX7_bleeds_79 : decode cX7_bleeds 79 = .ok (.iload 5, 2) := by decide +kernel
theorem dX7_bleeds_81 : decode cX7_bleeds 81 = .ok (.isub, 1) := by decide +kernel
theorem dX7_bleeds_82 : decode cX7_bleeds 82 = .ok (.iastore, 1) := by decide +kernel
theorem dX7_bleeds_83 : decode cX7_bleeds 83 = .ok (.aload_n 0, 1) := by decide +kernel
theorem dX7_bleeds_84 : decode cX7_bleeds 84 = .ok (.bipush 7, 2) := by decide +kernel
theorem dX7_bleeds_86 : decode cX7_bleeds 86 = .ok (.iload_n 2, 1) := by decide +kernel
theorem dX7_bleeds_87 : decode cX7_bleeds 87 = .ok (.imul, 1) := by decide +kernel
theorem dX7_bleeds_88 : decode cX7_bleeds 88 = .ok (.iconst 5, 1) := by decide +kernel
theorem dX7_bleeds_89 : decode cX7_bleeds 89 = .ok (.iadd, 1) := by decide +kernel
theorem dX7_bleeds_90 : decode cX7_bleeds 90 = .ok (.dup2, 1) := by decide +kernel
theorem dX7_bleeds_91 : decode cX7_bleeds 91 = .ok (.iaload, 1) := by decide +kernel
theorem dX7_bleeds_92 : decode cX7_bleeds 92 = .ok (.iload 5, 2) := by decide +kernel
theorem dX7_bleeds_94 : decode cX7_bleeds 94 = .ok (.iadd, 1) := by decide +kernel
theorem dX7_bleeds_95 : decode cX7_bleeds 95 = .ok (.iastore, 1) := by decide +kernel
theorem dX7_bleeds_96 : decode cX7_bleeds 96 = .ok (.iinc 2 1, 3) := by decide +kernel
theorem dX7_bleeds_99 : decode cX7_bleeds 99 = .ok (.goto (-92), 3) := by decide +kernel
theorem dX7_bleeds_102 : decode cX7_bleeds 102 = .ok (.return_, 1) := by decide +kernel
set_option maxRecDepth 20000 in
theorem ggX7_tick_X7_isOut : GoodIn wsX7_tick wsX7_isOut := goodIn_r _ [4, 5, 6, 3, 7] (by decide +kernel) (by decide +kernel)
set_option maxRecDepth 20000 in
theorem gX7_tick_X7_isOut : GoodIn wsX7_tick (va_wsS RX7 97 yX7_isOut wsX7_isOut) := goodIn_app (goodIn_of _ (by decide +kernel)) ggX7_tick_X7_isOut
set_option maxRecDepth 20000 in
theorem ggX7_tick_X7_logs : GoodIn wsX7_tick wsX7_logs := goodIn_r _ [10] (by decide +kernel) (by decide +kernel)
set_option maxRecDepth 20000 in
theorem gX7_tick_X7_logs : GoodIn wsX7_tick (va_wsS RX7 72 yX7_logs wsX7_logs) := goodIn_app (goodIn_of _ (by decide +kernel)) ggX7_tick_X7_logs
set_option maxRecDepth 20000 in
theorem ggX7_tick_X7_charges : GoodIn wsX7_tick wsX7_charges := goodIn_r _ [13, 14, 15, 3, 16, 17, 18, 19, 20, 21, 22, 23, 24, 25, 26, 27, 28, 29, 30, 31, 32, 33, 34, 35, 36, 37, 38, 39, 40, 41, 42, 43, 44, 45, 46, 47, 48, 49, 8, 9, 10] (by decide +kernel) (by decide +kernel)
set_option maxRecDepth 20000 in
theorem gX7_tick_X7_charges : GoodIn wsX7_tick (va_wsS RX7 101 yX7_charges wsX7_charges) := goodIn_app (goodIn_of _ (by decide +kernel)) ggX7_tick_X7_charges
set_option maxRecDepth 20000 in
theorem ggX7_tick_X7_bleeds : GoodIn wsX7_tick wsX7_bleeds := goodIn_r _ [52, 53, 54, 3, 55, 29, 30, 31, 32, 33, 34] (by decide +kernel) (by decide +kernel)
set_option maxRecDepth 20000 in
theorem gX7_tick_X7_bleeds : GoodIn wsX7_tick (va_wsS RX7 104 yX7_bleeds wsX7_bleeds) := goodIn_app (goodIn_of _ (by decide +kernel)) ggX7_tick_X7_bleeds
theorem dX7_tick_0 : decode cX7_tick 0 = .ok (.aload_n 0, 1) := by decide +kernel
theorem dX7_tick_1 : decode cX7_tick 1 = .ok (.bipush 73, 2) := by decide +kernel
theorem dX7_tick_3 : decode cX7_tick 3 = .ok (.iaload, 1) := by decide +kernel
theorem dX7_tick_4 : decode cX7_tick 4 = .ok (.iconst 1, 1) := by decide +kernel
theorem dX7_tick_5 : decode cX7_tick 5 = .ok (.if_icmp .ne 14, 3) := by decide +kernel
theorem dX7_tick_8 : decode cX7_tick 8 = .ok (.aload_n 0, 1) := by decide +kernel
theorem dX7_tick_9 : decode cX7_tick 9 = .ok (.invokestatic 97, 3) := by decide +kernel
theorem dX7_tick_12 : decode cX7_tick 12 = .ok (.ifCond .eq 7, 3) := by decide +kernel
theorem dX7_tick_15 : decode cX7_tick 15 = .ok (.iconst 1, 1) := by decide +kernel
theorem dX7_tick_16 : decode cX7_tick 16 = .ok (.goto 4, 3) := by decide +kernel
theorem dX7_tick_19 : decode cX7_tick 19 = .ok (.iconst 0, 1) := by decide +kernel
theorem dX7_tick_20 : decode cX7_tick 20 = .ok (.istore_n 1, 1) := by decide +kernel
theorem dX7_tick_21 : decode cX7_tick 21 = .ok (.iload_n 1, 1) := by decide +kernel
theorem dX7_tick_22 : decode cX7_tick 22 = .ok (.ifCond .eq 26, 3) := by decide +kernel
theorem dX7_tick_25 : decode cX7_tick 25 = .ok (.aload_n 0, 1) := by decide +kernel
theorem dX7_tick_26 : decode cX7_tick 26 = .ok (.bipush 77, 2) := by decide +kernel
theorem dX7_tick_28 : decode cX7_tick 28 = .ok (.dup2, 1) := by decide +kernel
theorem dX7_tick_29 : decode cX7_tick 29 = .ok (.iaload, 1) := by decide +kernel
theorem dX7_tick_30 : decode cX7_tick 30 = .ok (.iconst 1, 1) := by decide +kernel
theorem dX7_tick_31 : decode cX7_tick 31 = .ok (.iadd, 1) := by decide +kernel
theorem dX7_tick_32 : decode cX7_tick 32 = .ok (.iastore, 1) := by decide +kernel
theorem dX7_tick_33 : decode cX7_tick 33 = .ok (.aload_n 0, 1) := by decide +kernel
theorem dX7_tick_34 : decode cX7_tick 34 = .ok (.bipush 80, 2) := by decide +kernel
theorem dX7_tick_36 : decode cX7_tick 36 = .ok (.iaload, 1) := by decide +kernel
theorem dX7_tick_37 : decode cX7_tick 37 = .ok (.ifCond .ne 23, 3) := by decide +kernel
theorem dX7_tick_40 : decode cX7_tick 40 = .ok (.aload_n 0, 1) := by decide +kernel
theorem dX7_tick_41 : decode cX7_tick 41 = .ok (.iconst 3, 1) := by decide +kernel
theorem dX7_tick_42 : decode cX7_tick 42 = .ok (.invokestatic 72, 3) := by decide +kernel
theorem dX7_tick_45 : decode cX7_tick 45 = .ok (.goto 15, 3) := by decide +kernel
theorem dX7_tick_48 : decode cX7_tick 48 = .ok (.aload_n 0, 1) := by decide +kernel
theorem dX7_tick_49 : decode cX7_tick 49 = .ok (.bipush 73, 2) := by decide +kernel
theorem dX7_tick_51 : decode cX7_tick 51 = .ok (.iaload, 1) := by decide +kernel
theorem dX7_tick_52 : decode cX7_tick 52 = .ok (.iconst 1, 1) := by decide +kernel
theorem dX7_tick_53 : decode cX7_tick 53 = .ok (.if_icmp .ne 7, 3) := by decide +kernel
theorem dX7_tick_56 : decode cX7_tick 56 = .ok (.aload_n 0, 1) := by decide +kernel
theorem dX7_tick_57 : decode cX7_tick 57 = .ok (.invokestatic 101, 3) := by decide +kernel
theorem dX7_tick_60 : decode cX7_tick 60 = .ok (.aload_n 0, 1) := by decide +kernel
theorem dX7_tick_61 : decode cX7_tick 61 = .ok (.bipush 80, 2) := by decide +kernel
theorem dX7_tick_63 : decode cX7_tick 63 = .ok (.iload_n 1, 1) := by decide +kernel
theorem dX7_tick_64 : decode cX7_tick 64 = .ok (.ifCond .eq 7, 3) := by decide +kernel
theorem dX7_tick_67 : decode cX7_tick 67 = .ok (.iconst 1, 1) := by decide +kernel
theorem dX7_tick_68 : decode cX7_tick 68 = .ok (.goto 4, 3) := by decide +kernel
theorem dX7_tick_71 : decode cX7_tick 71 = .ok (.iconst 0, 1) := by decide +kernel
theorem dX7_tick_72 : decode cX7_tick 72 = .ok (.iastore, 1) := by decide +kernel
theorem dX7_tick_73 : decode cX7_tick 73 = .ok (.aload_n 0, 1) := by decide +kernel
theorem dX7_tick_74 : decode cX7_tick 74 = .ok (.invokestatic 104, 3) := by decide +kernel
theorem dX7_tick_77 : decode cX7_tick 77 = .ok (.aload_n 0, 1) := by decide +kernel
theorem dX7_tick_78 : decode cX7_tick 78 = .ok (.bipush 76, 2) := by decide +kernel
theorem dX7_tick_80 : decode cX7_tick 80 = .ok (.dup2, 1) := by decide +kernel
theorem dX7_tick_81 : decode cX7_tick 81 = .ok (.iaload, 1) := by decide +kernel
theorem dX7_tick_82 : decode cX7_tick 82 = .ok (.iconst 1, 1) := by decide +kernel
theorem dX7_tick_83 : decode cX7_tick 83 = .ok (.iadd, 1) := by decide +kernel
theorem dX7_tick_84 : decode cX7_tick 84 = .ok (.iastore, 1) := by decide +kernel
theorem dX7_tick_85 : decode cX7_tick 85 = .ok (.return_, 1) := by decide +kernel
set_option maxRecDepth 20000 in
theorem ggX7_battery_X7_in : GoodIn wsX7_battery wsX7_in := goodIn_r _ [5] (by decide +kernel) (by decide +kernel)
set_option maxRecDepth 20000 in
theorem gX7_battery_X7_in : GoodIn wsX7_battery (va_wsS RX7 44 yX7_in wsX7_in) := goodIn_app (goodIn_of _ (by decide +kernel)) ggX7_battery_X7_in
set_option maxRecDepth 20000 in
theorem ggX7_battery_X7_records : GoodIn wsX7_battery wsX7_records := goodIn_r _ [9, 10, 11, 1, 12, 13, 4, 14, 15, 16, 17, 18, 19, 20, 21, 22, 23, 24, 25, 26] (by decide +kernel) (by decide +kernel)
set_option maxRecDepth 20000 in
theorem gX7_battery_X7_records : GoodIn wsX7_battery (wsV RX7 41 RX7 yX7_records wsX7_records) := goodIn_app (goodIn_of _ (by decide +kernel)) ggX7_battery_X7_records
theorem dX7_battery_0 : decode cX7_battery 0 = .ok (.iload_n 1, 1) := by decide +kernel
theorem dX7_battery_1 : decode cX7_battery 1 = .ok (.iconst 1, 1) := by decide +kernel
theorem dX7_battery_2 : decode cX7_battery 2 = .ok (.bipush 6, 2) := by decide +kernel
theorem dX7_battery_4 : decode cX7_battery 4 = .ok (.invokestatic 44, 3) := by decide +kernel
theorem dX7_battery_7 : decode cX7_battery 7 = .ok (.ifCond .ne 6, 3) := by decide +kernel
theorem dX7_battery_10 : decode cX7_battery 10 = .ok (.bipush (-2), 2) := by decide +kernel
theorem dX7_battery_12 : decode cX7_battery 12 = .ok (.ireturn, 1) := by decide +kernel
theorem dX7_battery_13 : decode cX7_battery 13 = .ok (.aload_n 0, 1) := by decide +kernel
theorem dX7_battery_14 : decode cX7_battery 14 = .ok (.invokevirtual 41, 3) := by decide +kernel
theorem dX7_battery_17 : decode cX7_battery 17 = .ok (.aload_n 0, 1) := by decide +kernel
theorem dX7_battery_18 : decode cX7_battery 18 = .ok (.getfield 7, 3) := by decide +kernel
theorem dX7_battery_21 : decode cX7_battery 21 = .ok (.bipush 71, 2) := by decide +kernel
theorem dX7_battery_23 : decode cX7_battery 23 = .ok (.iaload, 1) := by decide +kernel
theorem dX7_battery_24 : decode cX7_battery 24 = .ok (.istore_n 2, 1) := by decide +kernel
theorem dX7_battery_25 : decode cX7_battery 25 = .ok (.iconst 0, 1) := by decide +kernel
theorem dX7_battery_26 : decode cX7_battery 26 = .ok (.istore_n 3, 1) := by decide +kernel
theorem dX7_battery_27 : decode cX7_battery 27 = .ok (.iload_n 3, 1) := by decide +kernel
theorem dX7_battery_28 : decode cX7_battery 28 = .ok (.bipush 42, 2) := by decide +kernel
theorem dX7_battery_30 : decode cX7_battery 30 = .ok (.if_icmp .ge 16, 3) := by decide +kernel
theorem dX7_battery_33 : decode cX7_battery 33 = .ok (.aload_n 0, 1) := by decide +kernel
theorem dX7_battery_34 : decode cX7_battery 34 = .ok (.getfield 7, 3) := by decide +kernel
theorem dX7_battery_37 : decode cX7_battery 37 = .ok (.iload_n 3, 1) := by decide +kernel
theorem dX7_battery_38 : decode cX7_battery 38 = .ok (.iconst 0, 1) := by decide +kernel
theorem dX7_battery_39 : decode cX7_battery 39 = .ok (.iastore, 1) := by decide +kernel
theorem dX7_battery_40 : decode cX7_battery 40 = .ok (.iinc 3 1, 3) := by decide +kernel
theorem dX7_battery_43 : decode cX7_battery 43 = .ok (.goto (-16), 3) := by decide +kernel
theorem dX7_battery_46 : decode cX7_battery 46 = .ok (.aload_n 0, 1) := by decide +kernel
theorem dX7_battery_47 : decode cX7_battery 47 = .ok (.getfield 7, 3) := by decide +kernel
theorem dX7_battery_50 : decode cX7_battery 50 = .ok (.bipush 71, 2) := by decide +kernel
theorem dX7_battery_52 : decode cX7_battery 52 = .ok (.iload_n 1, 1) := by decide +kernel
theorem dX7_battery_53 : decode cX7_battery 53 = .ok (.iastore, 1) := by decide +kernel
theorem dX7_battery_54 : decode cX7_battery 54 = .ok (.aload_n 0, 1) := by decide +kernel
theorem dX7_battery_55 : decode cX7_battery 55 = .ok (.getfield 7, 3) := by decide +kernel
theorem dX7_battery_58 : decode cX7_battery 58 = .ok (.bipush 73, 2) := by decide +kernel
theorem dX7_battery_60 : decode cX7_battery 60 = .ok (.iconst 0, 1) := by decide +kernel
theorem dX7_battery_61 : decode cX7_battery 61 = .ok (.iastore, 1) := by decide +kernel
theorem dX7_battery_62 : decode cX7_battery 62 = .ok (.iload_n 2, 1) := by decide +kernel
theorem dX7_battery_63 : decode cX7_battery 63 = .ok (.ireturn, 1) := by decide +kernel
set_option maxRecDepth 20000 in
theorem ggX7_setCharge_X7_isCell : GoodIn wsX7_setCharge wsX7_isCell := goodIn_r _ [6, 1, 7, 8, 5, 9, 22, 23, 24, 25, 26, 27, 28, 29, 30, 31, 32, 33] (by decide +kernel) (by decide +kernel)
set_option maxRecDepth 20000 in
theorem gX7_setCharge_X7_isCell : GoodIn wsX7_setCharge (wsV RX7 107 RX7 yX7_isCell wsX7_isCell) := goodIn_app (goodIn_of _ (by decide +kernel)) ggX7_setCharge_X7_isCell
set_option maxRecDepth 20000 in
theorem ggX7_setCharge_X7_in : GoodIn wsX7_setCharge wsX7_in := goodIn_r _ [9] (by decide +kernel) (by decide +kernel)
set_option maxRecDepth 20000 in
theorem gX7_setCharge_X7_in : GoodIn wsX7_setCharge (va_wsS RX7 44 yX7_in wsX7_in) := goodIn_app (goodIn_of _ (by decide +kernel)) ggX7_setCharge_X7_in
set_option maxRecDepth 20000 in
theorem ggX7_setCharge_X7_of : GoodIn wsX7_setCharge wsX7_of := goodIn_r _ [12] (by decide +kernel) (by decide +kernel)
set_option maxRecDepth 20000 in
theorem gX7_setCharge_X7_of : GoodIn wsX7_setCharge (va_wsS RX7 48 yX7_of wsX7_of) := goodIn_app (goodIn_of _ (by decide +kernel)) ggX7_setCharge_X7_of
set_option maxRecDepth 20000 in
theorem ggX7_setCharge_X7_records : GoodIn wsX7_setCharge wsX7_records := goodIn_r _ [16, 17, 18, 1, 19, 20, 5, 21, 22, 23, 24, 25, 26, 27, 28, 29, 30, 31, 32, 33] (by decide +kernel) (by decide +kernel)
set_option maxRecDepth 20000 in
theorem gX7_setCharge_X7_records : GoodIn wsX7_setCharge (wsV RX7 41 RX7 yX7_records wsX7_records) := goodIn_app (goodIn_of _ (by decide +kernel)) ggX7_setCharge_X7_records
theorem dX7_setCharge_0 : decode cX7_setCharge 0 = .ok (.aload_n 0, 1) := by decide +kernel
theorem dX7_setCharge_1 : decode cX7_setCharge 1 = .ok (.iload_n 1, 1) := by decide +kernel
theorem dX7_setCharge_2 : decode cX7_setCharge 2 = .ok (.invokevirtual 107, 3) := by decide +kernel
theorem dX7_setCharge_5 : decode cX7_setCharge 5 = .ok (.ifCond .ne 5, 3) := by decide +kernel
theorem dX7_setCharge_8 : decode cX7_setCharge 8 = .ok (.iconst (-1), 1) := by decide +kernel
theorem dX7_setCharge_9 : decode cX7_setCharge 9 = .ok (.ireturn, 1) := by decide +kernel
theorem dX7_setCharge_10 : decode cX7_setCharge 10 = .ok (.iload_n 2, 1) := by decide +kernel
theorem dX7_setCharge_11 : decode cX7_setCharge 11 = .ok (.iconst 0, 1) := by decide +kernel
theorem dX7_setCharge_12 : decode cX7_setCharge 12 = .ok (.aload_n 0, 1) := by decide +kernel
theorem dX7_setCharge_13 : decode cX7_setCharge 13 = .ok (.getfield 7, 3) := by decide +kernel
theorem dX7_setCharge_16 : decode cX7_setCharge 16 = .ok (.bipush 42, 2) := by decide +kernel
theorem dX7_setCharge_18 : decode cX7_setCharge 18 = .ok (.iaload, 1) := by decide +kernel
theorem dX7_setCharge_19 : decode cX7_setCharge 19 = .ok (.invokestatic 44, 3) := by decide +kernel
theorem dX7_setCharge_22 : decode cX7_setCharge 22 = .ok (.ifCond .ne 6, 3) := by decide +kernel
theorem dX7_setCharge_25 : decode cX7_setCharge 25 = .ok (.bipush (-2), 2) := by decide +kernel
theorem dX7_setCharge_27 : decode cX7_setCharge 27 = .ok (.ireturn, 1) := by decide +kernel
theorem dX7_setCharge_28 : decode cX7_setCharge 28 = .ok (.aload_n 0, 1) := by decide +kernel
theorem dX7_setCharge_29 : decode cX7_setCharge 29 = .ok (.getfield 7, 3) := by decide +kernel
theorem dX7_setCharge_32 : decode cX7_setCharge 32 = .ok (.iload_n 1, 1) := by decide +kernel
theorem dX7_setCharge_33 : decode cX7_setCharge 33 = .ok (.iconst 0, 1) := by decide +kernel
theorem dX7_setCharge_34 : decode cX7_setCharge 34 = .ok (.invokestatic 48, 3) := by decide +kernel
theorem dX7_setCharge_37 : decode cX7_setCharge 37 = .ok (.istore_n 3, 1) := by decide +kernel
theorem dX7_setCharge_38 : decode cX7_setCharge 38 = .ok (.iload_n 3, 1) := by decide +kernel
theorem dX7_setCharge_39 : decode cX7_setCharge 39 = .ok (.iload_n 2, 1) := by decide +kernel
theorem dX7_setCharge_40 : decode cX7_setCharge 40 = .ok (.if_icmp .ne 18, 3) := by decide +kernel
theorem dX7_setCharge_43 : decode cX7_setCharge 43 = .ok (.aload_n 0, 1) := by decide +kernel
theorem dX7_setCharge_44 : decode cX7_setCharge 44 = .ok (.getfield 7, 3) := by decide +kernel
theorem dX7_setCharge_47 : decode cX7_setCharge 47 = .ok (.iload_n 1, 1) := by decide +kernel
theorem dX7_setCharge_48 : decode cX7_setCharge 48 = .ok (.iconst 1, 1) := by decide +kernel
theorem dX7_setCharge_49 : decode cX7_setCharge 49 = .ok (.invokestatic 48, 3) := by decide +kernel
theorem dX7_setCharge_52 : decode cX7_setCharge 52 = .ok (.ifCond .ne 6, 3) := by decide +kernel
theorem dX7_setCharge_55 : decode cX7_setCharge 55 = .ok (.bipush (-5), 2) := by decide +kernel
theorem dX7_setCharge_57 : decode cX7_setCharge 57 = .ok (.ireturn, 1) := by decide +kernel
theorem dX7_setCharge_58 : decode cX7_setCharge 58 = .ok (.aload_n 0, 1) := by decide +kernel
theorem dX7_setCharge_59 : decode cX7_setCharge 59 = .ok (.invokevirtual 41, 3) := by decide +kernel
theorem dX7_setCharge_62 : decode cX7_setCharge 62 = .ok (.aload_n 0, 1) := by decide +kernel
theorem dX7_setCharge_63 : decode cX7_setCharge 63 = .ok (.getfield 7, 3) := by decide +kernel
theorem dX7_setCharge_66 : decode cX7_setCharge 66 = .ok (.bipush 7, 2) := by decide +kernel
theorem dX7_setCharge_68 : decode cX7_setCharge 68 = .ok (.iload_n 1, 1) := by decide +kernel
theorem dX7_setCharge_69 : decode cX7_setCharge 69 = .ok (.imul, 1) := by decide +kernel
theorem dX7_setCharge_70 : decode cX7_setCharge 70 = .ok (.iconst 0, 1) := by decide +kernel
theorem dX7_setCharge_71 : decode cX7_setCharge 71 = .ok (.iadd, 1) := by decide +kernel
theorem dX7_setCharge_72 : decode cX7_setCharge 72 = .ok (.iload_n 2, 1) := by decide +kernel
theorem dX7_setCharge_73 : decode cX7_setCharge 73 = .ok (.iastore, 1) := by decide +kernel
theorem dX7_setCharge_74 : decode cX7_setCharge 74 = .ok (.aload_n 0, 1) := by decide +kernel
theorem dX7_setCharge_75 : decode cX7_setCharge 75 = .ok (.getfield 7, 3) := by decide +kernel
theorem dX7_setCharge_78 : decode cX7_setCharge 78 = .ok (.bipush 7, 2) := by decide +kernel
theorem dX7_setCharge_80 : decode cX7_setCharge 80 = .ok (.iload_n 1, 1) := by decide +kernel
theorem dX7_setCharge_81 : decode cX7_setCharge 81 = .ok (.imul, 1) := by decide +kernel
theorem dX7_setCharge_82 : decode cX7_setCharge 82 = .ok (.iconst 1, 1) := by decide +kernel
theorem dX7_setCharge_83 : decode cX7_setCharge 83 = .ok (.iadd, 1) := by decide +kernel
theorem dX7_setCharge_84 : decode cX7_setCharge 84 = .ok (.iconst 0, 1) := by decide +kernel
theorem dX7_setCharge_85 : decode cX7_setCharge 85 = .ok (.iastore, 1) := by decide +kernel
theorem dX7_setCharge_86 : decode cX7_setCharge 86 = .ok (.iload_n 3, 1) := by decide +kernel
theorem dX7_setCharge_87 : decode cX7_setCharge 87 = .ok (.ireturn, 1) := by decide +kernel
set_option maxRecDepth 20000 in
theorem ggX7_use_X7_in : GoodIn wsX7_use wsX7_in := goodIn_r _ [5] (by decide +kernel) (by decide +kernel)
set_option maxRecDepth 20000 in
theorem gX7_use_X7_in : GoodIn wsX7_use (va_wsS RX7 44 yX7_in wsX7_in) := goodIn_app (goodIn_of _ (by decide +kernel)) ggX7_use_X7_in
set_option maxRecDepth 20000 in
theorem ggX7_use_X7_charged : GoodIn wsX7_use wsX7_charged := goodIn_r _ [8, 9, 10, 4, 11] (by decide +kernel) (by decide +kernel)
set_option maxRecDepth 20000 in
theorem gX7_use_X7_charged : GoodIn wsX7_use (va_wsS RX7 111 yX7_charged wsX7_charged) := goodIn_app (goodIn_of _ (by decide +kernel)) ggX7_use_X7_charged
set_option maxRecDepth 20000 in
theorem ggX7_use_X7_records : GoodIn wsX7_use wsX7_records := goodIn_r _ [15, 16, 17, 1, 18, 19, 4, 20, 21, 22, 23, 24, 25, 26, 27, 28, 29, 30, 31, 32] (by decide +kernel) (by decide +kernel)
set_option maxRecDepth 20000 in
theorem gX7_use_X7_records : GoodIn wsX7_use (wsV RX7 41 RX7 yX7_records wsX7_records) := goodIn_app (goodIn_of _ (by decide +kernel)) ggX7_use_X7_records
theorem dX7_use_0 : decode cX7_use 0 = .ok (.iload_n 1, 1) := by decide +kernel
theorem dX7_use_1 : decode cX7_use 1 = .ok (.iconst 1, 1) := by decide +kernel
theorem dX7_use_2 : decode cX7_use 2 = .ok (.sipush 5000, 3) := by decide +kernel
theorem dX7_use_5 : decode cX7_use 5 = .ok (.invokestatic 44, 3) := by decide +kernel
theorem dX7_use_8 : decode cX7_use 8 = .ok (.ifCond .ne 6, 3) := by decide +kernel
theorem dX7_use_11 : decode cX7_use 11 = .ok (.bipush (-2), 2) := by decide +kernel
theorem dX7_use_13 : decode cX7_use 13 = .ok (.ireturn, 1) := by decide +kernel
theorem dX7_use_14 : decode cX7_use 14 = .ok (.aload_n 0, 1) := by decide +kernel
theorem dX7_use_15 : decode cX7_use 15 = .ok (.getfield 7, 3) := by decide +kernel
theorem dX7_use_18 : decode cX7_use 18 = .ok (.bipush 73, 2) := by decide +kernel
theorem dX7_use_20 : decode cX7_use 20 = .ok (.iaload, 1) := by decide +kernel
theorem dX7_use_21 : decode cX7_use 21 = .ok (.iconst 1, 1) := by decide +kernel
theorem dX7_use_22 : decode cX7_use 22 = .ok (.if_icmp .eq 15, 3) := by decide +kernel
theorem dX7_use_25 : decode cX7_use 25 = .ok (.aload_n 0, 1) := by decide +kernel
theorem dX7_use_26 : decode cX7_use 26 = .ok (.getfield 7, 3) := by decide +kernel
theorem dX7_use_29 : decode cX7_use 29 = .ok (.iconst 0, 1) := by decide +kernel
theorem dX7_use_30 : decode cX7_use 30 = .ok (.invokestatic 111, 3) := by decide +kernel
theorem dX7_use_33 : decode cX7_use 33 = .ok (.iload_n 1, 1) := by decide +kernel
theorem dX7_use_34 : decode cX7_use 34 = .ok (.if_icmp .ge 6, 3) := by decide +kernel
theorem dX7_use_37 : decode cX7_use 37 = .ok (.bipush (-4), 2) := by decide +kernel
theorem dX7_use_39 : decode cX7_use 39 = .ok (.ireturn, 1) := by decide +kernel
theorem dX7_use_40 : decode cX7_use 40 = .ok (.aload_n 0, 1) := by decide +kernel
theorem dX7_use_41 : decode cX7_use 41 = .ok (.invokevirtual 41, 3) := by decide +kernel
theorem dX7_use_44 : decode cX7_use 44 = .ok (.iconst 0, 1) := by decide +kernel
theorem dX7_use_45 : decode cX7_use 45 = .ok (.istore_n 2, 1) := by decide +kernel
theorem dX7_use_46 : decode cX7_use 46 = .ok (.iload_n 2, 1) := by decide +kernel
theorem dX7_use_47 : decode cX7_use 47 = .ok (.aload_n 0, 1) := by decide +kernel
theorem dX7_use_48 : decode cX7_use 48 = .ok (.getfield 7, 3) := by decide +kernel
theorem dX7_use_51 : decode cX7_use 51 = .ok (.bipush 71, 2) := by decide +kernel
theorem dX7_use_53 : decode cX7_use 53 = .ok (.iaload, 1) := by decide +kernel
theorem dX7_use_54 : decode cX7_use 54 = .ok (.if_icmp .ge 40, 3) := by decide +kernel
theorem dX7_use_57 : decode cX7_use 57 = .ok (.aload_n 0, 1) := by decide +kernel
theorem dX7_use_58 : decode cX7_use 58 = .ok (.getfield 7, 3) := by decide +kernel
theorem dX7_use_61 : decode cX7_use 61 = .ok (.bipush 7, 2) := by decide +kernel
theorem dX7_use_63 : decode cX7_use 63 = .ok (.iload_n 2, 1) := by decide +kernel
theorem dX7_use_64 : decode cX7_use 64 = .ok (.imul, 1) := by decide +kernel
theorem dX7_use_65 : decode cX7_use 65 = .ok (.iconst 0, 1) := by decide +kernel
theorem dX7_use_66 : decode cX7_use 66 = .ok (.iadd, 1) := by decide +kernel
theorem dX7_use_67 : decode cX7_use 67 = .ok (.dup2, 1) := by decide +kernel
theorem dX7_use_68 : decode cX7_use 68 = .ok (.iaload, 1) := by decide +kernel
theorem dX7_use_69 : decode cX7_use 69 = .ok (.iload_n 1, 1) := by decide +kernel
theorem dX7_use_70 : decode cX7_use 70 = .ok (.isub, 1) := by decide +kernel
theorem dX7_use_71 : decode cX7_use 71 = .ok (.iastore, 1) := by decide +kernel
theorem dX7_use_72 : decode cX7_use 72 = .ok (.aload_n 0, 1) := by decide +kernel
theorem dX7_use_73 : decode cX7_use 73 = .ok (.getfield 7, 3) := by decide +kernel
theorem dX7_use_76 : decode cX7_use 76 = .ok (.bipush 7, 2) := by decide +kernel
theorem dX7_use_78 : decode cX7_use 78 = .ok (.iload_n 2, 1) := by decide +kernel
theorem dX7_use_79 : decode cX7_use 79 = .ok (.imul, 1) := by decide +kernel
theorem dX7_use_80 : decode cX7_use 80 = .ok (.bipush 6, 2) := by decide +kernel
theorem dX7_use_82 : decode cX7_use 82 = .ok (.iadd, 1) := by decide +kernel
theorem dX7_use_83 : decode cX7_use 83 = .ok (.dup2, 1) := by decide +kernel
theorem dX7_use_84 : decode cX7_use 84 = .ok (.iaload, 1) := by decide +kernel
theorem dX7_use_85 : decode cX7_use 85 = .ok (.iload_n 1, 1) := by decide +kernel
theorem dX7_use_86 : decode cX7_use 86 = .ok (.iadd, 1) := by decide +kernel
theorem dX7_use_87 : decode cX7_use 87 = .ok (.iastore, 1) := by decide +kernel
theorem dX7_use_88 : decode cX7_use 88 = .ok (.iinc 2 1, 3) := by decide +kernel
theorem dX7_use_91 : decode cX7_use 91 = .ok (.goto (-45), 3) := by decide +kernel
theorem dX7_use_94 : decode cX7_use 94 = .ok (.aload_n 0, 1) := by decide +kernel
theorem dX7_use_95 : decode cX7_use 95 = .ok (.getfield 7, 3) := by decide +kernel
theorem dX7_use_98 : decode cX7_use 98 = .ok (.iconst 0, 1) := by decide +kernel
theorem dX7_use_99 : decode cX7_use 99 = .ok (.invokestatic 111, 3) := by decide +kernel
theorem dX7_use_102 : decode cX7_use 102 = .ok (.ireturn, 1) := by decide +kernel
set_option maxRecDepth 20000 in
theorem ggX7_isInRange_X7_in : GoodIn wsX7_isInRange wsX7_in := goodIn_r _ [4] (by decide +kernel) (by decide +kernel)
set_option maxRecDepth 20000 in
theorem gX7_isInRange_X7_in : GoodIn wsX7_isInRange (va_wsS RX7 44 yX7_in wsX7_in) := goodIn_app (goodIn_of _ (by decide +kernel)) ggX7_isInRange_X7_in
theorem dX7_isInRange_0 : decode cX7_isInRange 0 = .ok (.iload_n 0, 1) := by decide +kernel
theorem dX7_isInRange_1 : decode cX7_isInRange 1 = .ok (.tableswitch 101 0 7 #[47, 57, 66, 75, 84, 75, 75, 92], 47) := by decide +kernel
theorem dX7_isInRange_48 : decode cX7_isInRange 48 = .ok (.iload_n 1, 1) := by decide +kernel
theorem dX7_isInRange_49 : decode cX7_isInRange 49 = .ok (.bipush 100, 2) := by decide +kernel
theorem dX7_isInRange_51 : decode cX7_isInRange 51 = .ok (.sipush 5000, 3) := by decide +kernel
theorem dX7_isInRange_54 : decode cX7_isInRange 54 = .ok (.invokestatic 44, 3) := by decide +kernel
theorem dX7_isInRange_57 : decode cX7_isInRange 57 = .ok (.ireturn, 1) := by decide +kernel
theorem dX7_isInRange_58 : decode cX7_isInRange 58 = .ok (.iload_n 1, 1) := by decide +kernel
theorem dX7_isInRange_59 : decode cX7_isInRange 59 = .ok (.iconst 0, 1) := by decide +kernel
theorem dX7_isInRange_60 : decode cX7_isInRange 60 = .ok (.sipush 200, 3) := by decide +kernel
theorem dX7_isInRange_63 : decode cX7_isInRange 63 = .ok (.invokestatic 44, 3) := by decide +kernel
theorem dX7_isInRange_66 : decode cX7_isInRange 66 = .ok (.ireturn, 1) := by decide +kernel
theorem dX7_isInRange_67 : decode cX7_isInRange 67 = .ok (.iload_n 1, 1) := by decide +kernel
theorem dX7_isInRange_68 : decode cX7_isInRange 68 = .ok (.bipush 50, 2) := by decide +kernel
theorem dX7_isInRange_70 : decode cX7_isInRange 70 = .ok (.bipush 100, 2) := by decide +kernel
theorem dX7_isInRange_72 : decode cX7_isInRange 72 = .ok (.invokestatic 44, 3) := by decide +kernel
theorem dX7_isInRange_75 : decode cX7_isInRange 75 = .ok (.ireturn, 1) := by decide +kernel
theorem dX7_isInRange_76 : decode cX7_isInRange 76 = .ok (.iload_n 1, 1) := by decide +kernel
theorem dX7_isInRange_77 : decode cX7_isInRange 77 = .ok (.bipush (-30), 2) := by decide +kernel
theorem dX7_isInRange_79 : decode cX7_isInRange 79 = .ok (.bipush 80, 2) := by decide +kernel
theorem dX7_isInRange_81 : decode cX7_isInRange 81 = .ok (.invokestatic 44, 3) := by decide +kernel
theorem dX7_isInRange_84 : decode cX7_isInRange 84 = .ok (.ireturn, 1) := by decide +kernel
theorem dX7_isInRange_85 : decode cX7_isInRange 85 = .ok (.iload_n 1, 1) := by decide +kernel
theorem dX7_isInRange_86 : decode cX7_isInRange 86 = .ok (.iconst 0, 1) := by decide +kernel
theorem dX7_isInRange_87 : decode cX7_isInRange 87 = .ok (.bipush 10, 2) := by decide +kernel
theorem dX7_isInRange_89 : decode cX7_isInRange 89 = .ok (.invokestatic 44, 3) := by decide +kernel
theorem dX7_isInRange_92 : decode cX7_isInRange 92 = .ok (.ireturn, 1) := by decide +kernel
theorem dX7_isInRange_93 : decode cX7_isInRange 93 = .ok (.iload_n 1, 1) := by decide +kernel
theorem dX7_isInRange_94 : decode cX7_isInRange 94 = .ok (.iconst 0, 1) := by decide +kernel
theorem dX7_isInRange_95 : decode cX7_isInRange 95 = .ok (.sipush 500, 3) := by decide +kernel
theorem dX7_isInRange_98 : decode cX7_isInRange 98 = .ok (.invokestatic 44, 3) := by decide +kernel
theorem dX7_isInRange_101 : decode cX7_isInRange 101 = .ok (.ireturn, 1) := by decide +kernel
theorem dX7_isInRange_102 : decode cX7_isInRange 102 = .ok (.iload_n 1, 1) := by decide +kernel
theorem dX7_isInRange_103 : decode cX7_isInRange 103 = .ok (.iconst 0, 1) := by decide +kernel
theorem dX7_isInRange_104 : decode cX7_isInRange 104 = .ok (.bipush 50, 2) := by decide +kernel
theorem dX7_isInRange_106 : decode cX7_isInRange 106 = .ok (.invokestatic 44, 3) := by decide +kernel
theorem dX7_isInRange_109 : decode cX7_isInRange 109 = .ok (.ireturn, 1) := by decide +kernel
set_option maxRecDepth 20000 in
theorem ggX7_cannotBe_X7_charged : GoodIn wsX7_cannotBe wsX7_charged := goodIn_r _ [5, 6, 7, 4, 8] (by decide +kernel) (by decide +kernel)
set_option maxRecDepth 20000 in
theorem gX7_cannotBe_X7_charged : GoodIn wsX7_cannotBe (va_wsS RX7 111 yX7_charged wsX7_charged) := goodIn_app (goodIn_of _ (by decide +kernel)) ggX7_cannotBe_X7_charged
theorem dX7_cannotBe_0 : decode cX7_cannotBe 0 = .ok (.iload_n 1, 1) := by decide +kernel
theorem dX7_cannotBe_1 : decode cX7_cannotBe 1 = .ok (.ifCond .ne 15, 3) := by decide +kernel
theorem dX7_cannotBe_4 : decode cX7_cannotBe 4 = .ok (.aload_n 0, 1) := by decide +kernel
theorem dX7_cannotBe_5 : decode cX7_cannotBe 5 = .ok (.getfield 7, 3) := by decide +kernel
theorem dX7_cannotBe_8 : decode cX7_cannotBe 8 = .ok (.iconst 1, 1) := by decide +kernel
theorem dX7_cannotBe_9 : decode cX7_cannotBe 9 = .ok (.invokestatic 111, 3) := by decide +kernel
theorem dX7_cannotBe_12 : decode cX7_cannotBe 12 = .ok (.iload_n 2, 1) := by decide +kernel
theorem dX7_cannotBe_13 : decode cX7_cannotBe 13 = .ok (.if_icmp .gt 36, 3) := by decide +kernel
theorem dX7_cannotBe_16 : decode cX7_cannotBe 16 = .ok (.iload_n 1, 1) := by decide +kernel
theorem dX7_cannotBe_17 : decode cX7_cannotBe 17 = .ok (.iconst 5, 1) := by decide +kernel
theorem dX7_cannotBe_18 : decode cX7_cannotBe 18 = .ok (.if_icmp .ne 14, 3) := by decide +kernel
theorem dX7_cannotBe_21 : decode cX7_cannotBe 21 = .ok (.iload_n 2, 1) := by decide +kernel
theorem dX7_cannotBe_22 : decode cX7_cannotBe 22 = .ok (.aload_n 0, 1) := by decide +kernel
theorem dX7_cannotBe_23 : decode cX7_cannotBe 23 = .ok (.getfield 7, 3) := by decide +kernel
theorem dX7_cannotBe_26 : decode cX7_cannotBe 26 = .ok (.bipush 48, 2) := by decide +kernel
theorem dX7_cannotBe_28 : decode cX7_cannotBe 28 = .ok (.iaload, 1) := by decide +kernel
theorem dX7_cannotBe_29 : decode cX7_cannotBe 29 = .ok (.if_icmp .gt 20, 3) := by decide +kernel
theorem dX7_cannotBe_32 : decode cX7_cannotBe 32 = .ok (.iload_n 1, 1) := by decide +kernel
theorem dX7_cannotBe_33 : decode cX7_cannotBe 33 = .ok (.bipush 6, 2) := by decide +kernel
theorem dX7_cannotBe_35 : decode cX7_cannotBe 35 = .ok (.if_icmp .ne 18, 3) := by decide +kernel
theorem dX7_cannotBe_38 : decode cX7_cannotBe 38 = .ok (.iload_n 2, 1) := by decide +kernel
theorem dX7_cannotBe_39 : decode cX7_cannotBe 39 = .ok (.aload_n 0, 1) := by decide +kernel
theorem dX7_cannotBe_40 : decode cX7_cannotBe 40 = .ok (.getfield 7, 3) := by decide +kernel
theorem dX7_cannotBe_43 : decode cX7_cannotBe 43 = .ok (.bipush 47, 2) := by decide +kernel
theorem dX7_cannotBe_45 : decode cX7_cannotBe 45 = .ok (.iaload, 1) := by decide +kernel
theorem dX7_cannotBe_46 : decode cX7_cannotBe 46 = .ok (.if_icmp .ge 7, 3) := by decide +kernel
theorem dX7_cannotBe_49 : decode cX7_cannotBe 49 = .ok (.iconst 1, 1) := by decide +kernel
theorem dX7_cannotBe_50 : decode cX7_cannotBe 50 = .ok (.goto 4, 3) := by decide +kernel
theorem dX7_cannotBe_53 : decode cX7_cannotBe 53 = .ok (.iconst 0, 1) := by decide +kernel
theorem dX7_cannotBe_54 : decode cX7_cannotBe 54 = .ok (.ireturn, 1) := by decide +kernel
set_option maxRecDepth 20000 in
theorem ggX7_set_X7_in : GoodIn wsX7_set wsX7_in := goodIn_r _ [5] (by decide +kernel) (by decide +kernel)
set_option maxRecDepth 20000 in
theorem gX7_set_X7_in : GoodIn wsX7_set (va_wsS RX7 44 yX7_in wsX7_in) := goodIn_app (goodIn_of _ (by decide +kernel)) ggX7_set_X7_in
set_option maxRecDepth 20000 in
theorem ggX7_set_X7_isInRange : GoodIn wsX7_set wsX7_isInRange := goodIn_r _ [8, 2, 3, 4, 5] (by decide +kernel) (by decide +kernel)
set_option maxRecDepth 20000 in
theorem gX7_set_X7_isInRange : GoodIn wsX7_set (va_wsS RX7 115 yX7_isInRange wsX7_isInRange) := goodIn_app (goodIn_of _ (by decide +kernel)) ggX7_set_X7_isInRange
set_option maxRecDepth 20000 in
theorem ggX7_set_X7_cannotBe : GoodIn wsX7_set wsX7_cannotBe := goodIn_r _ [12, 1, 13, 14, 4, 15, 16, 17, 18, 28, 29, 30, 31, 32, 33, 34, 35, 36, 37, 38, 39] (by decide +kernel) (by decide +kernel)
set_option maxRecDepth 20000 in
theorem gX7_set_X7_cannotBe : GoodIn wsX7_set (wsV RX7 119 RX7 yX7_cannotBe wsX7_cannotBe) := goodIn_app (goodIn_of _ (by decide +kernel)) ggX7_set_X7_cannotBe
set_option maxRecDepth 20000 in
theorem ggX7_set_X7_records : GoodIn wsX7_set wsX7_records := goodIn_r _ [22, 23, 24, 1, 25, 26, 4, 27, 28, 29, 30, 31, 32, 33, 34, 35, 36, 37, 38, 39] (by decide +kernel) (by decide +kernel)
set_option maxRecDepth 20000 in
theorem gX7_set_X7_records : GoodIn wsX7_set (wsV RX7 41 RX7 yX7_records wsX7_records) := goodIn_app (goodIn_of _ (by decide +kernel)) ggX7_set_X7_records
theorem dX7_set_0 : decode cX7_set 0 = .ok (.iload_n 1, 1) := by decide +kernel
theorem dX7_set_1 : decode cX7_set 1 = .ok (.iconst 0, 1) := by decide +kernel
theorem dX7_set_2 : decode cX7_set 2 = .ok (.bipush 8, 2) := by decide +kernel
theorem dX7_set_4 : decode cX7_set 4 = .ok (.invokestatic 44, 3) := by decide +kernel
theorem dX7_set_7 : decode cX7_set 7 = .ok (.ifCond .ne 5, 3) := by decide +kernel
theorem dX7_set_10 : decode cX7_set 10 = .ok (.iconst (-1), 1) := by decide +kernel
theorem dX7_set_11 : decode cX7_set 11 = .ok (.ireturn, 1) := by decide +kernel
theorem dX7_set_12 : decode cX7_set 12 = .ok (.iload_n 1, 1) := by decide +kernel
theorem dX7_set_13 : decode cX7_set 13 = .ok (.iload_n 2, 1) := by decide +kernel
theorem dX7_set_14 : decode cX7_set 14 = .ok (.invokestatic 115, 3) := by decide +kernel
theorem dX7_set_17 : decode cX7_set 17 = .ok (.ifCond .ne 6, 3) := by decide +kernel
theorem dX7_set_20 : decode cX7_set 20 = .ok (.bipush (-2), 2) := by decide +kernel
theorem dX7_set_22 : decode cX7_set 22 = .ok (.ireturn, 1) := by decide +kernel
theorem dX7_set_23 : decode cX7_set 23 = .ok (.aload_n 0, 1) := by decide +kernel
theorem dX7_set_24 : decode cX7_set 24 = .ok (.iload_n 1, 1) := by decide +kernel
theorem dX7_set_25 : decode cX7_set 25 = .ok (.iload_n 2, 1) := by decide +kernel
theorem dX7_set_26 : decode cX7_set 26 = .ok (.invokevirtual 119, 3) := by decide +kernel
theorem dX7_set_29 : decode cX7_set 29 = .ok (.ifCond .eq 6, 3) := by decide +kernel
theorem dX7_set_32 : decode cX7_set 32 = .ok (.bipush (-4), 2) := by decide +kernel
theorem dX7_set_34 : decode cX7_set 34 = .ok (.ireturn, 1) := by decide +kernel
theorem dX7_set_35 : decode cX7_set 35 = .ok (.aload_n 0, 1) := by decide +kernel
theorem dX7_set_36 : decode cX7_set 36 = .ok (.getfield 7, 3) := by decide +kernel
theorem dX7_set_39 : decode cX7_set 39 = .ok (.bipush 42, 2) := by decide +kernel
theorem dX7_set_41 : decode cX7_set 41 = .ok (.iload_n 1, 1) := by decide +kernel
theorem dX7_set_42 : decode cX7_set 42 = .ok (.iadd, 1) := by decide +kernel
theorem dX7_set_43 : decode cX7_set 43 = .ok (.iaload, 1) := by decide +kernel
theorem dX7_set_44 : decode cX7_set 44 = .ok (.istore_n 3, 1) := by decide +kernel
theorem dX7_set_45 : decode cX7_set 45 = .ok (.iload_n 3, 1) := by decide +kernel
theorem dX7_set_46 : decode cX7_set 46 = .ok (.iload_n 2, 1) := by decide +kernel
theorem dX7_set_47 : decode cX7_set 47 = .ok (.if_icmp .ne 6, 3) := by decide +kernel
theorem dX7_set_50 : decode cX7_set 50 = .ok (.bipush (-5), 2) := by decide +kernel
theorem dX7_set_52 : decode cX7_set 52 = .ok (.ireturn, 1) := by decide +kernel
theorem dX7_set_53 : decode cX7_set 53 = .ok (.aload_n 0, 1) := by decide +kernel
theorem dX7_set_54 : decode cX7_set 54 = .ok (.invokevirtual 41, 3) := by decide +kernel
theorem dX7_set_57 : decode cX7_set 57 = .ok (.aload_n 0, 1) := by decide +kernel
theorem dX7_set_58 : decode cX7_set 58 = .ok (.getfield 7, 3) := by decide +kernel
theorem dX7_set_61 : decode cX7_set 61 = .ok (.bipush 42, 2) := by decide +kernel
theorem dX7_set_63 : decode cX7_set 63 = .ok (.iload_n 1, 1) := by decide +kernel
theorem dX7_set_64 : decode cX7_set 64 = .ok (.iadd, 1) := by decide +kernel
theorem dX7_set_65 : decode cX7_set 65 = .ok (.iload_n 2, 1) := by decide +kernel
theorem dX7_set_66 : decode cX7_set 66 = .ok (.iastore, 1) := by decide +kernel
theorem dX7_set_67 : decode cX7_set 67 = .ok (.iload_n 3, 1) := by decide +kernel
theorem dX7_set_68 : decode cX7_set 68 = .ok (.sipush 1000, 3) := by decide +kernel
theorem dX7_set_71 : decode cX7_set 71 = .ok (.iadd, 1) := by decide +kernel
theorem dX7_set_72 : decode cX7_set 72 = .ok (.ireturn, 1) := by decide +kernel
set_option maxRecDepth 20000 in
theorem ggX7_start_X7_records : GoodIn wsX7_start wsX7_records := goodIn_r _ [6, 7, 8, 1, 9, 10, 5, 11, 15, 16, 17, 18, 19, 20, 21, 22, 23, 24, 25, 26] (by decide +kernel) (by decide +kernel)
set_option maxRecDepth 20000 in
theorem gX7_start_X7_records : GoodIn wsX7_start (wsV RX7 41 RX7 yX7_records wsX7_records) := goodIn_app (goodIn_of _ (by decide +kernel)) ggX7_start_X7_records
set_option maxRecDepth 20000 in
theorem ggX7_start_X7_logs : GoodIn wsX7_start wsX7_logs := goodIn_r _ [14] (by decide +kernel) (by decide +kernel)
set_option maxRecDepth 20000 in
theorem gX7_start_X7_logs : GoodIn wsX7_start (va_wsS RX7 72 yX7_logs wsX7_logs) := goodIn_app (goodIn_of _ (by decide +kernel)) ggX7_start_X7_logs
theorem dX7_start_0 : decode cX7_start 0 = .ok (.aload_n 0, 1) := by decide +kernel
theorem dX7_start_1 : decode cX7_start 1 = .ok (.getfield 7, 3) := by decide +kernel
theorem dX7_start_4 : decode cX7_start 4 = .ok (.bipush 73, 2) := by decide +kernel
theorem dX7_start_6 : decode cX7_start 6 = .ok (.iaload, 1) := by decide +kernel
theorem dX7_start_7 : decode cX7_start 7 = .ok (.iconst 1, 1) := by decide +kernel
theorem dX7_start_8 : decode cX7_start 8 = .ok (.if_icmp .eq 13, 3) := by decide +kernel
theorem dX7_start_11 : decode cX7_start 11 = .ok (.aload_n 0, 1) := by decide +kernel
theorem dX7_start_12 : decode cX7_start 12 = .ok (.getfield 7, 3) := by decide +kernel
theorem dX7_start_15 : decode cX7_start 15 = .ok (.bipush 72, 2) := by decide +kernel
theorem dX7_start_17 : decode cX7_start 17 = .ok (.iaload, 1) := by decide +kernel
theorem dX7_start_18 : decode cX7_start 18 = .ok (.ifCond .ne 6, 3) := by decide +kernel
theorem dX7_start_21 : decode cX7_start 21 = .ok (.bipush (-4), 2) := by decide +kernel
theorem dX7_start_23 : decode cX7_start 23 = .ok (.ireturn, 1) := by decide +kernel
theorem dX7_start_24 : decode cX7_start 24 = .ok (.aload_n 0, 1) := by decide +kernel
theorem dX7_start_25 : decode cX7_start 25 = .ok (.invokevirtual 41, 3) := by decide +kernel
theorem dX7_start_28 : decode cX7_start 28 = .ok (.aload_n 0, 1) := by decide +kernel
theorem dX7_start_29 : decode cX7_start 29 = .ok (.getfield 7, 3) := by decide +kernel
theorem dX7_start_32 : decode cX7_start 32 = .ok (.bipush 73, 2) := by decide +kernel
theorem dX7_start_34 : decode cX7_start 34 = .ok (.iaload, 1) := by decide +kernel
theorem dX7_start_35 : decode cX7_start 35 = .ok (.istore_n 1, 1) := by decide +kernel
theorem dX7_start_36 : decode cX7_start 36 = .ok (.aload_n 0, 1) := by decide +kernel
theorem dX7_start_37 : decode cX7_start 37 = .ok (.getfield 7, 3) := by decide +kernel
theorem dX7_start_40 : decode cX7_start 40 = .ok (.bipush 73, 2) := by decide +kernel
theorem dX7_start_42 : decode cX7_start 42 = .ok (.iconst 1, 1) := by decide +kernel
theorem dX7_start_43 : decode cX7_start 43 = .ok (.iastore, 1) := by decide +kernel
theorem dX7_start_44 : decode cX7_start 44 = .ok (.aload_n 0, 1) := by decide +kernel
theorem dX7_start_45 : decode cX7_start 45 = .ok (.getfield 7, 3) := by decide +kernel
theorem dX7_start_48 : decode cX7_start 48 = .ok (.bipush 74, 2) := by decide +kernel
theorem dX7_start_50 : decode cX7_start 50 = .ok (.iconst 0, 1) := by decide +kernel
theorem dX7_start_51 : decode cX7_start 51 = .ok (.iastore, 1) := by decide +kernel
theorem dX7_start_52 : decode cX7_start 52 = .ok (.aload_n 0, 1) := by decide +kernel
theorem dX7_start_53 : decode cX7_start 53 = .ok (.getfield 7, 3) := by decide +kernel
theorem dX7_start_56 : decode cX7_start 56 = .ok (.bipush 75, 2) := by decide +kernel
theorem dX7_start_58 : decode cX7_start 58 = .ok (.iconst 0, 1) := by decide +kernel
theorem dX7_start_59 : decode cX7_start 59 = .ok (.iastore, 1) := by decide +kernel
theorem dX7_start_60 : decode cX7_start 60 = .ok (.aload_n 0, 1) := by decide +kernel
theorem dX7_start_61 : decode cX7_start 61 = .ok (.getfield 7, 3) := by decide +kernel
theorem dX7_start_64 : decode cX7_start 64 = .ok (.bipush 80, 2) := by decide +kernel
theorem dX7_start_66 : decode cX7_start 66 = .ok (.iconst 0, 1) := by decide +kernel
theorem dX7_start_67 : decode cX7_start 67 = .ok (.iastore, 1) := by decide +kernel
theorem dX7_start_68 : decode cX7_start 68 = .ok (.aload_n 0, 1) := by decide +kernel
theorem dX7_start_69 : decode cX7_start 69 = .ok (.getfield 7, 3) := by decide +kernel
theorem dX7_start_72 : decode cX7_start 72 = .ok (.iconst 0, 1) := by decide +kernel
theorem dX7_start_73 : decode cX7_start 73 = .ok (.invokestatic 72, 3) := by decide +kernel
theorem dX7_start_76 : decode cX7_start 76 = .ok (.iload_n 1, 1) := by decide +kernel
theorem dX7_start_77 : decode cX7_start 77 = .ok (.ireturn, 1) := by decide +kernel
set_option maxRecDepth 20000 in
theorem ggX7_stop_X7_records : GoodIn wsX7_stop wsX7_records := goodIn_r _ [6, 7, 8, 1, 9, 10, 5, 11, 12, 13, 14, 15, 16, 17, 18, 19, 20, 21, 22, 23] (by decide +kernel) (by decide +kernel)
set_option maxRecDepth 20000 in
theorem gX7_stop_X7_records : GoodIn wsX7_stop (wsV RX7 41 RX7 yX7_records wsX7_records) := goodIn_app (goodIn_of _ (by decide +kernel)) ggX7_stop_X7_records
theorem dX7_stop_0 : decode cX7_stop 0 = .ok (.aload_n 0, 1) := by decide +kernel
theorem dX7_stop_1 : decode cX7_stop 1 = .ok (.getfield 7, 3) := by decide +kernel
theorem dX7_stop_4 : decode cX7_stop 4 = .ok (.bipush 73, 2) := by decide +kernel
theorem dX7_stop_6 : decode cX7_stop 6 = .ok (.iaload, 1) := by decide +kernel
theorem dX7_stop_7 : decode cX7_stop 7 = .ok (.istore_n 1, 1) := by decide +kernel
theorem dX7_stop_8 : decode cX7_stop 8 = .ok (.iload_n 1, 1) := by decide +kernel
theorem dX7_stop_9 : decode cX7_stop 9 = .ok (.ifCond .ne 6, 3) := by decide +kernel
theorem dX7_stop_12 : decode cX7_stop 12 = .ok (.bipush (-5), 2) := by decide +kernel
theorem dX7_stop_14 : decode cX7_stop 14 = .ok (.ireturn, 1) := by decide +kernel
theorem dX7_stop_15 : decode cX7_stop 15 = .ok (.aload_n 0, 1) := by decide +kernel
theorem dX7_stop_16 : decode cX7_stop 16 = .ok (.invokevirtual 41, 3) := by decide +kernel
theorem dX7_stop_19 : decode cX7_stop 19 = .ok (.aload_n 0, 1) := by decide +kernel
theorem dX7_stop_20 : decode cX7_stop 20 = .ok (.getfield 7, 3) := by decide +kernel
theorem dX7_stop_23 : decode cX7_stop 23 = .ok (.bipush 73, 2) := by decide +kernel
theorem dX7_stop_25 : decode cX7_stop 25 = .ok (.iconst 0, 1) := by decide +kernel
theorem dX7_stop_26 : decode cX7_stop 26 = .ok (.iastore, 1) := by decide +kernel
theorem dX7_stop_27 : decode cX7_stop 27 = .ok (.iload_n 1, 1) := by decide +kernel
theorem dX7_stop_28 : decode cX7_stop 28 = .ok (.ireturn, 1) := by decide +kernel
set_option maxRecDepth 20000 in
theorem ggX7_pass_X7_in : GoodIn wsX7_pass wsX7_in := goodIn_r _ [6] (by decide +kernel) (by decide +kernel)
set_option maxRecDepth 20000 in
theorem gX7_pass_X7_in : GoodIn wsX7_pass (va_wsS RX7 44 yX7_in wsX7_in) := goodIn_app (goodIn_of _ (by decide +kernel)) ggX7_pass_X7_in
set_option maxRecDepth 20000 in
theorem ggX7_pass_X7_records : GoodIn wsX7_pass wsX7_records := goodIn_r _ [10, 11, 12, 1, 13, 14, 5, 15, 70, 71, 72, 73, 74, 75, 76, 77, 78, 79, 80, 81] (by decide +kernel) (by decide +kernel)
set_option maxRecDepth 20000 in
theorem gX7_pass_X7_records : GoodIn wsX7_pass (wsV RX7 41 RX7 yX7_records wsX7_records) := goodIn_app (goodIn_of _ (by decide +kernel)) ggX7_pass_X7_records
set_option maxRecDepth 20000 in
theorem ggX7_pass_X7_tick : GoodIn wsX7_pass wsX7_tick := goodIn_r _ [18, 19, 20, 5, 21, 3, 4, 6, 22, 23, 24, 25, 26, 27, 28, 29, 30, 31, 32, 33, 34, 35, 36, 37, 38, 39, 40, 41, 42, 43, 44, 45, 46, 47, 48, 49, 50, 51, 52, 53, 54, 55, 56, 57, 58, 59, 60, 61, 62, 63, 64, 65, 66, 67, 68, 69] (by decide +kernel) (by decide +kernel)
set_option maxRecDepth 20000 in
theorem gX7_pass_X7_tick : GoodIn wsX7_pass (va_wsS RX7 123 yX7_tick wsX7_tick) := goodIn_app (goodIn_of _ (by decide +kernel)) ggX7_pass_X7_tick
theorem dX7_pass_0 : decode cX7_pass 0 = .ok (.iload_n 1, 1) := by decide +kernel
theorem dX7_pass_1 : decode cX7_pass 1 = .ok (.iconst 1, 1) := by decide +kernel
theorem dX7_pass_2 : decode cX7_pass 2 = .ok (.sipush 200, 3) := by decide +kernel
theorem dX7_pass_5 : decode cX7_pass 5 = .ok (.invokestatic 44, 3) := by decide +kernel
theorem dX7_pass_8 : decode cX7_pass 8 = .ok (.ifCond .ne 6, 3) := by decide +kernel
theorem dX7_pass_11 : decode cX7_pass 11 = .ok (.bipush (-2), 2) := by decide +kernel
theorem dX7_pass_13 : decode cX7_pass 13 = .ok (.ireturn, 1) := by decide +kernel
theorem dX7_pass_14 : decode cX7_pass 14 = .ok (.aload_n 0, 1) := by decide +kernel
theorem dX7_pass_15 : decode cX7_pass 15 = .ok (.getfield 7, 3) := by decide +kernel
theorem dX7_pass_18 : decode cX7_pass 18 = .ok (.bipush 76, 2) := by decide +kernel
theorem dX7_pass_20 : decode cX7_pass 20 = .ok (.iaload, 1) := by decide +kernel
theorem dX7_pass_21 : decode cX7_pass 21 = .ok (.iload_n 1, 1) := by decide +kernel
theorem dX7_pass_22 : decode cX7_pass 22 = .ok (.iadd, 1) := by decide +kernel
theorem dX7_pass_23 : decode cX7_pass 23 = .ok (.ldc 122, 2) := by decide +kernel
theorem dX7_pass_25 : decode cX7_pass 25 = .ok (.if_icmp .le 6, 3) := by decide +kernel
theorem dX7_pass_28 : decode cX7_pass 28 = .ok (.bipush (-3), 2) := by decide +kernel
theorem dX7_pass_30 : decode cX7_pass 30 = .ok (.ireturn, 1) := by decide +kernel
theorem dX7_pass_31 : decode cX7_pass 31 = .ok (.aload_n 0, 1) := by decide +kernel
theorem dX7_pass_32 : decode cX7_pass 32 = .ok (.invokevirtual 41, 3) := by decide +kernel
theorem dX7_pass_35 : decode cX7_pass 35 = .ok (.iconst 0, 1) := by decide +kernel
theorem dX7_pass_36 : decode cX7_pass 36 = .ok (.istore_n 2, 1) := by decide +kernel
theorem dX7_pass_37 : decode cX7_pass 37 = .ok (.iload_n 2, 1) := by decide +kernel
theorem dX7_pass_38 : decode cX7_pass 38 = .ok (.iload_n 1, 1) := by decide +kernel
theorem dX7_pass_39 : decode cX7_pass 39 = .ok (.if_icmp .ge 16, 3) := by decide +kernel
theorem dX7_pass_42 : decode cX7_pass 42 = .ok (.aload_n 0, 1) := by decide +kernel
theorem dX7_pass_43 : decode cX7_pass 43 = .ok (.getfield 7, 3) := by decide +kernel
theorem dX7_pass_46 : decode cX7_pass 46 = .ok (.invokestatic 123, 3) := by decide +kernel
theorem dX7_pass_49 : decode cX7_pass 49 = .ok (.iinc 2 1, 3) := by decide +kernel
theorem dX7_pass_52 : decode cX7_pass 52 = .ok (.goto (-15), 3) := by decide +kernel
theorem dX7_pass_55 : decode cX7_pass 55 = .ok (.aload_n 0, 1) := by decide +kernel
theorem dX7_pass_56 : decode cX7_pass 56 = .ok (.getfield 7, 3) := by decide +kernel
theorem dX7_pass_59 : decode cX7_pass 59 = .ok (.bipush 73, 2) := by decide +kernel
theorem dX7_pass_61 : decode cX7_pass 61 = .ok (.iaload, 1) := by decide +kernel
theorem dX7_pass_62 : decode cX7_pass 62 = .ok (.ireturn, 1) := by decide +kernel
theorem dX7_type_0 : decode cX7_type 0 = .ok (.aload_n 0, 1) := by decide +kernel
theorem dX7_type_1 : decode cX7_type 1 = .ok (.getfield 126, 3) := by decide +kernel
theorem dX7_type_4 : decode cX7_type 4 = .ok (.bipush 60, 2) := by decide +kernel
theorem dX7_type_6 : decode cX7_type 6 = .ok (.if_icmp .ne 6, 3) := by decide +kernel
theorem dX7_type_9 : decode cX7_type 9 = .ok (.bipush (-3), 2) := by decide +kernel
theorem dX7_type_11 : decode cX7_type 11 = .ok (.ireturn, 1) := by decide +kernel
theorem dX7_type_12 : decode cX7_type 12 = .ok (.aload_n 0, 1) := by decide +kernel
theorem dX7_type_13 : decode cX7_type 13 = .ok (.getfield 22, 3) := by decide +kernel
theorem dX7_type_16 : decode cX7_type 16 = .ok (.aload_n 0, 1) := by decide +kernel
theorem dX7_type_17 : decode cX7_type 17 = .ok (.getfield 126, 3) := by decide +kernel
theorem dX7_type_20 : decode cX7_type 20 = .ok (.iload_n 1, 1) := by decide +kernel
theorem dX7_type_21 : decode cX7_type 21 = .ok (.castore, 1) := by decide +kernel
theorem dX7_type_22 : decode cX7_type 22 = .ok (.aload_n 0, 1) := by decide +kernel
theorem dX7_type_23 : decode cX7_type 23 = .ok (.dup, 1) := by decide +kernel
theorem dX7_type_24 : decode cX7_type 24 = .ok (.getfield 126, 3) := by decide +kernel
theorem dX7_type_27 : decode cX7_type 27 = .ok (.iconst 1, 1) := by decide +kernel
theorem dX7_type_28 : decode cX7_type 28 = .ok (.iadd, 1) := by decide +kernel
theorem dX7_type_29 : decode cX7_type 29 = .ok (.putfield 126, 3) := by decide +kernel
theorem dX7_type_32 : decode cX7_type 32 = .ok (.aload_n 0, 1) := by decide +kernel
theorem dX7_type_33 : decode cX7_type 33 = .ok (.getfield 126, 3) := by decide +kernel
theorem dX7_type_36 : decode cX7_type 36 = .ok (.ireturn, 1) := by decide +kernel
theorem dX7_clearText_0 : decode cX7_clearText 0 = .ok (.aload_n 0, 1) := by decide +kernel
theorem dX7_clearText_1 : decode cX7_clearText 1 = .ok (.getfield 126, 3) := by decide +kernel
theorem dX7_clearText_4 : decode cX7_clearText 4 = .ok (.istore_n 1, 1) := by decide +kernel
theorem dX7_clearText_5 : decode cX7_clearText 5 = .ok (.aload_n 0, 1) := by decide +kernel
theorem dX7_clearText_6 : decode cX7_clearText 6 = .ok (.iconst 0, 1) := by decide +kernel
theorem dX7_clearText_7 : decode cX7_clearText 7 = .ok (.putfield 126, 3) := by decide +kernel
theorem dX7_clearText_10 : decode cX7_clearText 10 = .ok (.iload_n 1, 1) := by decide +kernel
theorem dX7_clearText_11 : decode cX7_clearText 11 = .ok (.ireturn, 1) := by decide +kernel
set_option maxRecDepth 20000 in
theorem ggX7_sees_X7_in : GoodIn wsX7_sees wsX7_in := goodIn_r _ [7] (by decide +kernel) (by decide +kernel)
set_option maxRecDepth 20000 in
theorem gX7_sees_X7_in : GoodIn wsX7_sees (va_wsS RX7 44 yX7_in wsX7_in) := goodIn_app (goodIn_of _ (by decide +kernel)) ggX7_sees_X7_in
theorem dX7_sees_0 : decode cX7_sees 0 = .ok (.aload_n 0, 1) := by decide +kernel
theorem dX7_sees_1 : decode cX7_sees 1 = .ok (.getfield 129, 3) := by decide +kernel
theorem dX7_sees_4 : decode cX7_sees 4 = .ok (.aload_n 0, 1) := by decide +kernel
theorem dX7_sees_5 : decode cX7_sees 5 = .ok (.getfield 126, 3) := by decide +kernel
theorem dX7_sees_8 : decode cX7_sees 8 = .ok (.if_icmp .ge 24, 3) := by decide +kernel
theorem dX7_sees_11 : decode cX7_sees 11 = .ok (.aload_n 0, 1) := by decide +kernel
theorem dX7_sees_12 : decode cX7_sees 12 = .ok (.getfield 22, 3) := by decide +kernel
theorem dX7_sees_15 : decode cX7_sees 15 = .ok (.aload_n 0, 1) := by decide +kernel
theorem dX7_sees_16 : decode cX7_sees 16 = .ok (.getfield 129, 3) := by decide +kernel
theorem dX7_sees_19 : decode cX7_sees 19 = .ok (.caload, 1) := by decide +kernel
theorem dX7_sees_20 : decode cX7_sees 20 = .ok (.iload_n 1, 1) := by decide +kernel
theorem dX7_sees_21 : decode cX7_sees 21 = .ok (.iload_n 2, 1) := by decide +kernel
theorem dX7_sees_22 : decode cX7_sees 22 = .ok (.invokestatic 44, 3) := by decide +kernel
theorem dX7_sees_25 : decode cX7_sees 25 = .ok (.ifCond .eq 7, 3) := by decide +kernel
theorem dX7_sees_28 : decode cX7_sees 28 = .ok (.iconst 1, 1) := by decide +kernel
theorem dX7_sees_29 : decode cX7_sees 29 = .ok (.goto 4, 3) := by decide +kernel
theorem dX7_sees_32 : decode cX7_sees 32 = .ok (.iconst 0, 1) := by decide +kernel
theorem dX7_sees_33 : decode cX7_sees 33 = .ok (.ireturn, 1) := by decide +kernel
set_option maxRecDepth 20000 in
theorem ggX7_takes_X7_sees : GoodIn wsX7_takes wsX7_sees := goodIn_r _ [6, 1, 7, 8, 9, 10, 5, 11, 12, 13, 14, 15, 16, 17, 18, 19, 20, 21, 22, 23] (by decide +kernel) (by decide +kernel)
set_option maxRecDepth 20000 in
theorem gX7_takes_X7_sees : GoodIn wsX7_takes (wsV RX7 132 RX7 yX7_sees wsX7_sees) := goodIn_app (goodIn_of _ (by decide +kernel)) ggX7_takes_X7_sees
theorem dX7_takes_0 : decode cX7_takes 0 = .ok (.aload_n 0, 1) := by decide +kernel
theorem dX7_takes_1 : decode cX7_takes 1 = .ok (.iload_n 1, 1) := by decide +kernel
theorem dX7_takes_2 : decode cX7_takes 2 = .ok (.iload_n 1, 1) := by decide +kernel
theorem dX7_takes_3 : decode cX7_takes 3 = .ok (.invokevirtual 132, 3) := by decide +kernel
theorem dX7_takes_6 : decode cX7_takes 6 = .ok (.istore_n 2, 1) := by decide +kernel
theorem dX7_takes_7 : decode cX7_takes 7 = .ok (.aload_n 0, 1) := by decide +kernel
theorem dX7_takes_8 : decode cX7_takes 8 = .ok (.dup, 1) := by decide +kernel
theorem dX7_takes_9 : decode cX7_takes 9 = .ok (.getfield 129, 3) := by decide +kernel
theorem dX7_takes_12 : decode cX7_takes 12 = .ok (.iload_n 2, 1) := by decide +kernel
theorem dX7_takes_13 : decode cX7_takes 13 = .ok (.ifCond .eq 7, 3) := by decide +kernel
theorem dX7_takes_16 : decode cX7_takes 16 = .ok (.iconst 1, 1) := by decide +kernel
theorem dX7_takes_17 : decode cX7_takes 17 = .ok (.goto 4, 3) := by decide +kernel
theorem dX7_takes_20 : decode cX7_takes 20 = .ok (.iconst 0, 1) := by decide +kernel
theorem dX7_takes_21 : decode cX7_takes 21 = .ok (.iadd, 1) := by decide +kernel
theorem dX7_takes_22 : decode cX7_takes 22 = .ok (.putfield 129, 3) := by decide +kernel
theorem dX7_takes_25 : decode cX7_takes 25 = .ok (.iload_n 2, 1) := by decide +kernel
theorem dX7_takes_26 : decode cX7_takes 26 = .ok (.ireturn, 1) := by decide +kernel
set_option maxRecDepth 20000 in
theorem ggX7_takesNumber_X7_sees : GoodIn wsX7_takesNumber wsX7_sees := goodIn_r _ [8, 2, 9, 1, 10, 11, 7, 12, 13, 14, 15, 16, 17, 18, 19, 20, 21, 22, 23, 24] (by decide +kernel) (by decide +kernel)
set_option maxRecDepth 20000 in
theorem gX7_takesNumber_X7_sees : GoodIn wsX7_takesNumber (wsV RX7 132 RX7 yX7_sees wsX7_sees) := goodIn_app (goodIn_of _ (by decide +kernel)) ggX7_takesNumber_X7_sees
theorem dX7_takesNumber_0 : decode cX7_takesNumber 0 = .ok (.aload_n 0, 1) := by decide +kernel
theorem dX7_takesNumber_1 : decode cX7_takesNumber 1 = .ok (.iload_n 1, 1) := by decide +kernel
theorem dX7_takesNumber_2 : decode cX7_takesNumber 2 = .ok (.bipush 57, 2) := by decide +kernel
theorem dX7_takesNumber_4 : decode cX7_takesNumber 4 = .ok (.invokevirtual 132, 3) := by decide +kernel
theorem dX7_takesNumber_7 : decode cX7_takesNumber 7 = .ok (.ifCond .ne 5, 3) := by decide +kernel
theorem dX7_takesNumber_10 : decode cX7_takesNumber 10 = .ok (.iconst 0, 1) := by decide +kernel
theorem dX7_takesNumber_11 : decode cX7_takesNumber 11 = .ok (.ireturn, 1) := by decide +kernel
theorem dX7_takesNumber_12 : decode cX7_takesNumber 12 = .ok (.aload_n 0, 1) := by decide +kernel
theorem dX7_takesNumber_13 : decode cX7_takesNumber 13 = .ok (.aload_n 0, 1) := by decide +kernel
theorem dX7_takesNumber_14 : decode cX7_takesNumber 14 = .ok (.getfield 22, 3) := by decide +kernel
theorem dX7_takesNumber_17 : decode cX7_takesNumber 17 = .ok (.aload_n 0, 1) := by decide +kernel
theorem dX7_takesNumber_18 : decode cX7_takesNumber 18 = .ok (.getfield 129, 3) := by decide +kernel
theorem dX7_takesNumber_21 : decode cX7_takesNumber 21 = .ok (.caload, 1) := by decide +kernel
theorem dX7_takesNumber_22 : decode cX7_takesNumber 22 = .ok (.bipush 48, 2) := by decide +kernel
theorem dX7_takesNumber_24 : decode cX7_takesNumber 24 = .ok (.isub, 1) := by decide +kernel
theorem dX7_takesNumber_25 : decode cX7_takesNumber 25 = .ok (.putfield 135, 3) := by decide +kernel
theorem dX7_takesNumber_28 : decode cX7_takesNumber 28 = .ok (.aload_n 0, 1) := by decide +kernel
theorem dX7_takesNumber_29 : decode cX7_takesNumber 29 = .ok (.dup, 1) := by decide +kernel
theorem dX7_takesNumber_30 : decode cX7_takesNumber 30 = .ok (.getfield 129, 3) := by decide +kernel
theorem dX7_takesNumber_33 : decode cX7_takesNumber 33 = .ok (.iconst 1, 1) := by decide +kernel
theorem dX7_takesNumber_34 : decode cX7_takesNumber 34 = .ok (.iadd, 1) := by decide +kernel
theorem dX7_takesNumber_35 : decode cX7_takesNumber 35 = .ok (.putfield 129, 3) := by decide +kernel
theorem dX7_takesNumber_38 : decode cX7_takesNumber 38 = .ok (.iconst 1, 1) := by decide +kernel
theorem dX7_takesNumber_39 : decode cX7_takesNumber 39 = .ok (.istore_n 2, 1) := by decide +kernel
theorem dX7_takesNumber_40 : decode cX7_takesNumber 40 = .ok (.iload_n 2, 1) := by decide +kernel
theorem dX7_takesNumber_41 : decode cX7_takesNumber 41 = .ok (.iconst 4, 1) := by decide +kernel
theorem dX7_takesNumber_42 : decode cX7_takesNumber 42 = .ok (.if_icmp .ge 61, 3) := by decide +kernel
theorem dX7_takesNumber_45 : decode cX7_takesNumber 45 = .ok (.aload_n 0, 1) := by decide +kernel
theorem dX7_takesNumber_46 : decode cX7_takesNumber 46 = .ok (.getfield 135, 3) := by decide +kernel
theorem dX7_takesNumber_49 : decode cX7_takesNumber 49 = .ok (.ifCond .le 54, 3) := by decide +kernel
theorem dX7_takesNumber_52 : decode cX7_takesNumber 52 = .ok (.aload_n 0, 1) := by decide +kernel
theorem dX7_takesNumber_53 : decode cX7_takesNumber 53 = .ok (.bipush 48, 2) := by decide +kernel
theorem dX7_takesNumber_55 : decode cX7_takesNumber 55 = .ok (.bipush 57, 2) := by decide +kernel
theorem dX7_takesNumber_57 : decode cX7_takesNumber 57 = .ok (.invokevirtual 132, 3) := by decide +kernel
theorem dX7_takesNumber_60 : decode cX7_takesNumber 60 = .ok (.ifCond .eq 43, 3) := by decide +kernel
theorem dX7_takesNumber_63 : decode cX7_takesNumber 63 = .ok (.aload_n 0, 1) := by decide +kernel
theorem dX7_takesNumber_64 : decode cX7_takesNumber 64 = .ok (.bipush 10, 2) := by decide +kernel
theorem dX7_takesNumber_66 : decode cX7_takesNumber 66 = .ok (.aload_n 0, 1) := by decide +kernel
theorem dX7_takesNumber_67 : decode cX7_takesNumber 67 = .ok (.getfield 135, 3) := by decide +kernel
theorem dX7_takesNumber_70 : decode cX7_takesNumber 70 = .ok (.imul, 1) := by decide +kernel
theorem dX7_takesNumber_71 : decode cX7_takesNumber 71 = .ok (.aload_n 0, 1) := by decide +kernel
theorem dX7_takesNumber_72 : decode cX7_takesNumber 72 = .ok (.getfield 22, 3) := by decide +kernel
theorem dX7_takesNumber_75 : decode cX7_takesNumber 75 = .ok (.aload_n 0, 1) := by decide +kernel
theorem dX7_takesNumber_76 : decode cX7_takesNumber 76 = .ok (.getfield 129, 3) := by decide +kernel
theorem dX7_takesNumber_79 : decode cX7_takesNumber 79 = .ok (.caload, 1) := by decide +kernel
theorem dX7_takesNumber_80 : decode cX7_takesNumber 80 = .ok (.iadd, 1) := by decide +kernel
theorem dX7_takesNumber_81 : decode cX7_takesNumber 81 = .ok (.bipush 48, 2) := by decide +kernel
theorem dX7_takesNumber_83 : decode cX7_takesNumber 83 = .ok (.isub, 1) := by decide +kernel
theorem dX7_takesNumber_84 : decode cX7_takesNumber 84 = .ok (.putfield 135, 3) := by decide +kernel
theorem dX7_takesNumber_87 : decode cX7_takesNumber 87 = .ok (.aload_n 0, 1) := by decide +kernel
theorem dX7_takesNumber_88 : decode cX7_takesNumber 88 = .ok (.dup, 1) := by decide +kernel
theorem dX7_takesNumber_89 : decode cX7_takesNumber 89 = .ok (.getfield 129, 3) := by decide +kernel
theorem dX7_takesNumber_92 : decode cX7_takesNumber 92 = .ok (.iconst 1, 1) := by decide +kernel
theorem dX7_takesNumber_93 : decode cX7_takesNumber 93 = .ok (.iadd, 1) := by decide +kernel
theorem dX7_takesNumber_94 : decode cX7_takesNumber 94 = .ok (.putfield 129, 3) := by decide +kernel
theorem dX7_takesNumber_97 : decode cX7_takesNumber 97 = .ok (.iinc 2 1, 3) := by decide +kernel
theorem dX7_takesNumber_100 : decode cX7_takesNumber 100 = .ok (.goto (-60), 3) := by decide +kernel
theorem dX7_takesNumber_103 : decode cX7_takesNumber 103 = .ok (.iconst 1, 1) := by decide +kernel
theorem dX7_takesNumber_104 : decode cX7_takesNumber 104 = .ok (.ireturn, 1) := by decide +kernel
set_option maxRecDepth 20000 in
theorem ggX7_takesStage_X7_takes : GoodIn wsX7_takesStage wsX7_takes := goodIn_r _ [8, 9, 10, 11, 12, 7, 13, 14, 15, 16, 17, 18, 23, 24, 25, 26, 27, 28, 29, 30, 31, 32, 33, 34] (by decide +kernel) (by decide +kernel)
set_option maxRecDepth 20000 in
theorem gX7_takesStage_X7_takes : GoodIn wsX7_takesStage (wsV RX7 141 RX7 yX7_takes wsX7_takes) := goodIn_app (goodIn_of _ (by decide +kernel)) ggX7_takesStage_X7_takes
set_option maxRecDepth 20000 in
theorem ggX7_takesStage_X7_takesNumber : GoodIn wsX7_takesStage wsX7_takesNumber := goodIn_r _ [22, 15, 9, 3, 10, 11, 12, 7, 13, 14, 16, 17, 18, 23, 24, 25, 26, 27, 28, 29, 30, 31, 32, 33, 34] (by decide +kernel) (by decide +kernel)
set_option maxRecDepth 20000 in
theorem gX7_takesStage_X7_takesNumber : GoodIn wsX7_takesStage (wsV RX7 144 RX7 yX7_takesNumber wsX7_takesNumber) := goodIn_app (goodIn_of _ (by decide +kernel)) ggX7_takesStage_X7_takesNumber
theorem dX7_takesStage_0 : decode cX7_takesStage 0 = .ok (.iconst 4, 1) := by decide +kernel
theorem dX7_takesStage_1 : decode cX7_takesStage 1 = .ok (.aload_n 0, 1) := by decide +kernel
theorem dX7_takesStage_2 : decode cX7_takesStage 2 = .ok (.getfield 138, 3) := by decide +kernel
theorem dX7_takesStage_5 : decode cX7_takesStage 5 = .ok (.imul, 1) := by decide +kernel
theorem dX7_takesStage_6 : decode cX7_takesStage 6 = .ok (.istore_n 1, 1) := by decide +kernel
theorem dX7_takesStage_7 : decode cX7_takesStage 7 = .ok (.aload_n 0, 1) := by decide +kernel
theorem dX7_takesStage_8 : decode cX7_takesStage 8 = .ok (.bipush 99, 2) := by decide +kernel
theorem dX7_takesStage_10 : decode cX7_takesStage 10 = .ok (.invokevirtual 141, 3) := by decide +kernel
theorem dX7_takesStage_13 : decode cX7_takesStage 13 = .ok (.ifCond .eq 7, 3) := by decide +kernel
theorem dX7_takesStage_16 : decode cX7_takesStage 16 = .ok (.iconst 0, 1) := by decide +kernel
theorem dX7_takesStage_17 : decode cX7_takesStage 17 = .ok (.goto 31, 3) := by decide +kernel
theorem dX7_takesStage_20 : decode cX7_takesStage 20 = .ok (.aload_n 0, 1) := by decide +kernel
theorem dX7_takesStage_21 : decode cX7_takesStage 21 = .ok (.bipush 118, 2) := by decide +kernel
theorem dX7_takesStage_23 : decode cX7_takesStage 23 = .ok (.invokevirtual 141, 3) := by decide +kernel
theorem dX7_takesStage_26 : decode cX7_takesStage 26 = .ok (.ifCond .eq 7, 3) := by decide +kernel
theorem dX7_takesStage_29 : decode cX7_takesStage 29 = .ok (.iconst 1, 1) := by decide +kernel
theorem dX7_takesStage_30 : decode cX7_takesStage 30 = .ok (.goto 18, 3) := by decide +kernel
theorem dX7_takesStage_33 : decode cX7_takesStage 33 = .ok (.aload_n 0, 1) := by decide +kernel
theorem dX7_takesStage_34 : decode cX7_takesStage 34 = .ok (.bipush 114, 2) := by decide +kernel
theorem dX7_takesStage_36 : decode cX7_takesStage 36 = .ok (.invokevirtual 141, 3) := by decide +kernel
theorem dX7_takesStage_39 : decode cX7_takesStage 39 = .ok (.ifCond .eq 7, 3) := by decide +kernel
theorem dX7_takesStage_42 : decode cX7_takesStage 42 = .ok (.iconst 2, 1) := by decide +kernel
theorem dX7_takesStage_43 : decode cX7_takesStage 43 = .ok (.goto 5, 3) := by decide +kernel
theorem dX7_takesStage_46 : decode cX7_takesStage 46 = .ok (.bipush (-5), 2) := by decide +kernel
theorem dX7_takesStage_48 : decode cX7_takesStage 48 = .ok (.istore_n 2, 1) := by decide +kernel
theorem dX7_takesStage_49 : decode cX7_takesStage 49 = .ok (.iload_n 2, 1) := by decide +kernel
theorem dX7_takesStage_50 : decode cX7_takesStage 50 = .ok (.ifCond .lt 12, 3) := by decide +kernel
theorem dX7_takesStage_53 : decode cX7_takesStage 53 = .ok (.aload_n 0, 1) := by decide +kernel
theorem dX7_takesStage_54 : decode cX7_takesStage 54 = .ok (.bipush 48, 2) := by decide +kernel
theorem dX7_takesStage_56 : decode cX7_takesStage 56 = .ok (.invokevirtual 144, 3) := by decide +kernel
theorem dX7_takesStage_59 : decode cX7_takesStage 59 = .ok (.ifCond .ne 5, 3) := by decide +kernel
theorem dX7_takesStage_62 : decode cX7_takesStage 62 = .ok (.iconst 0, 1) := by decide +kernel
theorem dX7_takesStage_63 : decode cX7_takesStage 63 = .ok (.ireturn, 1) := by decide +kernel
theorem dX7_takesStage_64 : decode cX7_takesStage 64 = .ok (.aload_n 0, 1) := by decide +kernel
theorem dX7_takesStage_65 : decode cX7_takesStage 65 = .ok (.getfield 26, 3) := by decide +kernel
theorem dX7_takesStage_68 : decode cX7_takesStage 68 = .ok (.iload_n 1, 1) := by decide +kernel
theorem dX7_takesStage_69 : decode cX7_takesStage 69 = .ok (.iload_n 2, 1) := by decide +kernel
theorem dX7_takesStage_70 : decode cX7_takesStage 70 = .ok (.iastore, 1) := by decide +kernel
theorem dX7_takesStage_71 : decode cX7_takesStage 71 = .ok (.aload_n 0, 1) := by decide +kernel
theorem dX7_takesStage_72 : decode cX7_takesStage 72 = .ok (.getfield 26, 3) := by decide +kernel
theorem dX7_takesStage_75 : decode cX7_takesStage 75 = .ok (.iload_n 1, 1) := by decide +kernel
theorem dX7_takesStage_76 : decode cX7_takesStage 76 = .ok (.iconst 1, 1) := by decide +kernel
theorem dX7_takesStage_77 : decode cX7_takesStage 77 = .ok (.iadd, 1) := by decide +kernel
theorem dX7_takesStage_78 : decode cX7_takesStage 78 = .ok (.aload_n 0, 1) := by decide +kernel
theorem dX7_takesStage_79 : decode cX7_takesStage 79 = .ok (.getfield 135, 3) := by decide +kernel
theorem dX7_takesStage_82 : decode cX7_takesStage 82 = .ok (.iastore, 1) := by decide +kernel
theorem dX7_takesStage_83 : decode cX7_takesStage 83 = .ok (.aload_n 0, 1) := by decide +kernel
theorem dX7_takesStage_84 : decode cX7_takesStage 84 = .ok (.getfield 26, 3) := by decide +kernel
theorem dX7_takesStage_87 : decode cX7_takesStage 87 = .ok (.iload_n 1, 1) := by decide +kernel
theorem dX7_takesStage_88 : decode cX7_takesStage 88 = .ok (.iconst 2, 1) := by decide +kernel
theorem dX7_takesStage_89 : decode cX7_takesStage 89 = .ok (.iadd, 1) := by decide +kernel
theorem dX7_takesStage_90 : decode cX7_takesStage 90 = .ok (.iconst 0, 1) := by decide +kernel
theorem dX7_takesStage_91 : decode cX7_takesStage 91 = .ok (.iastore, 1) := by decide +kernel
theorem dX7_takesStage_92 : decode cX7_takesStage 92 = .ok (.aload_n 0, 1) := by decide +kernel
theorem dX7_takesStage_93 : decode cX7_takesStage 93 = .ok (.getfield 26, 3) := by decide +kernel
theorem dX7_takesStage_96 : decode cX7_takesStage 96 = .ok (.iload_n 1, 1) := by decide +kernel
theorem dX7_takesStage_97 : decode cX7_takesStage 97 = .ok (.iconst 3, 1) := by decide +kernel
theorem dX7_takesStage_98 : decode cX7_takesStage 98 = .ok (.iadd, 1) := by decide +kernel
theorem dX7_takesStage_99 : decode cX7_takesStage 99 = .ok (.iconst 0, 1) := by decide +kernel
theorem dX7_takesStage_100 : decode cX7_takesStage 100 = .ok (.iastore, 1) := by decide +kernel
theorem dX7_takesStage_101 : decode cX7_takesStage 101 = .ok (.iload_n 2, 1) := by decide +kernel
theorem dX7_takesStage_102 : decode cX7_takesStage 102 = .ok (.iconst 2, 1) := by decide +kernel
theorem dX7_takesStage_103 : decode cX7_takesStage 103 = .ok (.if_icmp .ge 35, 3) := by decide +kernel
theorem dX7_takesStage_106 : decode cX7_takesStage 106 = .ok (.aload_n 0, 1) := by decide +kernel
theorem dX7_takesStage_107 : decode cX7_takesStage 107 = .ok (.bipush 58, 2) := by decide +kernel
theorem dX7_takesStage_109 : decode cX7_takesStage 109 = .ok (.invokevirtual 141, 3) := by decide +kernel
theorem dX7_takesStage_112 : decode cX7_takesStage 112 = .ok (.ifCond .eq 12, 3) := by decide +kernel
theorem dX7_takesStage_115 : decode cX7_takesStage 115 = .ok (.aload_n 0, 1) := by decide +kernel
theorem dX7_takesStage_116 : decode cX7_takesStage 116 = .ok (.bipush 48, 2) := by decide +kernel
theorem dX7_takesStage_118 : decode cX7_takesStage 118 = .ok (.invokevirtual 144, 3) := by decide +kernel
theorem dX7_takesStage_121 : decode cX7_takesStage 121 = .ok (.ifCond .ne 5, 3) := by decide +kernel
theorem dX7_takesStage_124 : decode cX7_takesStage 124 = .ok (.iconst 0, 1) := by decide +kernel
theorem dX7_takesStage_125 : decode cX7_takesStage 125 = .ok (.ireturn, 1) := by decide +kernel
theorem dX7_takesStage_126 : decode cX7_takesStage 126 = .ok (.aload_n 0, 1) := by decide +kernel
theorem dX7_takesStage_127 : decode cX7_takesStage 127 = .ok (.getfield 26, 3) := by decide +kernel
theorem dX7_takesStage_130 : decode cX7_takesStage 130 = .ok (.iload_n 1, 1) := by decide +kernel
theorem dX7_takesStage_131 : decode cX7_takesStage 131 = .ok (.iconst 2, 1) := by decide +kernel
theorem dX7_takesStage_132 : decode cX7_takesStage 132 = .ok (.iadd, 1) := by decide +kernel
theorem dX7_takesStage_133 : decode cX7_takesStage 133 = .ok (.aload_n 0, 1) := by decide +kernel
theorem dX7_takesStage_134 : decode cX7_takesStage 134 = .ok (.getfield 135, 3) := by decide +kernel
theorem dX7_takesStage_137 : decode cX7_takesStage 137 = .ok (.iastore, 1) := by decide +kernel
theorem dX7_takesStage_138 : decode cX7_takesStage 138 = .ok (.aload_n 0, 1) := by decide +kernel
theorem dX7_takesStage_139 : decode cX7_takesStage 139 = .ok (.bipush 47, 2) := by decide +kernel
theorem dX7_takesStage_141 : decode cX7_takesStage 141 = .ok (.invokevirtual 141, 3) := by decide +kernel
theorem dX7_takesStage_144 : decode cX7_takesStage 144 = .ok (.ifCond .eq 26, 3) := by decide +kernel
theorem dX7_takesStage_147 : decode cX7_takesStage 147 = .ok (.aload_n 0, 1) := by decide +kernel
theorem dX7_takesStage_148 : decode cX7_takesStage 148 = .ok (.bipush 49, 2) := by decide +kernel
theorem dX7_takesStage_150 : decode cX7_takesStage 150 = .ok (.invokevirtual 144, 3) := by decide +kernel
theorem dX7_takesStage_153 : decode cX7_takesStage 153 = .ok (.ifCond .ne 5, 3) := by decide +kernel
theorem dX7_takesStage_156 : decode cX7_takesStage 156 = .ok (.iconst 0, 1) := by decide +kernel
theorem dX7_takesStage_157 : decode cX7_takesStage 157 = .ok (.ireturn, 1) := by decide +kernel
theorem dX7_takesStage_158 : decode cX7_takesStage 158 = .ok (.aload_n 0, 1) := by decide +kernel
theorem dX7_takesStage_159 : decode cX7_takesStage 159 = .ok (.getfield 26, 3) := by decide +kernel
theorem dX7_takesStage_162 : decode cX7_takesStage 162 = .ok (.iload_n 1, 1) := by decide +kernel
theorem dX7_takesStage_163 : decode cX7_takesStage 163 = .ok (.iconst 3, 1) := by decide +kernel
theorem dX7_takesStage_164 : decode cX7_takesStage 164 = .ok (.iadd, 1) := by decide +kernel
theorem dX7_takesStage_165 : decode cX7_takesStage 165 = .ok (.aload_n 0, 1) := by decide +kernel
theorem dX7_takesStage_166 : decode cX7_takesStage 166 = .ok (.getfield 135, 3) := by decide +kernel
theorem dX7_takesStage_169 : decode cX7_takesStage 169 = .ok (.iastore, 1) := by decide +kernel
theorem dX7_takesStage_170 : decode cX7_takesStage 170 = .ok (.aload_n 0, 1) := by decide +kernel
theorem dX7_takesStage_171 : decode cX7_takesStage 171 = .ok (.dup, 1) := by decide +kernel
theorem dX7_takesStage_172 : decode cX7_takesStage 172 = .ok (.getfield 138, 3) := by decide +kernel
theorem dX7_takesStage_175 : decode cX7_takesStage 175 = .ok (.iconst 1, 1) := by decide +kernel
theorem dX7_takesStage_176 : decode cX7_takesStage 176 = .ok (.iadd, 1) := by decide +kernel
theorem dX7_takesStage_177 : decode cX7_takesStage 177 = .ok (.putfield 138, 3) := by decide +kernel
theorem dX7_takesStage_180 : decode cX7_takesStage 180 = .ok (.iconst 1, 1) := by decide +kernel
theorem dX7_takesStage_181 : decode cX7_takesStage 181 = .ok (.ireturn, 1) := by decide +kernel
set_option maxRecDepth 20000 in
theorem ggX7_readsText_X7_takesStage : GoodIn wsX7_readsText wsX7_takesStage := goodIn_r _ [8, 2, 9, 10, 11, 12, 13, 7, 14, 1, 15, 16, 17, 18, 3, 19, 20, 21, 22, 23, 24, 25, 26, 27, 28, 29, 30, 31, 32, 33, 34, 35, 36, 37, 38] (by decide +kernel) (by decide +kernel)
set_option maxRecDepth 20000 in
theorem gX7_readsText_X7_takesStage : GoodIn wsX7_readsText (wsV RX7 147 RX7 yX7_takesStage wsX7_takesStage) := goodIn_app (goodIn_of _ (by decide +kernel)) ggX7_readsText_X7_takesStage
set_option maxRecDepth 20000 in
theorem ggX7_readsText_X7_takes : GoodIn wsX7_readsText wsX7_takes := goodIn_r _ [14, 1, 15, 16, 17, 7, 18, 3, 19, 20, 21, 22, 27, 28, 29, 30, 31, 32, 33, 34, 35, 36, 37, 38] (by decide +kernel) (by decide +kernel)
set_option maxRecDepth 20000 in
theorem gX7_readsText_X7_takes : GoodIn wsX7_readsText (wsV RX7 141 RX7 yX7_takes wsX7_takes) := goodIn_app (goodIn_of _ (by decide +kernel)) ggX7_readsText_X7_takes
theorem dX7_readsText_0 : decode cX7_readsText 0 = .ok (.aload_n 0, 1) := by decide +kernel
theorem dX7_readsText_1 : decode cX7_readsText 1 = .ok (.iconst 0, 1) := by decide +kernel
theorem dX7_readsText_2 : decode cX7_readsText 2 = .ok (.putfield 129, 3) := by decide +kernel
theorem dX7_readsText_5 : decode cX7_readsText 5 = .ok (.aload_n 0, 1) := by decide +kernel
theorem dX7_readsText_6 : decode cX7_readsText 6 = .ok (.iconst 0, 1) := by decide +kernel
theorem dX7_readsText_7 : decode cX7_readsText 7 = .ok (.putfield 138, 3) := by decide +kernel
theorem dX7_readsText_10 : decode cX7_readsText 10 = .ok (.iconst 1, 1) := by decide +kernel
theorem dX7_readsText_11 : decode cX7_readsText 11 = .ok (.istore_n 1, 1) := by decide +kernel
theorem dX7_readsText_12 : decode cX7_readsText 12 = .ok (.iload_n 1, 1) := by decide +kernel
theorem dX7_readsText_13 : decode cX7_readsText 13 = .ok (.ifCond .eq 38, 3) := by decide +kernel
end
section
theorem dX7_readsText_16 : decode cX7_readsText 16 = .ok (.aload_n 0, 1) := by decide +kernel
theorem dX7_readsText_17 : decode cX7_readsText 17 = .ok (.invokevirtual 147, 3) := by decide +kernel
theorem dX7_readsText_20 : decode cX7_readsText 20 = .ok (.ifCond .ne 5, 3) := by decide +kernel
theorem dX7_readsText_23 : decode cX7_readsText 23 = .ok (.iconst 0, 1) := by decide +kernel
theorem dX7_readsText_24 : decode cX7_readsText 24 = .ok (.ireturn, 1) := by decide +kernel
theorem dX7_readsText_25 : decode cX7_readsText 25 = .ok (.aload_n 0, 1) := by decide +kernel
theorem dX7_readsText_26 : decode cX7_readsText 26 = .ok (.getfield 138, 3) := by decide +kernel
theorem dX7_readsText_29 : decode cX7_readsText 29 = .ok (.iconst 5, 1) := by decide +kernel
theorem dX7_readsText_30 : decode cX7_readsText 30 = .ok (.if_icmp .ge 16, 3) := by decide +kernel
theorem dX7_readsText_33 : decode cX7_readsText 33 = .ok (.aload_n 0, 1) := by decide +kernel
theorem dX7_readsText_34 : decode cX7_readsText 34 = .ok (.bipush 59, 2) := by decide +kernel
theorem dX7_readsText_36 : decode cX7_readsText 36 = .ok (.invokevirtual 141, 3) := by decide +kernel
theorem dX7_readsText_39 : decode cX7_readsText 39 = .ok (.ifCond .eq 7, 3) := by decide +kernel
theorem dX7_readsText_42 : decode cX7_readsText 42 = .ok (.iconst 1, 1) := by decide +kernel
theorem dX7_readsText_43 : decode cX7_readsText 43 = .ok (.goto 4, 3) := by decide +kernel
theorem dX7_readsText_46 : decode cX7_readsText 46 = .ok (.iconst 0, 1) := by decide +kernel
theorem dX7_readsText_47 : decode cX7_readsText 47 = .ok (.istore_n 1, 1) := by decide +kernel
theorem dX7_readsText_48 : decode cX7_readsText 48 = .ok (.goto (-36), 3) := by decide +kernel
theorem dX7_readsText_51 : decode cX7_readsText 51 = .ok (.aload_n 0, 1) := by decide +kernel
theorem dX7_readsText_52 : decode cX7_readsText 52 = .ok (.getfield 129, 3) := by decide +kernel
theorem dX7_readsText_55 : decode cX7_readsText 55 = .ok (.aload_n 0, 1) := by decide +kernel
theorem dX7_readsText_56 : decode cX7_readsText 56 = .ok (.getfield 126, 3) := by decide +kernel
theorem dX7_readsText_59 : decode cX7_readsText 59 = .ok (.if_icmp .ne 7, 3) := by decide +kernel
theorem dX7_readsText_62 : decode cX7_readsText 62 = .ok (.iconst 1, 1) := by decide +kernel
theorem dX7_readsText_63 : decode cX7_readsText 63 = .ok (.goto 4, 3) := by decide +kernel
theorem dX7_readsText_66 : decode cX7_readsText 66 = .ok (.iconst 0, 1) := by decide +kernel
theorem dX7_readsText_67 : decode cX7_readsText 67 = .ok (.ireturn, 1) := by decide +kernel
set_option maxRecDepth 20000 in
theorem ggX7_isGood_X7_in : GoodIn wsX7_isGood wsX7_in := goodIn_r _ [5] (by decide +kernel) (by decide +kernel)
set_option maxRecDepth 20000 in
theorem gX7_isGood_X7_in : GoodIn wsX7_isGood (va_wsS RX7 44 yX7_in wsX7_in) := goodIn_app (goodIn_of _ (by decide +kernel)) ggX7_isGood_X7_in
theorem dX7_isGood_0 : decode cX7_isGood 0 = .ok (.aload_n 0, 1) := by decide +kernel
theorem dX7_isGood_1 : decode cX7_isGood 1 = .ok (.getfield 26, 3) := by decide +kernel
theorem dX7_isGood_4 : decode cX7_isGood 4 = .ok (.iconst 4, 1) := by decide +kernel
theorem dX7_isGood_5 : decode cX7_isGood 5 = .ok (.iload_n 1, 1) := by decide +kernel
theorem dX7_isGood_6 : decode cX7_isGood 6 = .ok (.imul, 1) := by decide +kernel
theorem dX7_isGood_7 : decode cX7_isGood 7 = .ok (.iaload, 1) := by decide +kernel
theorem dX7_isGood_8 : decode cX7_isGood 8 = .ok (.istore_n 2, 1) := by decide +kernel
theorem dX7_isGood_9 : decode cX7_isGood 9 = .ok (.aload_n 0, 1) := by decide +kernel
theorem dX7_isGood_10 : decode cX7_isGood 10 = .ok (.getfield 26, 3) := by decide +kernel
theorem dX7_isGood_13 : decode cX7_isGood 13 = .ok (.iconst 4, 1) := by decide +kernel
theorem dX7_isGood_14 : decode cX7_isGood 14 = .ok (.iload_n 1, 1) := by decide +kernel
theorem dX7_isGood_15 : decode cX7_isGood 15 = .ok (.imul, 1) := by decide +kernel
theorem dX7_isGood_16 : decode cX7_isGood 16 = .ok (.iconst 1, 1) := by decide +kernel
theorem dX7_isGood_17 : decode cX7_isGood 17 = .ok (.iadd, 1) := by decide +kernel
theorem dX7_isGood_18 : decode cX7_isGood 18 = .ok (.iaload, 1) := by decide +kernel
theorem dX7_isGood_19 : decode cX7_isGood 19 = .ok (.istore_n 3, 1) := by decide +kernel
theorem dX7_isGood_20 : decode cX7_isGood 20 = .ok (.aload_n 0, 1) := by decide +kernel
theorem dX7_isGood_21 : decode cX7_isGood 21 = .ok (.getfield 26, 3) := by decide +kernel
theorem dX7_isGood_24 : decode cX7_isGood 24 = .ok (.iconst 4, 1) := by decide +kernel
theorem dX7_isGood_25 : decode cX7_isGood 25 = .ok (.iload_n 1, 1) := by decide +kernel
theorem dX7_isGood_26 : decode cX7_isGood 26 = .ok (.imul, 1) := by decide +kernel
theorem dX7_isGood_27 : decode cX7_isGood 27 = .ok (.iconst 2, 1) := by decide +kernel
theorem dX7_isGood_28 : decode cX7_isGood 28 = .ok (.iadd, 1) := by decide +kernel
theorem dX7_isGood_29 : decode cX7_isGood 29 = .ok (.iaload, 1) := by decide +kernel
theorem dX7_isGood_30 : decode cX7_isGood 30 = .ok (.istore 4, 2) := by decide +kernel
theorem dX7_isGood_32 : decode cX7_isGood 32 = .ok (.iload_n 2, 1) := by decide +kernel
theorem dX7_isGood_33 : decode cX7_isGood 33 = .ok (.ifCond .ne 36, 3) := by decide +kernel
theorem dX7_isGood_36 : decode cX7_isGood 36 = .ok (.iload_n 3, 1) := by decide +kernel
theorem dX7_isGood_37 : decode cX7_isGood 37 = .ok (.iconst 1, 1) := by decide +kernel
theorem dX7_isGood_38 : decode cX7_isGood 38 = .ok (.sipush 2000, 3) := by decide +kernel
theorem dX7_isGood_41 : decode cX7_isGood 41 = .ok (.invokestatic 44, 3) := by decide +kernel
theorem dX7_isGood_44 : decode cX7_isGood 44 = .ok (.ifCond .eq 21, 3) := by decide +kernel
theorem dX7_isGood_47 : decode cX7_isGood 47 = .ok (.iload 4, 2) := by decide +kernel
theorem dX7_isGood_49 : decode cX7_isGood 49 = .ok (.sipush 3000, 3) := by decide +kernel
theorem dX7_isGood_52 : decode cX7_isGood 52 = .ok (.sipush 4500, 3) := by decide +kernel
theorem dX7_isGood_55 : decode cX7_isGood 55 = .ok (.invokestatic 44, 3) := by decide +kernel
theorem dX7_isGood_58 : decode cX7_isGood 58 = .ok (.ifCond .eq 7, 3) := by decide +kernel
theorem dX7_isGood_61 : decode cX7_isGood 61 = .ok (.iconst 1, 1) := by decide +kernel
theorem dX7_isGood_62 : decode cX7_isGood 62 = .ok (.goto 53, 3) := by decide +kernel
theorem dX7_isGood_65 : decode cX7_isGood 65 = .ok (.iconst 0, 1) := by decide +kernel
theorem dX7_isGood_66 : decode cX7_isGood 66 = .ok (.goto 49, 3) := by decide +kernel
theorem dX7_isGood_69 : decode cX7_isGood 69 = .ok (.iload_n 2, 1) := by decide +kernel
theorem dX7_isGood_70 : decode cX7_isGood 70 = .ok (.iconst 1, 1) := by decide +kernel
theorem dX7_isGood_71 : decode cX7_isGood 71 = .ok (.if_icmp .ne 36, 3) := by decide +kernel
theorem dX7_isGood_74 : decode cX7_isGood 74 = .ok (.iload_n 3, 1) := by decide +kernel
theorem dX7_isGood_75 : decode cX7_isGood 75 = .ok (.sipush 3000, 3) := by decide +kernel
theorem dX7_isGood_78 : decode cX7_isGood 78 = .ok (.sipush 4500, 3) := by decide +kernel
theorem dX7_isGood_81 : decode cX7_isGood 81 = .ok (.invokestatic 44, 3) := by decide +kernel
theorem dX7_isGood_84 : decode cX7_isGood 84 = .ok (.ifCond .eq 19, 3) := by decide +kernel
theorem dX7_isGood_87 : decode cX7_isGood 87 = .ok (.iload 4, 2) := by decide +kernel
theorem dX7_isGood_89 : decode cX7_isGood 89 = .ok (.iconst 0, 1) := by decide +kernel
theorem dX7_isGood_90 : decode cX7_isGood 90 = .ok (.sipush 2000, 3) := by decide +kernel
theorem dX7_isGood_93 : decode cX7_isGood 93 = .ok (.invokestatic 44, 3) := by decide +kernel
theorem dX7_isGood_96 : decode cX7_isGood 96 = .ok (.ifCond .eq 7, 3) := by decide +kernel
theorem dX7_isGood_99 : decode cX7_isGood 99 = .ok (.iconst 1, 1) := by decide +kernel
theorem dX7_isGood_100 : decode cX7_isGood 100 = .ok (.goto 15, 3) := by decide +kernel
theorem dX7_isGood_103 : decode cX7_isGood 103 = .ok (.iconst 0, 1) := by decide +kernel
theorem dX7_isGood_104 : decode cX7_isGood 104 = .ok (.goto 11, 3) := by decide +kernel
theorem dX7_isGood_107 : decode cX7_isGood 107 = .ok (.iload_n 3, 1) := by decide +kernel
theorem dX7_isGood_108 : decode cX7_isGood 108 = .ok (.iconst 1, 1) := by decide +kernel
theorem dX7_isGood_109 : decode cX7_isGood 109 = .ok (.sipush 999, 3) := by decide +kernel
theorem dX7_isGood_112 : decode cX7_isGood 112 = .ok (.invokestatic 44, 3) := by decide +kernel
theorem dX7_isGood_115 : decode cX7_isGood 115 = .ok (.istore 5, 2) := by decide +kernel
theorem dX7_isGood_117 : decode cX7_isGood 117 = .ok (.iload 5, 2) := by decide +kernel
theorem dX7_isGood_119 : decode cX7_isGood 119 = .ok (.ifCond .eq 27, 3) := by decide +kernel
theorem dX7_isGood_122 : decode cX7_isGood 122 = .ok (.aload_n 0, 1) := by decide +kernel
theorem dX7_isGood_123 : decode cX7_isGood 123 = .ok (.getfield 26, 3) := by decide +kernel
theorem dX7_isGood_126 : decode cX7_isGood 126 = .ok (.iconst 4, 1) := by decide +kernel
theorem dX7_isGood_127 : decode cX7_isGood 127 = .ok (.iload_n 1, 1) := by decide +kernel
theorem dX7_isGood_128 : decode cX7_isGood 128 = .ok (.imul, 1) := by decide +kernel
theorem dX7_isGood_129 : decode cX7_isGood 129 = .ok (.iconst 3, 1) := by decide +kernel
theorem dX7_isGood_130 : decode cX7_isGood 130 = .ok (.iadd, 1) := by decide +kernel
theorem dX7_isGood_131 : decode cX7_isGood 131 = .ok (.iaload, 1) := by decide +kernel
theorem dX7_isGood_132 : decode cX7_isGood 132 = .ok (.iconst 0, 1) := by decide +kernel
theorem dX7_isGood_133 : decode cX7_isGood 133 = .ok (.sipush 999, 3) := by decide +kernel
theorem dX7_isGood_136 : decode cX7_isGood 136 = .ok (.invokestatic 44, 3) := by decide +kernel
theorem dX7_isGood_139 : decode cX7_isGood 139 = .ok (.ifCond .eq 7, 3) := by decide +kernel
theorem dX7_isGood_142 : decode cX7_isGood 142 = .ok (.iconst 1, 1) := by decide +kernel
theorem dX7_isGood_143 : decode cX7_isGood 143 = .ok (.goto 4, 3) := by decide +kernel
theorem dX7_isGood_146 : decode cX7_isGood 146 = .ok (.iconst 0, 1) := by decide +kernel
theorem dX7_isGood_147 : decode cX7_isGood 147 = .ok (.ireturn, 1) := by decide +kernel
set_option maxRecDepth 20000 in
theorem ggX7_readProfile_X7_readsText : GoodIn wsX7_readProfile wsX7_readsText := goodIn_r _ [9, 1, 2, 10, 11, 12, 13, 8, 14, 4, 15, 16, 17, 18, 19, 20, 21, 22, 23, 24, 25, 26, 27, 28, 29, 30, 31, 45, 46, 47, 48, 49, 50, 51, 52, 53, 54, 55, 56] (by decide +kernel) (by decide +kernel)
set_option maxRecDepth 20000 in
theorem gX7_readProfile_X7_readsText : GoodIn wsX7_readProfile (wsV RX7 151 RX7 yX7_readsText wsX7_readsText) := goodIn_app (goodIn_of _ (by decide +kernel)) ggX7_readProfile_X7_readsText
set_option maxRecDepth 20000 in
theorem ggX7_readProfile_X7_isGood : GoodIn wsX7_readProfile wsX7_isGood := goodIn_r _ [35, 4, 25, 26, 8, 27, 45, 46, 47, 48, 49, 50, 51, 52, 53, 54, 55, 56] (by decide +kernel) (by decide +kernel)
set_option maxRecDepth 20000 in
theorem gX7_readProfile_X7_isGood : GoodIn wsX7_readProfile (wsV RX7 154 RX7 yX7_isGood wsX7_isGood) := goodIn_app (goodIn_of _ (by decide +kernel)) ggX7_readProfile_X7_isGood
set_option maxRecDepth 20000 in
theorem ggX7_readProfile_X7_records : GoodIn wsX7_readProfile wsX7_records := goodIn_r _ [39, 40, 41, 3, 42, 43, 8, 44, 45, 46, 47, 48, 49, 50, 51, 52, 53, 54, 55, 56] (by decide +kernel) (by decide +kernel)
set_option maxRecDepth 20000 in
theorem gX7_readProfile_X7_records : GoodIn wsX7_readProfile (wsV RX7 41 RX7 yX7_records wsX7_records) := goodIn_app (goodIn_of _ (by decide +kernel)) ggX7_readProfile_X7_records
theorem dX7_readProfile_0 : decode cX7_readProfile 0 = .ok (.aload_n 0, 1) := by decide +kernel
theorem dX7_readProfile_1 : decode cX7_readProfile 1 = .ok (.invokevirtual 151, 3) := by decide +kernel
theorem dX7_readProfile_4 : decode cX7_readProfile 4 = .ok (.ifCond .ne 11, 3) := by decide +kernel
theorem dX7_readProfile_7 : decode cX7_readProfile 7 = .ok (.bipush (-100), 2) := by decide +kernel
theorem dX7_readProfile_9 : decode cX7_readProfile 9 = .ok (.aload_n 0, 1) := by decide +kernel
theorem dX7_readProfile_10 : decode cX7_readProfile 10 = .ok (.getfield 129, 3) := by decide +kernel
theorem dX7_readProfile_13 : decode cX7_readProfile 13 = .ok (.isub, 1) := by decide +kernel
theorem dX7_readProfile_14 : decode cX7_readProfile 14 = .ok (.ireturn, 1) := by decide +kernel
theorem dX7_readProfile_15 : decode cX7_readProfile 15 = .ok (.iconst 0, 1) := by decide +kernel
theorem dX7_readProfile_16 : decode cX7_readProfile 16 = .ok (.istore_n 1, 1) := by decide +kernel
theorem dX7_readProfile_17 : decode cX7_readProfile 17 = .ok (.iload_n 1, 1) := by decide +kernel
theorem dX7_readProfile_18 : decode cX7_readProfile 18 = .ok (.aload_n 0, 1) := by decide +kernel
theorem dX7_readProfile_19 : decode cX7_readProfile 19 = .ok (.getfield 138, 3) := by decide +kernel
theorem dX7_readProfile_22 : decode cX7_readProfile 22 = .ok (.if_icmp .ge 20, 3) := by decide +kernel
theorem dX7_readProfile_25 : decode cX7_readProfile 25 = .ok (.aload_n 0, 1) := by decide +kernel
theorem dX7_readProfile_26 : decode cX7_readProfile 26 = .ok (.iload_n 1, 1) := by decide +kernel
theorem dX7_readProfile_27 : decode cX7_readProfile 27 = .ok (.invokevirtual 154, 3) := by decide +kernel
theorem dX7_readProfile_30 : decode cX7_readProfile 30 = .ok (.ifCond .ne 6, 3) := by decide +kernel
theorem dX7_readProfile_33 : decode cX7_readProfile 33 = .ok (.bipush (-2), 2) := by decide +kernel
theorem dX7_readProfile_35 : decode cX7_readProfile 35 = .ok (.ireturn, 1) := by decide +kernel
theorem dX7_readProfile_36 : decode cX7_readProfile 36 = .ok (.iinc 1 1, 3) := by decide +kernel
theorem dX7_readProfile_39 : decode cX7_readProfile 39 = .ok (.goto (-22), 3) := by decide +kernel
theorem dX7_readProfile_42 : decode cX7_readProfile 42 = .ok (.aload_n 0, 1) := by decide +kernel
theorem dX7_readProfile_43 : decode cX7_readProfile 43 = .ok (.getfield 7, 3) := by decide +kernel
theorem dX7_readProfile_46 : decode cX7_readProfile 46 = .ok (.bipush 73, 2) := by decide +kernel
theorem dX7_readProfile_48 : decode cX7_readProfile 48 = .ok (.iaload, 1) := by decide +kernel
theorem dX7_readProfile_49 : decode cX7_readProfile 49 = .ok (.iconst 1, 1) := by decide +kernel
theorem dX7_readProfile_50 : decode cX7_readProfile 50 = .ok (.if_icmp .ne 6, 3) := by decide +kernel
theorem dX7_readProfile_53 : decode cX7_readProfile 53 = .ok (.bipush (-4), 2) := by decide +kernel
theorem dX7_readProfile_55 : decode cX7_readProfile 55 = .ok (.ireturn, 1) := by decide +kernel
theorem dX7_readProfile_56 : decode cX7_readProfile 56 = .ok (.aload_n 0, 1) := by decide +kernel
theorem dX7_readProfile_57 : decode cX7_readProfile 57 = .ok (.invokevirtual 41, 3) := by decide +kernel
theorem dX7_readProfile_60 : decode cX7_readProfile 60 = .ok (.iconst 0, 1) := by decide +kernel
theorem dX7_readProfile_61 : decode cX7_readProfile 61 = .ok (.istore_n 1, 1) := by decide +kernel
theorem dX7_readProfile_62 : decode cX7_readProfile 62 = .ok (.iload_n 1, 1) := by decide +kernel
theorem dX7_readProfile_63 : decode cX7_readProfile 63 = .ok (.bipush 20, 2) := by decide +kernel
theorem dX7_readProfile_65 : decode cX7_readProfile 65 = .ok (.if_icmp .ge 38, 3) := by decide +kernel
theorem dX7_readProfile_68 : decode cX7_readProfile 68 = .ok (.aload_n 0, 1) := by decide +kernel
theorem dX7_readProfile_69 : decode cX7_readProfile 69 = .ok (.getfield 7, 3) := by decide +kernel
theorem dX7_readProfile_72 : decode cX7_readProfile 72 = .ok (.bipush 51, 2) := by decide +kernel
theorem dX7_readProfile_74 : decode cX7_readProfile 74 = .ok (.iload_n 1, 1) := by decide +kernel
theorem dX7_readProfile_75 : decode cX7_readProfile 75 = .ok (.iadd, 1) := by decide +kernel
theorem dX7_readProfile_76 : decode cX7_readProfile 76 = .ok (.iload_n 1, 1) := by decide +kernel
theorem dX7_readProfile_77 : decode cX7_readProfile 77 = .ok (.iconst 4, 1) := by decide +kernel
theorem dX7_readProfile_78 : decode cX7_readProfile 78 = .ok (.aload_n 0, 1) := by decide +kernel
theorem dX7_readProfile_79 : decode cX7_readProfile 79 = .ok (.getfield 138, 3) := by decide +kernel
theorem dX7_readProfile_82 : decode cX7_readProfile 82 = .ok (.imul, 1) := by decide +kernel
theorem dX7_readProfile_83 : decode cX7_readProfile 83 = .ok (.if_icmp .ge 12, 3) := by decide +kernel
theorem dX7_readProfile_86 : decode cX7_readProfile 86 = .ok (.aload_n 0, 1) := by decide +kernel
theorem dX7_readProfile_87 : decode cX7_readProfile 87 = .ok (.getfield 26, 3) := by decide +kernel
theorem dX7_readProfile_90 : decode cX7_readProfile 90 = .ok (.iload_n 1, 1) := by decide +kernel
theorem dX7_readProfile_91 : decode cX7_readProfile 91 = .ok (.iaload, 1) := by decide +kernel
theorem dX7_readProfile_92 : decode cX7_readProfile 92 = .ok (.goto 4, 3) := by decide +kernel
theorem dX7_readProfile_95 : decode cX7_readProfile 95 = .ok (.iconst 0, 1) := by decide +kernel
theorem dX7_readProfile_96 : decode cX7_readProfile 96 = .ok (.iastore, 1) := by decide +kernel
theorem dX7_readProfile_97 : decode cX7_readProfile 97 = .ok (.iinc 1 1, 3) := by decide +kernel
theorem dX7_readProfile_100 : decode cX7_readProfile 100 = .ok (.goto (-38), 3) := by decide +kernel
theorem dX7_readProfile_103 : decode cX7_readProfile 103 = .ok (.aload_n 0, 1) := by decide +kernel
theorem dX7_readProfile_104 : decode cX7_readProfile 104 = .ok (.getfield 7, 3) := by decide +kernel
theorem dX7_readProfile_107 : decode cX7_readProfile 107 = .ok (.bipush 72, 2) := by decide +kernel
theorem dX7_readProfile_109 : decode cX7_readProfile 109 = .ok (.aload_n 0, 1) := by decide +kernel
theorem dX7_readProfile_110 : decode cX7_readProfile 110 = .ok (.getfield 138, 3) := by decide +kernel
theorem dX7_readProfile_113 : decode cX7_readProfile 113 = .ok (.iastore, 1) := by decide +kernel
theorem dX7_readProfile_114 : decode cX7_readProfile 114 = .ok (.aload_n 0, 1) := by decide +kernel
theorem dX7_readProfile_115 : decode cX7_readProfile 115 = .ok (.getfield 138, 3) := by decide +kernel
theorem dX7_readProfile_118 : decode cX7_readProfile 118 = .ok (.ireturn, 1) := by decide +kernel
set_option maxRecDepth 20000 in
theorem ggX7_cell_X7_isCell : GoodIn wsX7_cell wsX7_isCell := goodIn_r _ [6, 1, 7, 8, 5, 9, 16, 17, 18, 19, 20, 21, 22, 23, 24, 25, 26, 27] (by decide +kernel) (by decide +kernel)
set_option maxRecDepth 20000 in
theorem gX7_cell_X7_isCell : GoodIn wsX7_cell (wsV RX7 107 RX7 yX7_isCell wsX7_isCell) := goodIn_app (goodIn_of _ (by decide +kernel)) ggX7_cell_X7_isCell
set_option maxRecDepth 20000 in
theorem ggX7_cell_X7_of : GoodIn wsX7_cell wsX7_of := goodIn_r _ [12] (by decide +kernel) (by decide +kernel)
set_option maxRecDepth 20000 in
theorem gX7_cell_X7_of : GoodIn wsX7_cell (va_wsS RX7 48 yX7_of wsX7_of) := goodIn_app (goodIn_of _ (by decide +kernel)) ggX7_cell_X7_of
set_option maxRecDepth 20000 in
theorem ggX7_cell_X7_base : GoodIn wsX7_cell wsX7_base := goodIn_r _ [15, 10, 11, 5, 12] (by decide +kernel) (by decide +kernel)
set_option maxRecDepth 20000 in
theorem gX7_cell_X7_base : GoodIn wsX7_cell (va_wsS RX7 52 yX7_base wsX7_base) := goodIn_app (goodIn_of _ (by decide +kernel)) ggX7_cell_X7_base
theorem dX7_cell_0 : decode cX7_cell 0 = .ok (.aload_n 0, 1) := by decide +kernel
theorem dX7_cell_1 : decode cX7_cell 1 = .ok (.iload_n 1, 1) := by decide +kernel
theorem dX7_cell_2 : decode cX7_cell 2 = .ok (.invokevirtual 107, 3) := by decide +kernel
theorem dX7_cell_5 : decode cX7_cell 5 = .ok (.ifCond .ne 5, 3) := by decide +kernel
theorem dX7_cell_8 : decode cX7_cell 8 = .ok (.iconst (-1), 1) := by decide +kernel
theorem dX7_cell_9 : decode cX7_cell 9 = .ok (.ireturn, 1) := by decide +kernel
theorem dX7_cell_10 : decode cX7_cell 10 = .ok (.iload_n 2, 1) := by decide +kernel
theorem dX7_cell_11 : decode cX7_cell 11 = .ok (.tableswitch 112 0 8 #[49, 59, 68, 78, 78, 78, 78, 78, 92], 49) := by decide +kernel
theorem dX7_cell_60 : decode cX7_cell 60 = .ok (.aload_n 0, 1) := by decide +kernel
theorem dX7_cell_61 : decode cX7_cell 61 = .ok (.getfield 7, 3) := by decide +kernel
theorem dX7_cell_64 : decode cX7_cell 64 = .ok (.iload_n 1, 1) := by decide +kernel
theorem dX7_cell_65 : decode cX7_cell 65 = .ok (.iconst 0, 1) := by decide +kernel
theorem dX7_cell_66 : decode cX7_cell 66 = .ok (.invokestatic 48, 3) := by decide +kernel
theorem dX7_cell_69 : decode cX7_cell 69 = .ok (.ireturn, 1) := by decide +kernel
theorem dX7_cell_70 : decode cX7_cell 70 = .ok (.aload_n 0, 1) := by decide +kernel
theorem dX7_cell_71 : decode cX7_cell 71 = .ok (.getfield 7, 3) := by decide +kernel
theorem dX7_cell_74 : decode cX7_cell 74 = .ok (.iload_n 1, 1) := by decide +kernel
theorem dX7_cell_75 : decode cX7_cell 75 = .ok (.invokestatic 52, 3) := by decide +kernel
theorem dX7_cell_78 : decode cX7_cell 78 = .ok (.ireturn, 1) := by decide +kernel
theorem dX7_cell_79 : decode cX7_cell 79 = .ok (.aload_n 0, 1) := by decide +kernel
theorem dX7_cell_80 : decode cX7_cell 80 = .ok (.getfield 7, 3) := by decide +kernel
theorem dX7_cell_83 : decode cX7_cell 83 = .ok (.iload_n 1, 1) := by decide +kernel
theorem dX7_cell_84 : decode cX7_cell 84 = .ok (.iconst 1, 1) := by decide +kernel
theorem dX7_cell_85 : decode cX7_cell 85 = .ok (.invokestatic 48, 3) := by decide +kernel
theorem dX7_cell_88 : decode cX7_cell 88 = .ok (.ireturn, 1) := by decide +kernel
theorem dX7_cell_89 : decode cX7_cell 89 = .ok (.aload_n 0, 1) := by decide +kernel
theorem dX7_cell_90 : decode cX7_cell 90 = .ok (.getfield 7, 3) := by decide +kernel
theorem dX7_cell_93 : decode cX7_cell 93 = .ok (.iload_n 1, 1) := by decide +kernel
theorem dX7_cell_94 : decode cX7_cell 94 = .ok (.iconst 2, 1) := by decide +kernel
theorem dX7_cell_95 : decode cX7_cell 95 = .ok (.iload_n 2, 1) := by decide +kernel
theorem dX7_cell_96 : decode cX7_cell 96 = .ok (.iadd, 1) := by decide +kernel
theorem dX7_cell_97 : decode cX7_cell 97 = .ok (.iconst 3, 1) := by decide +kernel
theorem dX7_cell_98 : decode cX7_cell 98 = .ok (.isub, 1) := by decide +kernel
theorem dX7_cell_99 : decode cX7_cell 99 = .ok (.invokestatic 48, 3) := by decide +kernel
theorem dX7_cell_102 : decode cX7_cell 102 = .ok (.ireturn, 1) := by decide +kernel
theorem dX7_cell_103 : decode cX7_cell 103 = .ok (.aload_n 0, 1) := by decide +kernel
theorem dX7_cell_104 : decode cX7_cell 104 = .ok (.getfield 7, 3) := by decide +kernel
theorem dX7_cell_107 : decode cX7_cell 107 = .ok (.iload_n 1, 1) := by decide +kernel
theorem dX7_cell_108 : decode cX7_cell 108 = .ok (.iconst 2, 1) := by decide +kernel
theorem dX7_cell_109 : decode cX7_cell 109 = .ok (.invokestatic 48, 3) := by decide +kernel
theorem dX7_cell_112 : decode cX7_cell 112 = .ok (.aload_n 0, 1) := by decide +kernel
theorem dX7_cell_113 : decode cX7_cell 113 = .ok (.getfield 7, 3) := by decide +kernel
theorem dX7_cell_116 : decode cX7_cell 116 = .ok (.iload_n 1, 1) := by decide +kernel
theorem dX7_cell_117 : decode cX7_cell 117 = .ok (.iconst 3, 1) := by decide +kernel
theorem dX7_cell_118 : decode cX7_cell 118 = .ok (.invokestatic 48, 3) := by decide +kernel
theorem dX7_cell_121 : decode cX7_cell 121 = .ok (.isub, 1) := by decide +kernel
theorem dX7_cell_122 : decode cX7_cell 122 = .ok (.ireturn, 1) := by decide +kernel
theorem dX7_cell_123 : decode cX7_cell 123 = .ok (.bipush (-2), 2) := by decide +kernel
theorem dX7_cell_125 : decode cX7_cell 125 = .ok (.ireturn, 1) := by decide +kernel
set_option maxRecDepth 20000 in
theorem ggX7_setting_X7_in : GoodIn wsX7_setting wsX7_in := goodIn_r _ [5] (by decide +kernel) (by decide +kernel)
set_option maxRecDepth 20000 in
theorem gX7_setting_X7_in : GoodIn wsX7_setting (va_wsS RX7 44 yX7_in wsX7_in) := goodIn_app (goodIn_of _ (by decide +kernel)) ggX7_setting_X7_in
theorem dX7_setting_0 : decode cX7_setting 0 = .ok (.iload_n 1, 1) := by decide +kernel
theorem dX7_setting_1 : decode cX7_setting 1 = .ok (.iconst 0, 1) := by decide +kernel
theorem dX7_setting_2 : decode cX7_setting 2 = .ok (.bipush 8, 2) := by decide +kernel
theorem dX7_setting_4 : decode cX7_setting 4 = .ok (.invokestatic 44, 3) := by decide +kernel
theorem dX7_setting_7 : decode cX7_setting 7 = .ok (.ifCond .eq 19, 3) := by decide +kernel
theorem dX7_setting_10 : decode cX7_setting 10 = .ok (.aload_n 0, 1) := by decide +kernel
theorem dX7_setting_11 : decode cX7_setting 11 = .ok (.getfield 7, 3) := by decide +kernel
theorem dX7_setting_14 : decode cX7_setting 14 = .ok (.bipush 42, 2) := by decide +kernel
theorem dX7_setting_16 : decode cX7_setting 16 = .ok (.iload_n 1, 1) := by decide +kernel
theorem dX7_setting_17 : decode cX7_setting 17 = .ok (.iadd, 1) := by decide +kernel
theorem dX7_setting_18 : decode cX7_setting 18 = .ok (.iaload, 1) := by decide +kernel
theorem dX7_setting_19 : decode cX7_setting 19 = .ok (.sipush 1000, 3) := by decide +kernel
theorem dX7_setting_22 : decode cX7_setting 22 = .ok (.iadd, 1) := by decide +kernel
theorem dX7_setting_23 : decode cX7_setting 23 = .ok (.goto 4, 3) := by decide +kernel
theorem dX7_setting_26 : decode cX7_setting 26 = .ok (.iconst (-1), 1) := by decide +kernel
theorem dX7_setting_27 : decode cX7_setting 27 = .ok (.ireturn, 1) := by decide +kernel
set_option maxRecDepth 20000 in
theorem ggX7_stage_X7_in : GoodIn wsX7_stage wsX7_in := goodIn_r _ [5] (by decide +kernel) (by decide +kernel)
set_option maxRecDepth 20000 in
theorem gX7_stage_X7_in : GoodIn wsX7_stage (va_wsS RX7 44 yX7_in wsX7_in) := goodIn_app (goodIn_of _ (by decide +kernel)) ggX7_stage_X7_in
set_option maxRecDepth 20000 in
theorem ggX7_stage_X7_ofStage : GoodIn wsX7_stage wsX7_ofStage := goodIn_r _ [8] (by decide +kernel) (by decide +kernel)
set_option maxRecDepth 20000 in
theorem gX7_stage_X7_ofStage : GoodIn wsX7_stage (va_wsS RX7 56 yX7_ofStage wsX7_ofStage) := goodIn_app (goodIn_of _ (by decide +kernel)) ggX7_stage_X7_ofStage
set_option maxRecDepth 20000 in
theorem ggX7_stage_X7_limit : GoodIn wsX7_stage wsX7_limit := goodIn_r _ [11, 6, 7, 4, 8] (by decide +kernel) (by decide +kernel)
set_option maxRecDepth 20000 in
theorem gX7_stage_X7_limit : GoodIn wsX7_stage (va_wsS RX7 59 yX7_limit wsX7_limit) := goodIn_app (goodIn_of _ (by decide +kernel)) ggX7_stage_X7_limit
theorem dX7_stage_0 : decode cX7_stage 0 = .ok (.iload_n 1, 1) := by decide +kernel
theorem dX7_stage_1 : decode cX7_stage 1 = .ok (.iconst 0, 1) := by decide +kernel
theorem dX7_stage_2 : decode cX7_stage 2 = .ok (.aload_n 0, 1) := by decide +kernel
theorem dX7_stage_3 : decode cX7_stage 3 = .ok (.getfield 7, 3) := by decide +kernel
theorem dX7_stage_6 : decode cX7_stage 6 = .ok (.bipush 72, 2) := by decide +kernel
theorem dX7_stage_8 : decode cX7_stage 8 = .ok (.iaload, 1) := by decide +kernel
theorem dX7_stage_9 : decode cX7_stage 9 = .ok (.iconst 1, 1) := by decide +kernel
theorem dX7_stage_10 : decode cX7_stage 10 = .ok (.isub, 1) := by decide +kernel
theorem dX7_stage_11 : decode cX7_stage 11 = .ok (.invokestatic 44, 3) := by decide +kernel
theorem dX7_stage_14 : decode cX7_stage 14 = .ok (.ifCond .ne 5, 3) := by decide +kernel
theorem dX7_stage_17 : decode cX7_stage 17 = .ok (.iconst (-1), 1) := by decide +kernel
theorem dX7_stage_18 : decode cX7_stage 18 = .ok (.ireturn, 1) := by decide +kernel
theorem dX7_stage_19 : decode cX7_stage 19 = .ok (.iload_n 2, 1) := by decide +kernel
theorem dX7_stage_20 : decode cX7_stage 20 = .ok (.iconst 0, 1) := by decide +kernel
theorem dX7_stage_21 : decode cX7_stage 21 = .ok (.iconst 4, 1) := by decide +kernel
theorem dX7_stage_22 : decode cX7_stage 22 = .ok (.invokestatic 44, 3) := by decide +kernel
theorem dX7_stage_25 : decode cX7_stage 25 = .ok (.ifCond .ne 6, 3) := by decide +kernel
theorem dX7_stage_28 : decode cX7_stage 28 = .ok (.bipush (-2), 2) := by decide +kernel
theorem dX7_stage_30 : decode cX7_stage 30 = .ok (.ireturn, 1) := by decide +kernel
theorem dX7_stage_31 : decode cX7_stage 31 = .ok (.iload_n 2, 1) := by decide +kernel
theorem dX7_stage_32 : decode cX7_stage 32 = .ok (.iconst 4, 1) := by decide +kernel
theorem dX7_stage_33 : decode cX7_stage 33 = .ok (.if_icmp .ne 30, 3) := by decide +kernel
theorem dX7_stage_36 : decode cX7_stage 36 = .ok (.aload_n 0, 1) := by decide +kernel
theorem dX7_stage_37 : decode cX7_stage 37 = .ok (.getfield 7, 3) := by decide +kernel
theorem dX7_stage_40 : decode cX7_stage 40 = .ok (.iload_n 1, 1) := by decide +kernel
theorem dX7_stage_41 : decode cX7_stage 41 = .ok (.iconst 0, 1) := by decide +kernel
theorem dX7_stage_42 : decode cX7_stage 42 = .ok (.invokestatic 56, 3) := by decide +kernel
theorem dX7_stage_45 : decode cX7_stage 45 = .ok (.iconst 2, 1) := by decide +kernel
theorem dX7_stage_46 : decode cX7_stage 46 = .ok (.if_icmp .ne 8, 3) := by decide +kernel
theorem dX7_stage_49 : decode cX7_stage 49 = .ok (.bipush (-5), 2) := by decide +kernel
theorem dX7_stage_51 : decode cX7_stage 51 = .ok (.goto 11, 3) := by decide +kernel
theorem dX7_stage_54 : decode cX7_stage 54 = .ok (.aload_n 0, 1) := by decide +kernel
theorem dX7_stage_55 : decode cX7_stage 55 = .ok (.getfield 7, 3) := by decide +kernel
theorem dX7_stage_58 : decode cX7_stage 58 = .ok (.iload_n 1, 1) := by decide +kernel
theorem dX7_stage_59 : decode cX7_stage 59 = .ok (.invokestatic 59, 3) := by decide +kernel
theorem dX7_stage_62 : decode cX7_stage 62 = .ok (.ireturn, 1) := by decide +kernel
theorem dX7_stage_63 : decode cX7_stage 63 = .ok (.aload_n 0, 1) := by decide +kernel
theorem dX7_stage_64 : decode cX7_stage 64 = .ok (.getfield 7, 3) := by decide +kernel
theorem dX7_stage_67 : decode cX7_stage 67 = .ok (.iload_n 1, 1) := by decide +kernel
theorem dX7_stage_68 : decode cX7_stage 68 = .ok (.iload_n 2, 1) := by decide +kernel
theorem dX7_stage_69 : decode cX7_stage 69 = .ok (.invokestatic 56, 3) := by decide +kernel
theorem dX7_stage_72 : decode cX7_stage 72 = .ok (.ireturn, 1) := by decide +kernel
set_option maxRecDepth 20000 in
theorem ggX7_voltage_X7_in : GoodIn wsX7_voltage wsX7_in := goodIn_r _ [5] (by decide +kernel) (by decide +kernel)
set_option maxRecDepth 20000 in
theorem gX7_voltage_X7_in : GoodIn wsX7_voltage (va_wsS RX7 44 yX7_in wsX7_in) := goodIn_app (goodIn_of _ (by decide +kernel)) ggX7_voltage_X7_in
set_option maxRecDepth 20000 in
theorem ggX7_voltage_X7_highest : GoodIn wsX7_voltage wsX7_highest := goodIn_r _ [8, 9, 10, 4, 11, 12, 13, 14] (by decide +kernel) (by decide +kernel)
set_option maxRecDepth 20000 in
theorem gX7_voltage_X7_highest : GoodIn wsX7_voltage (va_wsS RX7 62 yX7_highest wsX7_highest) := goodIn_app (goodIn_of _ (by decide +kernel)) ggX7_voltage_X7_highest
set_option maxRecDepth 20000 in
theorem ggX7_voltage_X7_more : GoodIn wsX7_voltage wsX7_more := goodIn_r _ [17] (by decide +kernel) (by decide +kernel)
set_option maxRecDepth 20000 in
theorem gX7_voltage_X7_more : GoodIn wsX7_voltage (va_wsS RX7 69 yX7_more wsX7_more) := goodIn_app (goodIn_of _ (by decide +kernel)) ggX7_voltage_X7_more
theorem dX7_voltage_0 : decode cX7_voltage 0 = .ok (.iload_n 1, 1) := by decide +kernel
theorem dX7_voltage_1 : decode cX7_voltage 1 = .ok (.iconst 0, 1) := by decide +kernel
theorem dX7_voltage_2 : decode cX7_voltage 2 = .ok (.sipush 2000, 3) := by decide +kernel
theorem dX7_voltage_5 : decode cX7_voltage 5 = .ok (.invokestatic 44, 3) := by decide +kernel
theorem dX7_voltage_8 : decode cX7_voltage 8 = .ok (.ifCond .eq 22, 3) := by decide +kernel
theorem dX7_voltage_11 : decode cX7_voltage 11 = .ok (.aload_n 0, 1) := by decide +kernel
theorem dX7_voltage_12 : decode cX7_voltage 12 = .ok (.getfield 7, 3) := by decide +kernel
theorem dX7_voltage_15 : decode cX7_voltage 15 = .ok (.invokestatic 62, 3) := by decide +kernel
theorem dX7_voltage_18 : decode cX7_voltage 18 = .ok (.aload_n 0, 1) := by decide +kernel
theorem dX7_voltage_19 : decode cX7_voltage 19 = .ok (.getfield 7, 3) := by decide +kernel
theorem dX7_voltage_22 : decode cX7_voltage 22 = .ok (.iload_n 1, 1) := by decide +kernel
theorem dX7_voltage_23 : decode cX7_voltage 23 = .ok (.invokestatic 69, 3) := by decide +kernel
theorem dX7_voltage_26 : decode cX7_voltage 26 = .ok (.iadd, 1) := by decide +kernel
theorem dX7_voltage_27 : decode cX7_voltage 27 = .ok (.goto 5, 3) := by decide +kernel
theorem dX7_voltage_30 : decode cX7_voltage 30 = .ok (.bipush (-2), 2) := by decide +kernel
theorem dX7_voltage_32 : decode cX7_voltage 32 = .ok (.ireturn, 1) := by decide +kernel
set_option maxRecDepth 20000 in
theorem ggX7_current_X7_isOut : GoodIn wsX7_current wsX7_isOut := goodIn_r _ [5, 6, 7, 4, 8] (by decide +kernel) (by decide +kernel)
set_option maxRecDepth 20000 in
theorem gX7_current_X7_isOut : GoodIn wsX7_current (va_wsS RX7 97 yX7_isOut wsX7_isOut) := goodIn_app (goodIn_of _ (by decide +kernel)) ggX7_current_X7_isOut
set_option maxRecDepth 20000 in
theorem ggX7_current_X7_told : GoodIn wsX7_current wsX7_told := goodIn_r _ [11, 12, 13, 4, 14, 15, 16, 17, 18, 19, 20, 21, 22, 23, 24, 25, 26, 27, 28, 29] (by decide +kernel) (by decide +kernel)
set_option maxRecDepth 20000 in
theorem gX7_current_X7_told : GoodIn wsX7_current (va_wsS RX7 76 yX7_told wsX7_told) := goodIn_app (goodIn_of _ (by decide +kernel)) ggX7_current_X7_told
set_option maxRecDepth 20000 in
theorem ggX7_current_X7_endsAtOnce : GoodIn wsX7_current wsX7_endsAtOnce := goodIn_r _ [32, 12, 13, 4, 14] (by decide +kernel) (by decide +kernel)
set_option maxRecDepth 20000 in
theorem gX7_current_X7_endsAtOnce : GoodIn wsX7_current (va_wsS RX7 79 yX7_endsAtOnce wsX7_endsAtOnce) := goodIn_app (goodIn_of _ (by decide +kernel)) ggX7_current_X7_endsAtOnce
theorem dX7_current_0 : decode cX7_current 0 = .ok (.aload_n 0, 1) := by decide +kernel
theorem dX7_current_1 : decode cX7_current 1 = .ok (.getfield 7, 3) := by decide +kernel
theorem dX7_current_4 : decode cX7_current 4 = .ok (.bipush 73, 2) := by decide +kernel
theorem dX7_current_6 : decode cX7_current 6 = .ok (.iaload, 1) := by decide +kernel
theorem dX7_current_7 : decode cX7_current 7 = .ok (.iconst 1, 1) := by decide +kernel
theorem dX7_current_8 : decode cX7_current 8 = .ok (.if_icmp .ne 13, 3) := by decide +kernel
theorem dX7_current_11 : decode cX7_current 11 = .ok (.aload_n 0, 1) := by decide +kernel
theorem dX7_current_12 : decode cX7_current 12 = .ok (.getfield 7, 3) := by decide +kernel
theorem dX7_current_15 : decode cX7_current 15 = .ok (.invokestatic 97, 3) := by decide +kernel
theorem dX7_current_18 : decode cX7_current 18 = .ok (.ifCond .eq 5, 3) := by decide +kernel
theorem dX7_current_21 : decode cX7_current 21 = .ok (.iconst 0, 1) := by decide +kernel
theorem dX7_current_22 : decode cX7_current 22 = .ok (.ireturn, 1) := by decide +kernel
theorem dX7_current_23 : decode cX7_current 23 = .ok (.aload_n 0, 1) := by decide +kernel
theorem dX7_current_24 : decode cX7_current 24 = .ok (.getfield 7, 3) := by decide +kernel
theorem dX7_current_27 : decode cX7_current 27 = .ok (.invokestatic 76, 3) := by decide +kernel
theorem dX7_current_30 : decode cX7_current 30 = .ok (.istore_n 1, 1) := by decide +kernel
theorem dX7_current_31 : decode cX7_current 31 = .ok (.aload_n 0, 1) := by decide +kernel
theorem dX7_current_32 : decode cX7_current 32 = .ok (.getfield 7, 3) := by decide +kernel
theorem dX7_current_35 : decode cX7_current 35 = .ok (.iload_n 1, 1) := by decide +kernel
theorem dX7_current_36 : decode cX7_current 36 = .ok (.invokestatic 79, 3) := by decide +kernel
theorem dX7_current_39 : decode cX7_current 39 = .ok (.ifCond .eq 7, 3) := by decide +kernel
theorem dX7_current_42 : decode cX7_current 42 = .ok (.iconst 0, 1) := by decide +kernel
theorem dX7_current_43 : decode cX7_current 43 = .ok (.goto 4, 3) := by decide +kernel
theorem dX7_current_46 : decode cX7_current 46 = .ok (.iload_n 1, 1) := by decide +kernel
theorem dX7_current_47 : decode cX7_current 47 = .ok (.ireturn, 1) := by decide +kernel
set_option maxRecDepth 20000 in
theorem ggX7_doneBy_X7_tick : GoodIn wsX7_doneBy wsX7_tick := goodIn_r _ [5, 6, 7, 4, 8, 9, 10, 11, 12, 13, 14, 15, 16, 17, 18, 19, 20, 21, 22, 23, 24, 25, 26, 27, 28, 29, 30, 31, 32, 33, 34, 35, 36, 37, 38, 39, 40, 41, 42, 43, 44, 45, 46, 47, 48, 49, 50, 51, 52, 53, 54, 55, 56, 57, 58, 59] (by decide +kernel) (by decide +kernel)
set_option maxRecDepth 20000 in
theorem gX7_doneBy_X7_tick : GoodIn wsX7_doneBy (va_wsS RX7 123 yX7_tick wsX7_tick) := goodIn_app (goodIn_of _ (by decide +kernel)) ggX7_doneBy_X7_tick
theorem dX7_doneBy_0 : decode cX7_doneBy 0 = .ok (.iconst 1, 1) := by decide +kernel
theorem dX7_doneBy_1 : decode cX7_doneBy 1 = .ok (.istore_n 2, 1) := by decide +kernel
theorem dX7_doneBy_2 : decode cX7_doneBy 2 = .ok (.iload_n 2, 1) := by decide +kernel
theorem dX7_doneBy_3 : decode cX7_doneBy 3 = .ok (.iload_n 1, 1) := by decide +kernel
theorem dX7_doneBy_4 : decode cX7_doneBy 4 = .ok (.if_icmp .gt 40, 3) := by decide +kernel
theorem dX7_doneBy_7 : decode cX7_doneBy 7 = .ok (.aload_n 0, 1) := by decide +kernel
theorem dX7_doneBy_8 : decode cX7_doneBy 8 = .ok (.getfield 13, 3) := by decide +kernel
theorem dX7_doneBy_11 : decode cX7_doneBy 11 = .ok (.bipush 73, 2) := by decide +kernel
theorem dX7_doneBy_13 : decode cX7_doneBy 13 = .ok (.iaload, 1) := by decide +kernel
theorem dX7_doneBy_14 : decode cX7_doneBy 14 = .ok (.iconst 1, 1) := by decide +kernel
theorem dX7_doneBy_15 : decode cX7_doneBy 15 = .ok (.if_icmp .ne 29, 3) := by decide +kernel
theorem dX7_doneBy_18 : decode cX7_doneBy 18 = .ok (.aload_n 0, 1) := by decide +kernel
theorem dX7_doneBy_19 : decode cX7_doneBy 19 = .ok (.getfield 13, 3) := by decide +kernel
theorem dX7_doneBy_22 : decode cX7_doneBy 22 = .ok (.invokestatic 123, 3) := by decide +kernel
theorem dX7_doneBy_25 : decode cX7_doneBy 25 = .ok (.aload_n 0, 1) := by decide +kernel
theorem dX7_doneBy_26 : decode cX7_doneBy 26 = .ok (.getfield 13, 3) := by decide +kernel
theorem dX7_doneBy_29 : decode cX7_doneBy 29 = .ok (.bipush 73, 2) := by decide +kernel
theorem dX7_doneBy_31 : decode cX7_doneBy 31 = .ok (.iaload, 1) := by decide +kernel
theorem dX7_doneBy_32 : decode cX7_doneBy 32 = .ok (.iconst 2, 1) := by decide +kernel
theorem dX7_doneBy_33 : decode cX7_doneBy 33 = .ok (.if_icmp .ne 5, 3) := by decide +kernel
theorem dX7_doneBy_36 : decode cX7_doneBy 36 = .ok (.iload_n 2, 1) := by decide +kernel
theorem dX7_doneBy_37 : decode cX7_doneBy 37 = .ok (.ireturn, 1) := by decide +kernel
theorem dX7_doneBy_38 : decode cX7_doneBy 38 = .ok (.iinc 2 1, 3) := by decide +kernel
theorem dX7_doneBy_41 : decode cX7_doneBy 41 = .ok (.goto (-39), 3) := by decide +kernel
theorem dX7_doneBy_44 : decode cX7_doneBy 44 = .ok (.bipush (-5), 2) := by decide +kernel
theorem dX7_doneBy_46 : decode cX7_doneBy 46 = .ok (.ireturn, 1) := by decide +kernel
set_option maxRecDepth 20000 in
theorem ggX7_doneIn_X7_copies : GoodIn wsX7_doneIn wsX7_copies := goodIn_r _ [6] (by decide +kernel) (by decide +kernel)
set_option maxRecDepth 20000 in
theorem gX7_doneIn_X7_copies : GoodIn wsX7_doneIn (va_wsS RX7 33 yX7_copies wsX7_copies) := goodIn_app (goodIn_of _ (by decide +kernel)) ggX7_doneIn_X7_copies
set_option maxRecDepth 20000 in
theorem ggX7_doneIn_X7_doneBy : GoodIn wsX7_doneIn wsX7_doneBy := goodIn_r _ [10, 2, 11, 12, 5, 13, 14, 15, 16, 17, 18, 19, 20, 21, 22, 23, 24, 25, 26, 27, 28, 29, 30, 31, 32, 33, 34, 35, 36, 37, 38, 39, 40, 41, 42, 43, 44, 45, 46, 47, 48, 49, 50, 51, 52, 53, 54, 55, 56, 57, 58, 59, 60, 61, 62, 63, 64, 65, 66, 67, 68, 69, 70, 71, 72, 73, 74, 75, 76, 77, 78, 79] (by decide +kernel) (by decide +kernel)
set_option maxRecDepth 20000 in
theorem gX7_doneIn_X7_doneBy : GoodIn wsX7_doneIn (wsV RX7 157 RX7 yX7_doneBy wsX7_doneBy) := goodIn_app (goodIn_of _ (by decide +kernel)) ggX7_doneIn_X7_doneBy
theorem dX7_doneIn_0 : decode cX7_doneIn 0 = .ok (.aload_n 0, 1) := by decide +kernel
theorem dX7_doneIn_1 : decode cX7_doneIn 1 = .ok (.getfield 7, 3) := by decide +kernel
theorem dX7_doneIn_4 : decode cX7_doneIn 4 = .ok (.aload_n 0, 1) := by decide +kernel
theorem dX7_doneIn_5 : decode cX7_doneIn 5 = .ok (.getfield 13, 3) := by decide +kernel
theorem dX7_doneIn_8 : decode cX7_doneIn 8 = .ok (.iconst 0, 1) := by decide +kernel
theorem dX7_doneIn_9 : decode cX7_doneIn 9 = .ok (.invokestatic 33, 3) := by decide +kernel
theorem dX7_doneIn_12 : decode cX7_doneIn 12 = .ok (.aload_n 0, 1) := by decide +kernel
theorem dX7_doneIn_13 : decode cX7_doneIn 13 = .ok (.getfield 7, 3) := by decide +kernel
theorem dX7_doneIn_16 : decode cX7_doneIn 16 = .ok (.bipush 73, 2) := by decide +kernel
theorem dX7_doneIn_18 : decode cX7_doneIn 18 = .ok (.iaload, 1) := by decide +kernel
theorem dX7_doneIn_19 : decode cX7_doneIn 19 = .ok (.iconst 2, 1) := by decide +kernel
theorem dX7_doneIn_20 : decode cX7_doneIn 20 = .ok (.if_icmp .ne 7, 3) := by decide +kernel
theorem dX7_doneIn_23 : decode cX7_doneIn 23 = .ok (.iconst 0, 1) := by decide +kernel
theorem dX7_doneIn_24 : decode cX7_doneIn 24 = .ok (.goto 10, 3) := by decide +kernel
theorem dX7_doneIn_27 : decode cX7_doneIn 27 = .ok (.aload_n 0, 1) := by decide +kernel
theorem dX7_doneIn_28 : decode cX7_doneIn 28 = .ok (.sipush 2000, 3) := by decide +kernel
theorem dX7_doneIn_31 : decode cX7_doneIn 31 = .ok (.invokevirtual 157, 3) := by decide +kernel
theorem dX7_doneIn_34 : decode cX7_doneIn 34 = .ok (.ireturn, 1) := by decide +kernel
set_option maxRecDepth 20000 in
theorem ggX7_chargeIn_X7_isCell : GoodIn wsX7_chargeIn wsX7_isCell := goodIn_r _ [7, 1, 8, 9, 6, 10, 68, 69, 70, 71, 72, 73, 74, 75, 76, 77, 78, 79] (by decide +kernel) (by decide +kernel)
set_option maxRecDepth 20000 in
theorem gX7_chargeIn_X7_isCell : GoodIn wsX7_chargeIn (wsV RX7 107 RX7 yX7_isCell wsX7_isCell) := goodIn_app (goodIn_of _ (by decide +kernel)) ggX7_chargeIn_X7_isCell
set_option maxRecDepth 20000 in
theorem ggX7_chargeIn_X7_in : GoodIn wsX7_chargeIn wsX7_in := goodIn_r _ [10] (by decide +kernel) (by decide +kernel)
set_option maxRecDepth 20000 in
theorem gX7_chargeIn_X7_in : GoodIn wsX7_chargeIn (va_wsS RX7 44 yX7_in wsX7_in) := goodIn_app (goodIn_of _ (by decide +kernel)) ggX7_chargeIn_X7_in
set_option maxRecDepth 20000 in
theorem ggX7_chargeIn_X7_copies : GoodIn wsX7_chargeIn wsX7_copies := goodIn_r _ [13] (by decide +kernel) (by decide +kernel)
set_option maxRecDepth 20000 in
theorem gX7_chargeIn_X7_copies : GoodIn wsX7_chargeIn (va_wsS RX7 33 yX7_copies wsX7_copies) := goodIn_app (goodIn_of _ (by decide +kernel)) ggX7_chargeIn_X7_copies
set_option maxRecDepth 20000 in
theorem ggX7_chargeIn_X7_tick : GoodIn wsX7_chargeIn wsX7_tick := goodIn_r _ [16, 17, 18, 6, 19, 8, 9, 10, 20, 21, 22, 23, 24, 25, 26, 27, 28, 29, 30, 31, 32, 33, 34, 35, 36, 37, 38, 39, 40, 41, 42, 43, 44, 45, 46, 47, 48, 49, 50, 51, 52, 53, 54, 55, 56, 57, 58, 59, 60, 61, 62, 63, 64, 65, 66, 67] (by decide +kernel) (by decide +kernel)
set_option maxRecDepth 20000 in
theorem gX7_chargeIn_X7_tick : GoodIn wsX7_chargeIn (va_wsS RX7 123 yX7_tick wsX7_tick) := goodIn_app (goodIn_of _ (by decide +kernel)) ggX7_chargeIn_X7_tick
set_option maxRecDepth 20000 in
theorem ggX7_chargeIn_X7_of : GoodIn wsX7_chargeIn wsX7_of := goodIn_r _ [46] (by decide +kernel) (by decide +kernel)
set_option maxRecDepth 20000 in
theorem gX7_chargeIn_X7_of : GoodIn wsX7_chargeIn (va_wsS RX7 48 yX7_of wsX7_of) := goodIn_app (goodIn_of _ (by decide +kernel)) ggX7_chargeIn_X7_of
theorem dX7_chargeIn_0 : decode cX7_chargeIn 0 = .ok (.aload_n 0, 1) := by decide +kernel
theorem dX7_chargeIn_1 : decode cX7_chargeIn 1 = .ok (.iload_n 1, 1) := by decide +kernel
theorem dX7_chargeIn_2 : decode cX7_chargeIn 2 = .ok (.invokevirtual 107, 3) := by decide +kernel
theorem dX7_chargeIn_5 : decode cX7_chargeIn 5 = .ok (.ifCond .ne 5, 3) := by decide +kernel
theorem dX7_chargeIn_8 : decode cX7_chargeIn 8 = .ok (.iconst (-1), 1) := by decide +kernel
theorem dX7_chargeIn_9 : decode cX7_chargeIn 9 = .ok (.ireturn, 1) := by decide +kernel
theorem dX7_chargeIn_10 : decode cX7_chargeIn 10 = .ok (.iload_n 2, 1) := by decide +kernel
theorem dX7_chargeIn_11 : decode cX7_chargeIn 11 = .ok (.iconst 0, 1) := by decide +kernel
theorem dX7_chargeIn_12 : decode cX7_chargeIn 12 = .ok (.sipush 200, 3) := by decide +kernel
theorem dX7_chargeIn_15 : decode cX7_chargeIn 15 = .ok (.invokestatic 44, 3) := by decide +kernel
theorem dX7_chargeIn_18 : decode cX7_chargeIn 18 = .ok (.ifCond .ne 6, 3) := by decide +kernel
theorem dX7_chargeIn_21 : decode cX7_chargeIn 21 = .ok (.bipush (-2), 2) := by decide +kernel
theorem dX7_chargeIn_23 : decode cX7_chargeIn 23 = .ok (.ireturn, 1) := by decide +kernel
theorem dX7_chargeIn_24 : decode cX7_chargeIn 24 = .ok (.aload_n 0, 1) := by decide +kernel
theorem dX7_chargeIn_25 : decode cX7_chargeIn 25 = .ok (.getfield 7, 3) := by decide +kernel
theorem dX7_chargeIn_28 : decode cX7_chargeIn 28 = .ok (.aload_n 0, 1) := by decide +kernel
theorem dX7_chargeIn_29 : decode cX7_chargeIn 29 = .ok (.getfield 13, 3) := by decide +kernel
theorem dX7_chargeIn_32 : decode cX7_chargeIn 32 = .ok (.iconst 0, 1) := by decide +kernel
theorem dX7_chargeIn_33 : decode cX7_chargeIn 33 = .ok (.invokestatic 33, 3) := by decide +kernel
theorem dX7_chargeIn_36 : decode cX7_chargeIn 36 = .ok (.iconst 0, 1) := by decide +kernel
theorem dX7_chargeIn_37 : decode cX7_chargeIn 37 = .ok (.istore_n 3, 1) := by decide +kernel
theorem dX7_chargeIn_38 : decode cX7_chargeIn 38 = .ok (.iload_n 3, 1) := by decide +kernel
theorem dX7_chargeIn_39 : decode cX7_chargeIn 39 = .ok (.iload_n 2, 1) := by decide +kernel
theorem dX7_chargeIn_40 : decode cX7_chargeIn 40 = .ok (.if_icmp .ge 16, 3) := by decide +kernel
theorem dX7_chargeIn_43 : decode cX7_chargeIn 43 = .ok (.aload_n 0, 1) := by decide +kernel
theorem dX7_chargeIn_44 : decode cX7_chargeIn 44 = .ok (.getfield 13, 3) := by decide +kernel
theorem dX7_chargeIn_47 : decode cX7_chargeIn 47 = .ok (.invokestatic 123, 3) := by decide +kernel
theorem dX7_chargeIn_50 : decode cX7_chargeIn 50 = .ok (.iinc 3 1, 3) := by decide +kernel
theorem dX7_chargeIn_53 : decode cX7_chargeIn 53 = .ok (.goto (-15), 3) := by decide +kernel
theorem dX7_chargeIn_56 : decode cX7_chargeIn 56 = .ok (.aload_n 0, 1) := by decide +kernel
theorem dX7_chargeIn_57 : decode cX7_chargeIn 57 = .ok (.getfield 13, 3) := by decide +kernel
theorem dX7_chargeIn_60 : decode cX7_chargeIn 60 = .ok (.iload_n 1, 1) := by decide +kernel
theorem dX7_chargeIn_61 : decode cX7_chargeIn 61 = .ok (.iconst 0, 1) := by decide +kernel
theorem dX7_chargeIn_62 : decode cX7_chargeIn 62 = .ok (.invokestatic 48, 3) := by decide +kernel
theorem dX7_chargeIn_65 : decode cX7_chargeIn 65 = .ok (.ireturn, 1) := by decide +kernel
set_option maxRecDepth 20000 in
theorem ggX7_warmest_X7_copies : GoodIn wsX7_warmest wsX7_copies := goodIn_r _ [6] (by decide +kernel) (by decide +kernel)
set_option maxRecDepth 20000 in
theorem gX7_warmest_X7_copies : GoodIn wsX7_warmest (va_wsS RX7 33 yX7_copies wsX7_copies) := goodIn_app (goodIn_of _ (by decide +kernel)) ggX7_warmest_X7_copies
set_option maxRecDepth 20000 in
theorem ggX7_warmest_X7_doneBy : GoodIn wsX7_warmest wsX7_doneBy := goodIn_r _ [10, 2, 11, 12, 5, 13, 14, 15, 16, 17, 18, 19, 20, 21, 22, 23, 24, 25, 26, 27, 28, 29, 30, 31, 32, 33, 34, 35, 36, 37, 38, 39, 40, 41, 42, 43, 44, 45, 46, 47, 48, 49, 50, 51, 52, 53, 54, 55, 56, 57, 58, 59, 60, 61, 62, 63, 64, 65, 66, 67, 68, 69, 70, 71, 72, 73, 74, 75, 76, 77, 78, 79] (by decide +kernel) (by decide +kernel)
set_option maxRecDepth 20000 in
theorem gX7_warmest_X7_doneBy : GoodIn wsX7_warmest (wsV RX7 157 RX7 yX7_doneBy wsX7_doneBy) := goodIn_app (goodIn_of _ (by decide +kernel)) ggX7_warmest_X7_doneBy
theorem dX7_warmest_0 : decode cX7_warmest 0 = .ok (.aload_n 0, 1) := by decide +kernel
theorem dX7_warmest_1 : decode cX7_warmest 1 = .ok (.getfield 7, 3) := by decide +kernel
theorem dX7_warmest_4 : decode cX7_warmest 4 = .ok (.bipush 73, 2) := by decide +kernel
theorem dX7_warmest_6 : decode cX7_warmest 6 = .ok (.iaload, 1) := by decide +kernel
theorem dX7_warmest_7 : decode cX7_warmest 7 = .ok (.iconst 1, 1) := by decide +kernel
theorem dX7_warmest_8 : decode cX7_warmest 8 = .ok (.if_icmp .eq 6, 3) := by decide +kernel
theorem dX7_warmest_11 : decode cX7_warmest 11 = .ok (.bipush (-4), 2) := by decide +kernel
theorem dX7_warmest_13 : decode cX7_warmest 13 = .ok (.ireturn, 1) := by decide +kernel
theorem dX7_warmest_14 : decode cX7_warmest 14 = .ok (.aload_n 0, 1) := by decide +kernel
theorem dX7_warmest_15 : decode cX7_warmest 15 = .ok (.getfield 7, 3) := by decide +kernel
theorem dX7_warmest_18 : decode cX7_warmest 18 = .ok (.bipush 48, 2) := by decide +kernel
theorem dX7_warmest_20 : decode cX7_warmest 20 = .ok (.iaload, 1) := by decide +kernel
theorem dX7_warmest_21 : decode cX7_warmest 21 = .ok (.istore_n 1, 1) := by decide +kernel
theorem dX7_warmest_22 : decode cX7_warmest 22 = .ok (.iload_n 1, 1) := by decide +kernel
theorem dX7_warmest_23 : decode cX7_warmest 23 = .ok (.aload_n 0, 1) := by decide +kernel
theorem dX7_warmest_24 : decode cX7_warmest 24 = .ok (.getfield 7, 3) := by decide +kernel
theorem dX7_warmest_27 : decode cX7_warmest 27 = .ok (.bipush 47, 2) := by decide +kernel
theorem dX7_warmest_29 : decode cX7_warmest 29 = .ok (.iaload, 1) := by decide +kernel
theorem dX7_warmest_30 : decode cX7_warmest 30 = .ok (.if_icmp .lt 45, 3) := by decide +kernel
theorem dX7_warmest_33 : decode cX7_warmest 33 = .ok (.aload_n 0, 1) := by decide +kernel
theorem dX7_warmest_34 : decode cX7_warmest 34 = .ok (.getfield 7, 3) := by decide +kernel
theorem dX7_warmest_37 : decode cX7_warmest 37 = .ok (.aload_n 0, 1) := by decide +kernel
theorem dX7_warmest_38 : decode cX7_warmest 38 = .ok (.getfield 13, 3) := by decide +kernel
theorem dX7_warmest_41 : decode cX7_warmest 41 = .ok (.iconst 0, 1) := by decide +kernel
theorem dX7_warmest_42 : decode cX7_warmest 42 = .ok (.invokestatic 33, 3) := by decide +kernel
theorem dX7_warmest_45 : decode cX7_warmest 45 = .ok (.aload_n 0, 1) := by decide +kernel
theorem dX7_warmest_46 : decode cX7_warmest 46 = .ok (.getfield 13, 3) := by decide +kernel
theorem dX7_warmest_49 : decode cX7_warmest 49 = .ok (.bipush 45, 2) := by decide +kernel
theorem dX7_warmest_51 : decode cX7_warmest 51 = .ok (.iload_n 1, 1) := by decide +kernel
theorem dX7_warmest_52 : decode cX7_warmest 52 = .ok (.iastore, 1) := by decide +kernel
theorem dX7_warmest_53 : decode cX7_warmest 53 = .ok (.aload_n 0, 1) := by decide +kernel
theorem dX7_warmest_54 : decode cX7_warmest 54 = .ok (.sipush 500, 3) := by decide +kernel
theorem dX7_warmest_57 : decode cX7_warmest 57 = .ok (.invokevirtual 157, 3) := by decide +kernel
theorem dX7_warmest_60 : decode cX7_warmest 60 = .ok (.ifCond .le 9, 3) := by decide +kernel
theorem dX7_warmest_63 : decode cX7_warmest 63 = .ok (.iload_n 1, 1) := by decide +kernel
theorem dX7_warmest_64 : decode cX7_warmest 64 = .ok (.sipush 1000, 3) := by decide +kernel
theorem dX7_warmest_67 : decode cX7_warmest 67 = .ok (.iadd, 1) := by decide +kernel
theorem dX7_warmest_68 : decode cX7_warmest 68 = .ok (.ireturn, 1) := by decide +kernel
theorem dX7_warmest_69 : decode cX7_warmest 69 = .ok (.iinc 1 (-1), 3) := by decide +kernel
theorem dX7_warmest_72 : decode cX7_warmest 72 = .ok (.goto (-50), 3) := by decide +kernel
theorem dX7_warmest_75 : decode cX7_warmest 75 = .ok (.bipush (-5), 2) := by decide +kernel
theorem dX7_warmest_77 : decode cX7_warmest 77 = .ok (.ireturn, 1) := by decide +kernel
set_option maxRecDepth 20000 in
theorem ggX7_event_X7_in : GoodIn wsX7_event wsX7_in := goodIn_r _ [5] (by decide +kernel) (by decide +kernel)
set_option maxRecDepth 20000 in
theorem gX7_event_X7_in : GoodIn wsX7_event (va_wsS RX7 44 yX7_in wsX7_in) := goodIn_app (goodIn_of _ (by decide +kernel)) ggX7_event_X7_in
theorem dX7_event_0 : decode cX7_event 0 = .ok (.iload_n 1, 1) := by decide +kernel
theorem dX7_event_1 : decode cX7_event 1 = .ok (.ifCond .lt 12, 3) := by decide +kernel
theorem dX7_event_4 : decode cX7_event 4 = .ok (.iload_n 2, 1) := by decide +kernel
theorem dX7_event_5 : decode cX7_event 5 = .ok (.iconst 0, 1) := by decide +kernel
theorem dX7_event_6 : decode cX7_event 6 = .ok (.iconst 2, 1) := by decide +kernel
theorem dX7_event_7 : decode cX7_event 7 = .ok (.invokestatic 44, 3) := by decide +kernel
theorem dX7_event_10 : decode cX7_event 10 = .ok (.ifCond .ne 6, 3) := by decide +kernel
theorem dX7_event_13 : decode cX7_event 13 = .ok (.bipush (-2), 2) := by decide +kernel
theorem dX7_event_15 : decode cX7_event 15 = .ok (.ireturn, 1) := by decide +kernel
theorem dX7_event_16 : decode cX7_event 16 = .ok (.iload_n 1, 1) := by decide +kernel
theorem dX7_event_17 : decode cX7_event 17 = .ok (.aload_n 0, 1) := by decide +kernel
theorem dX7_event_18 : decode cX7_event 18 = .ok (.getfield 7, 3) := by decide +kernel
theorem dX7_event_21 : decode cX7_event 21 = .ok (.bipush 81, 2) := by decide +kernel
theorem dX7_event_23 : decode cX7_event 23 = .ok (.iaload, 1) := by decide +kernel
theorem dX7_event_24 : decode cX7_event 24 = .ok (.if_icmp .ge 29, 3) := by decide +kernel
theorem dX7_event_27 : decode cX7_event 27 = .ok (.aload_n 0, 1) := by decide +kernel
theorem dX7_event_28 : decode cX7_event 28 = .ok (.getfield 7, 3) := by decide +kernel
theorem dX7_event_31 : decode cX7_event 31 = .ok (.bipush 82, 2) := by decide +kernel
theorem dX7_event_33 : decode cX7_event 33 = .ok (.iconst 3, 1) := by decide +kernel
theorem dX7_event_34 : decode cX7_event 34 = .ok (.aload_n 0, 1) := by decide +kernel
theorem dX7_event_35 : decode cX7_event 35 = .ok (.getfield 7, 3) := by decide +kernel
theorem dX7_event_38 : decode cX7_event 38 = .ok (.bipush 81, 2) := by decide +kernel
theorem dX7_event_40 : decode cX7_event 40 = .ok (.iaload, 1) := by decide +kernel
theorem dX7_event_41 : decode cX7_event 41 = .ok (.iconst 1, 1) := by decide +kernel
theorem dX7_event_42 : decode cX7_event 42 = .ok (.isub, 1) := by decide +kernel
theorem dX7_event_43 : decode cX7_event 43 = .ok (.iload_n 1, 1) := by decide +kernel
theorem dX7_event_44 : decode cX7_event 44 = .ok (.isub, 1) := by decide +kernel
theorem dX7_event_45 : decode cX7_event 45 = .ok (.imul, 1) := by decide +kernel
theorem dX7_event_46 : decode cX7_event 46 = .ok (.iadd, 1) := by decide +kernel
theorem dX7_event_47 : decode cX7_event 47 = .ok (.iload_n 2, 1) := by decide +kernel
theorem dX7_event_48 : decode cX7_event 48 = .ok (.iadd, 1) := by decide +kernel
theorem dX7_event_49 : decode cX7_event 49 = .ok (.iaload, 1) := by decide +kernel
theorem dX7_event_50 : decode cX7_event 50 = .ok (.goto 5, 3) := by decide +kernel
theorem dX7_event_53 : decode cX7_event 53 = .ok (.bipush (-5), 2) := by decide +kernel
theorem dX7_event_55 : decode cX7_event 55 = .ok (.ireturn, 1) := by decide +kernel
set_option maxRecDepth 20000 in
theorem ggX7_count_X7_charged : GoodIn wsX7_count wsX7_charged := goodIn_r _ [7, 8, 9, 6, 10] (by decide +kernel) (by decide +kernel)
set_option maxRecDepth 20000 in
theorem gX7_count_X7_charged : GoodIn wsX7_count (va_wsS RX7 111 yX7_charged wsX7_charged) := goodIn_app (goodIn_of _ (by decide +kernel)) ggX7_count_X7_charged
set_option maxRecDepth 20000 in
theorem ggX7_count_X7_isOut : GoodIn wsX7_count wsX7_isOut := goodIn_r _ [13, 14, 15, 6, 16] (by decide +kernel) (by decide +kernel)
set_option maxRecDepth 20000 in
theorem gX7_count_X7_isOut : GoodIn wsX7_count (va_wsS RX7 97 yX7_isOut wsX7_isOut) := goodIn_app (goodIn_of _ (by decide +kernel)) ggX7_count_X7_isOut
theorem dX7_count_0 : decode cX7_count 0 = .ok (.iload_n 1, 1) := by decide +kernel
theorem dX7_count_1 : decode cX7_count 1 = .ok (.tableswitch 230 0 13 #[71, 79, 87, 95, 103, 127, 150, 158, 158, 177, 204, 212, 220, 225], 71) := by decide +kernel
theorem dX7_count_72 : decode cX7_count 72 = .ok (.aload_n 0, 1) := by decide +kernel
theorem dX7_count_73 : decode cX7_count 73 = .ok (.getfield 7, 3) := by decide +kernel
theorem dX7_count_76 : decode cX7_count 76 = .ok (.bipush 76, 2) := by decide +kernel
theorem dX7_count_78 : decode cX7_count 78 = .ok (.iaload, 1) := by decide +kernel
theorem dX7_count_79 : decode cX7_count 79 = .ok (.ireturn, 1) := by decide +kernel
theorem dX7_count_80 : decode cX7_count 80 = .ok (.aload_n 0, 1) := by decide +kernel
theorem dX7_count_81 : decode cX7_count 81 = .ok (.getfield 7, 3) := by decide +kernel
theorem dX7_count_84 : decode cX7_count 84 = .ok (.bipush 71, 2) := by decide +kernel
theorem dX7_count_86 : decode cX7_count 86 = .ok (.iaload, 1) := by decide +kernel
theorem dX7_count_87 : decode cX7_count 87 = .ok (.ireturn, 1) := by decide +kernel
theorem dX7_count_88 : decode cX7_count 88 = .ok (.aload_n 0, 1) := by decide +kernel
theorem dX7_count_89 : decode cX7_count 89 = .ok (.getfield 7, 3) := by decide +kernel
theorem dX7_count_92 : decode cX7_count 92 = .ok (.bipush 72, 2) := by decide +kernel
theorem dX7_count_94 : decode cX7_count 94 = .ok (.iaload, 1) := by decide +kernel
theorem dX7_count_95 : decode cX7_count 95 = .ok (.ireturn, 1) := by decide +kernel
theorem dX7_count_96 : decode cX7_count 96 = .ok (.aload_n 0, 1) := by decide +kernel
theorem dX7_count_97 : decode cX7_count 97 = .ok (.getfield 7, 3) := by decide +kernel
theorem dX7_count_100 : decode cX7_count 100 = .ok (.bipush 73, 2) := by decide +kernel
theorem dX7_count_102 : decode cX7_count 102 = .ok (.iaload, 1) := by decide +kernel
theorem dX7_count_103 : decode cX7_count 103 = .ok (.ireturn, 1) := by decide +kernel
theorem dX7_count_104 : decode cX7_count 104 = .ok (.aload_n 0, 1) := by decide +kernel
theorem dX7_count_105 : decode cX7_count 105 = .ok (.getfield 7, 3) := by decide +kernel
theorem dX7_count_108 : decode cX7_count 108 = .ok (.bipush 73, 2) := by decide +kernel
theorem dX7_count_110 : decode cX7_count 110 = .ok (.iaload, 1) := by decide +kernel
theorem dX7_count_111 : decode cX7_count 111 = .ok (.iconst 1, 1) := by decide +kernel
theorem dX7_count_112 : decode cX7_count 112 = .ok (.if_icmp .ne 13, 3) := by decide +kernel
theorem dX7_count_115 : decode cX7_count 115 = .ok (.aload_n 0, 1) := by decide +kernel
theorem dX7_count_116 : decode cX7_count 116 = .ok (.getfield 7, 3) := by decide +kernel
theorem dX7_count_119 : decode cX7_count 119 = .ok (.bipush 74, 2) := by decide +kernel
theorem dX7_count_121 : decode cX7_count 121 = .ok (.iaload, 1) := by decide +kernel
theorem dX7_count_122 : decode cX7_count 122 = .ok (.goto 5, 3) := by decide +kernel
theorem dX7_count_125 : decode cX7_count 125 = .ok (.bipush (-5), 2) := by decide +kernel
theorem dX7_count_127 : decode cX7_count 127 = .ok (.ireturn, 1) := by decide +kernel
theorem dX7_count_128 : decode cX7_count 128 = .ok (.aload_n 0, 1) := by decide +kernel
theorem dX7_count_129 : decode cX7_count 129 = .ok (.getfield 7, 3) := by decide +kernel
theorem dX7_count_132 : decode cX7_count 132 = .ok (.bipush 73, 2) := by decide +kernel
theorem dX7_count_134 : decode cX7_count 134 = .ok (.iaload, 1) := by decide +kernel
theorem dX7_count_135 : decode cX7_count 135 = .ok (.iconst 1, 1) := by decide +kernel
theorem dX7_count_136 : decode cX7_count 136 = .ok (.if_icmp .ne 13, 3) := by decide +kernel
theorem dX7_count_139 : decode cX7_count 139 = .ok (.aload_n 0, 1) := by decide +kernel
theorem dX7_count_140 : decode cX7_count 140 = .ok (.getfield 7, 3) := by decide +kernel
theorem dX7_count_143 : decode cX7_count 143 = .ok (.bipush 75, 2) := by decide +kernel
theorem dX7_count_145 : decode cX7_count 145 = .ok (.iaload, 1) := by decide +kernel
theorem dX7_count_146 : decode cX7_count 146 = .ok (.goto 4, 3) := by decide +kernel
theorem dX7_count_149 : decode cX7_count 149 = .ok (.iconst 0, 1) := by decide +kernel
theorem dX7_count_150 : decode cX7_count 150 = .ok (.ireturn, 1) := by decide +kernel
theorem dX7_count_151 : decode cX7_count 151 = .ok (.aload_n 0, 1) := by decide +kernel
theorem dX7_count_152 : decode cX7_count 152 = .ok (.getfield 7, 3) := by decide +kernel
theorem dX7_count_155 : decode cX7_count 155 = .ok (.bipush 77, 2) := by decide +kernel
theorem dX7_count_157 : decode cX7_count 157 = .ok (.iaload, 1) := by decide +kernel
theorem dX7_count_158 : decode cX7_count 158 = .ok (.ireturn, 1) := by decide +kernel
theorem dX7_count_159 : decode cX7_count 159 = .ok (.aload_n 0, 1) := by decide +kernel
theorem dX7_count_160 : decode cX7_count 160 = .ok (.getfield 7, 3) := by decide +kernel
theorem dX7_count_163 : decode cX7_count 163 = .ok (.iload_n 1, 1) := by decide +kernel
theorem dX7_count_164 : decode cX7_count 164 = .ok (.bipush 8, 2) := by decide +kernel
theorem dX7_count_166 : decode cX7_count 166 = .ok (.if_icmp .ne 7, 3) := by decide +kernel
theorem dX7_count_169 : decode cX7_count 169 = .ok (.iconst 1, 1) := by decide +kernel
theorem dX7_count_170 : decode cX7_count 170 = .ok (.goto 4, 3) := by decide +kernel
theorem dX7_count_173 : decode cX7_count 173 = .ok (.iconst 0, 1) := by decide +kernel
theorem dX7_count_174 : decode cX7_count 174 = .ok (.invokestatic 111, 3) := by decide +kernel
theorem dX7_count_177 : decode cX7_count 177 = .ok (.ireturn, 1) := by decide +kernel
theorem dX7_count_178 : decode cX7_count 178 = .ok (.aload_n 0, 1) := by decide +kernel
theorem dX7_count_179 : decode cX7_count 179 = .ok (.getfield 7, 3) := by decide +kernel
theorem dX7_count_182 : decode cX7_count 182 = .ok (.bipush 73, 2) := by decide +kernel
theorem dX7_count_184 : decode cX7_count 184 = .ok (.iaload, 1) := by decide +kernel
theorem dX7_count_185 : decode cX7_count 185 = .ok (.iconst 1, 1) := by decide +kernel
theorem dX7_count_186 : decode cX7_count 186 = .ok (.if_icmp .ne 17, 3) := by decide +kernel
theorem dX7_count_189 : decode cX7_count 189 = .ok (.aload_n 0, 1) := by decide +kernel
theorem dX7_count_190 : decode cX7_count 190 = .ok (.getfield 7, 3) := by decide +kernel
theorem dX7_count_193 : decode cX7_count 193 = .ok (.invokestatic 97, 3) := by decide +kernel
theorem dX7_count_196 : decode cX7_count 196 = .ok (.ifCond .eq 7, 3) := by decide +kernel
theorem dX7_count_199 : decode cX7_count 199 = .ok (.iconst 1, 1) := by decide +kernel
theorem dX7_count_200 : decode cX7_count 200 = .ok (.goto 4, 3) := by decide +kernel
theorem dX7_count_203 : decode cX7_count 203 = .ok (.iconst 0, 1) := by decide +kernel
theorem dX7_count_204 : decode cX7_count 204 = .ok (.ireturn, 1) := by decide +kernel
theorem dX7_count_205 : decode cX7_count 205 = .ok (.aload_n 0, 1) := by decide +kernel
theorem dX7_count_206 : decode cX7_count 206 = .ok (.getfield 7, 3) := by decide +kernel
theorem dX7_count_209 : decode cX7_count 209 = .ok (.bipush 78, 2) := by decide +kernel
theorem dX7_count_211 : decode cX7_count 211 = .ok (.iaload, 1) := by decide +kernel
theorem dX7_count_212 : decode cX7_count 212 = .ok (.ireturn, 1) := by decide +kernel
theorem dX7_count_213 : decode cX7_count 213 = .ok (.aload_n 0, 1) := by decide +kernel
theorem dX7_count_214 : decode cX7_count 214 = .ok (.getfield 7, 3) := by decide +kernel
theorem dX7_count_217 : decode cX7_count 217 = .ok (.bipush 79, 2) := by decide +kernel
theorem dX7_count_219 : decode cX7_count 219 = .ok (.iaload, 1) := by decide +kernel
theorem dX7_count_220 : decode cX7_count 220 = .ok (.ireturn, 1) := by decide +kernel
theorem dX7_count_221 : decode cX7_count 221 = .ok (.aload_n 0, 1) := by decide +kernel
theorem dX7_count_222 : decode cX7_count 222 = .ok (.getfield 29, 3) := by decide +kernel
theorem dX7_count_225 : decode cX7_count 225 = .ok (.ireturn, 1) := by decide +kernel
theorem dX7_count_226 : decode cX7_count 226 = .ok (.aload_n 0, 1) := by decide +kernel
theorem dX7_count_227 : decode cX7_count 227 = .ok (.getfield 126, 3) := by decide +kernel
theorem dX7_count_230 : decode cX7_count 230 = .ok (.ireturn, 1) := by decide +kernel
theorem dX7_count_231 : decode cX7_count 231 = .ok (.bipush (-2), 2) := by decide +kernel
theorem dX7_count_233 : decode cX7_count 233 = .ok (.ireturn, 1) := by decide +kernel
theorem dJ9_floorMod_7cf53_0 : decode cJ9_floorMod_7cf53 0 = .ok (.iload_n 0, 1) := by decide +kernel
theorem dJ9_floorMod_7cf53_1 : decode cJ9_floorMod_7cf53 1 = .ok (.iload_n 1, 1) := by decide +kernel
theorem dJ9_floorMod_7cf53_2 : decode cJ9_floorMod_7cf53 2 = .ok (.irem, 1) := by decide +kernel
theorem dJ9_floorMod_7cf53_3 : decode cJ9_floorMod_7cf53 3 = .ok (.istore_n 2, 1) := by decide +kernel
theorem dJ9_floorMod_7cf53_4 : decode cJ9_floorMod_7cf53 4 = .ok (.iload_n 0, 1) := by decide +kernel
theorem dJ9_floorMod_7cf53_5 : decode cJ9_floorMod_7cf53 5 = .ok (.iload_n 1, 1) := by decide +kernel
theorem dJ9_floorMod_7cf53_6 : decode cJ9_floorMod_7cf53 6 = .ok (.ixor, 1) := by decide +kernel
theorem dJ9_floorMod_7cf53_7 : decode cJ9_floorMod_7cf53 7 = .ok (.ifCond .ge 11, 3) := by decide +kernel
theorem dJ9_floorMod_7cf53_10 : decode cJ9_floorMod_7cf53 10 = .ok (.iload_n 2, 1) := by decide +kernel
theorem dJ9_floorMod_7cf53_11 : decode cJ9_floorMod_7cf53 11 = .ok (.ifCond .eq 7, 3) := by decide +kernel
theorem dJ9_floorMod_7cf53_14 : decode cJ9_floorMod_7cf53 14 = .ok (.iload_n 2, 1) := by decide +kernel
theorem dJ9_floorMod_7cf53_15 : decode cJ9_floorMod_7cf53 15 = .ok (.iload_n 1, 1) := by decide +kernel
theorem dJ9_floorMod_7cf53_16 : decode cJ9_floorMod_7cf53 16 = .ok (.iadd, 1) := by decide +kernel
theorem dJ9_floorMod_7cf53_17 : decode cJ9_floorMod_7cf53 17 = .ok (.ireturn, 1) := by decide +kernel
theorem dJ9_floorMod_7cf53_18 : decode cJ9_floorMod_7cf53 18 = .ok (.iload_n 2, 1) := by decide +kernel
theorem dJ9_floorMod_7cf53_19 : decode cJ9_floorMod_7cf53 19 = .ok (.ireturn, 1) := by decide +kernel
theorem dJ9_max_7cf53_0 : decode cJ9_max_7cf53 0 = .ok (.iload_n 0, 1) := by decide +kernel
theorem dJ9_max_7cf53_1 : decode cJ9_max_7cf53 1 = .ok (.iload_n 1, 1) := by decide +kernel
theorem dJ9_max_7cf53_2 : decode cJ9_max_7cf53 2 = .ok (.if_icmp .lt 7, 3) := by decide +kernel
theorem dJ9_max_7cf53_5 : decode cJ9_max_7cf53 5 = .ok (.iload_n 0, 1) := by decide +kernel
theorem dJ9_max_7cf53_6 : decode cJ9_max_7cf53 6 = .ok (.goto 4, 3) := by decide +kernel
theorem dJ9_max_7cf53_9 : decode cJ9_max_7cf53 9 = .ok (.iload_n 1, 1) := by decide +kernel
theorem dJ9_max_7cf53_10 : decode cJ9_max_7cf53 10 = .ok (.ireturn, 1) := by decide +kernel
theorem dJ9_min_7cf53_0 : decode cJ9_min_7cf53 0 = .ok (.iload_n 0, 1) := by decide +kernel
theorem dJ9_min_7cf53_1 : decode cJ9_min_7cf53 1 = .ok (.iload_n 1, 1) := by decide +kernel
theorem dJ9_min_7cf53_2 : decode cJ9_min_7cf53 2 = .ok (.if_icmp .gt 7, 3) := by decide +kernel
theorem dJ9_min_7cf53_5 : decode cJ9_min_7cf53 5 = .ok (.iload_n 0, 1) := by decide +kernel
theorem dJ9_min_7cf53_6 : decode cJ9_min_7cf53 6 = .ok (.goto 4, 3) := by decide +kernel
theorem dJ9_min_7cf53_9 : decode cJ9_min_7cf53 9 = .ok (.iload_n 1, 1) := by decide +kernel
theorem dJ9_min_7cf53_10 : decode cJ9_min_7cf53 10 = .ok (.ireturn, 1) := by decide +kernel
end
section
/-! THE GROUND: worlds of blocks, contracts whose answer and whose new world are given, calls, ends -/
abbrev gG : Type := va_G × ClassId × ClassId × ClassId
abbrev gTys (G : gG) : List (ClassId × FieldType) := [(G.2.1, .int), (G.2.2.1, .char), (G.2.2.2, .object RX4)]
abbrev gB (x : MethodName) : Cond := .methodLinkNest x.cls 0 x ""
/-- the links to private members of a nest mate -/
def gNW : List Cond := [.fieldLinkNest RX4 62 RX6 "SETTING_FIRST" "[I" RX6, .methodLinkNest RX6 35 yX5_init RX6, .methodLinkNest RX6 42 yX3_init RX6, .methodLinkNest RX6 9 yX4_init RX6, .methodLinkNest RX0 56 yX6_baseVoltage RX6, .methodLinkNest RX1 21 yX4_init RX6, .methodLinkNest RX3 38 yX6_isIn RX6, .methodLinkNest RX4 17 yX0_init RX6, .methodLinkNest RX4 24 yX3_init RX6, .methodLinkNest RX4 31 yX2_init RX6, .methodLinkNest RX4 85 yX6_isIn RX6, .methodLinkNest RX4 93 yX6_baseVoltage RX6]
def gK (G : gG) (U : State) : Prop := va_K G.1 vwCl (gTys G) U ∧ ∀ w ∈ gNW, va_Nw w U
theorem gNW_on : ∀ w ∈ gNW, w.onTables = true := by decide +kernel
theorem gK.warm {G : gG} {s U : State} (hW : s.WarmedH U.vm) (h : gK G s) : gK G U := by
  refine ⟨va_K.moved hW.alike h.1, fun w hw => ?_⟩
  have h2 := h.2 w hw
  simp only [gNW, List.mem_cons, List.not_mem_nil, or_false] at hw
  rcases hw with rfl | rfl | rfl | rfl | rfl | rfl | rfl | rfl | rfl | rfl | rfl | rfl
  · exact va_Nw.warmF hW h2
  all_goals exact va_Nw.warmM hW h2
theorem gK.calling {G : gG} {U : State} (g : JFrame) (mk : MethodId) (a : Array Value) (h : gK G U) : gK G (U.calling g mk a) :=
  ⟨va_K.moved (u := U) (U := U.calling g mk a) (Vm.Alike.refl U.vm) h.1, fun w hw => va_Nw.same (u := U) (U := U.calling g mk a) (gNW_on w hw) rfl (h.2 w hw)⟩
/-! worlds by their members -/
theorem g_iff {D : va_G} {cl : List vw_C} {ws : va_W} {H : Heap} : va_P D cl ws H ↔ ∀ q ∈ ws, va_at D cl q H := by
  constructor
  · intro h q hq
    obtain ⟨k, hk⟩ := List.getElem?_of_mem hq
    exact h k q hk
  · intro h k q hk
    exact h q (List.mem_of_getElem? hk)
theorem g_nodup {A : Nat → Prop} {ws : va_W} : va_D A ws ↔ (ws.map Prod.fst).Nodup ∧ ∀ q ∈ ws, A q.1 := by
  constructor
  · intro h
    refine ⟨?_, fun q hq => ?_⟩
    · rw [List.nodup_iff_pairwise_ne, List.pairwise_iff_getElem]
      intro i j hi hj hij e
      rw [List.length_map] at hi hj
      rw [List.getElem_map, List.getElem_map] at e
      exact Nat.ne_of_lt hij (h.1 i j _ _ (List.getElem?_eq_getElem hi) (List.getElem?_eq_getElem hj) e)
    · obtain ⟨k, hk⟩ := List.getElem?_of_mem hq
      exact h.2 k q hk
  · intro ⟨h1, h2⟩
    refine ⟨fun i j p q hi hj e => ?_, fun k q hk => h2 q (List.mem_of_getElem? hk)⟩
    obtain ⟨li, ei⟩ := List.getElem?_eq_some_iff.mp hi
    obtain ⟨lj, ej⟩ := List.getElem?_eq_some_iff.mp hj
    rw [List.nodup_iff_pairwise_ne, List.pairwise_iff_getElem] at h1
    rcases Nat.lt_trichotomy i j with h | h | h
    · refine absurd ?_ (h1 i j (by simpa using li) (by simpa using lj) h)
      rw [List.getElem_map, List.getElem_map, ei, ej, e]
    · exact h
    · refine absurd ?_ (h1 j i (by simpa using lj) (by simpa using li) h)
      rw [List.getElem_map, List.getElem_map, ei, ej, e]
/-- blocks put in the place of others -/
def gPut (B : List va_W) : List Nat → List va_W → List va_W
  | i :: is, x :: xs => gPut (B.set i x) is xs
  | _, _ => B
theorem gPut_fst : ∀ (is : List Nat) (Bc Bc' B : List va_W), is.map (fun i => B[i]?) = Bc.map some → va_nd is = true → Bc'.map (List.map Prod.fst) = Bc.map (List.map Prod.fst) →
    (gPut B is Bc').map (List.map Prod.fst) = B.map (List.map Prod.fst)
  | [], Bc, Bc', B, h, _, e => by cases Bc' <;> rfl
  | i :: is, [], Bc', B, h, _, e => by simp at h
  | i :: is, b :: Bc, [], B, h, _, e => by simp at e
  | i :: is, b :: Bc, x :: Bc', B, h, hn, e => by
    rw [List.map_cons, List.map_cons] at h e
    have hh := List.cons.inj h
    have he := List.cons.inj e
    simp only [va_nd, Bool.and_eq_true, decide_eq_true_eq] at hn
    show (gPut (B.set i x) is Bc').map (List.map Prod.fst) = _
    have hset : (B.set i x).map (List.map Prod.fst) = B.map (List.map Prod.fst) := by
      rw [List.map_set, he.1]
      obtain ⟨li, ei⟩ := List.getElem?_eq_some_iff.mp hh.1
      rw [← ei]
      refine List.ext_getElem? fun j => ?_
      rw [List.getElem?_set, List.getElem?_map]
      split
      · next hj => subst hj; rw [List.length_map, if_pos li, List.getElem?_eq_getElem li]; rfl
      · rfl
    rw [← hset]
    refine gPut_fst is Bc Bc' (B.set i x) ?_ hn.2 he.2
    rw [← hh.2]
    refine List.map_congr_left fun j hj => ?_
    rw [List.getElem?_set_ne]
    intro e2
    subst e2
    exact hn.1 hj
/-- a block of the new world: one of the callee's, or one of the caller's others -/
theorem gPut_mem : ∀ (is : List Nat) (Bc' B : List va_W) (j : Nat) (b : va_W), (gPut B is Bc')[j]? = some b → b ∈ Bc' ∨ (B[j]? = some b ∧ (j ∉ is ∨ is.length > Bc'.length))
  | [], Bc', B, j, b, h => by cases Bc' <;> exact Or.inr ⟨h, Or.inl List.not_mem_nil⟩
  | i :: is, [], B, j, b, h => Or.inr ⟨h, Or.inr (Nat.succ_pos _)⟩
  | i :: is, x :: Bc', B, j, b, h => by
    rcases gPut_mem is Bc' (B.set i x) j b h with h1 | ⟨h1, h2⟩
    · exact Or.inl (List.mem_cons_of_mem _ h1)
    · rw [List.getElem?_set] at h1
      split at h1
      · split at h1
        · cases h1; exact Or.inl List.mem_cons_self
        · cases h1
      · next hij =>
        refine Or.inr ⟨h1, ?_⟩
        rcases h2 with h2 | h2
        · left
          intro hm
          rcases List.mem_cons.mp hm with e | e
          · exact hij e.symm
          · exact h2 e
        · right
          simpa using h2
theorem g_flat_fst {B B' : List va_W} (h : B'.map (List.map Prod.fst) = B.map (List.map Prod.fst)) : B'.flatten.map Prod.fst = B.flatten.map Prod.fst := by
  rw [List.map_flatten, List.map_flatten, h]
theorem g_D_fst {A : Nat → Prop} {w w' : va_W} (h : w'.map Prod.fst = w.map Prod.fst) (hD : va_D A w) : va_D A w' := by
  rw [g_nodup] at hD ⊢
  refine ⟨by rw [h]; exact hD.1, fun q hq => ?_⟩
  have h1 : q.1 ∈ w'.map Prod.fst := List.mem_map_of_mem hq
  rw [h] at h1
  obtain ⟨q2, h2, h3⟩ := List.mem_map.mp h1
  rw [← h3]
  exact hD.2 q2 h2
theorem g_A_mem {w : va_W} {sz q : Nat} : va_A w sz q ↔ (q ∈ w.map Prod.fst ∨ sz ≤ q) := by
  constructor
  · rintro (⟨k, e, h⟩ | h)
    · exact Or.inl (List.mem_map.mpr ⟨_, List.mem_of_getElem? h, rfl⟩)
    · exact Or.inr h
  · rintro (h | h)
    · obtain ⟨p, h1, h2⟩ := List.mem_map.mp h
      obtain ⟨k, hk⟩ := List.getElem?_of_mem h1
      exact Or.inl ⟨k, p.2, by rw [hk, ← h2]⟩
    · exact Or.inr h
/-- behind a call, the world with the callee's blocks put into their places -/
theorem g_join {A0 : Nat → Prop} {D : va_G} {cl : List vw_C} {B Bc Bc' : List va_W} {H H1 : Heap} (hP : va_P D cl B.flatten H) (hD : va_D A0 B.flatten) (is : List Nat) (his : is.map (fun i => B[i]?) = Bc.map some) (hn : va_nd is = true)
    (ha : Bc'.map (List.map Prod.fst) = Bc.map (List.map Prod.fst)) (hk : ∀ q : Nat, q < H.size → ¬ va_A Bc.flatten H.size q → H1[q]? = H[q]?) (hP1 : va_P D cl Bc'.flatten H1) :
    va_P D cl (gPut B is Bc').flatten H1 ∧ va_D A0 (gPut B is Bc').flatten := by
  refine ⟨?_, g_D_fst (g_flat_fst (gPut_fst is Bc Bc' B his hn ha)) hD⟩
  rw [g_iff] at hP hP1 ⊢
  intro q hq
  obtain ⟨b, hb, hqb⟩ := List.mem_flatten.mp hq
  obtain ⟨j, hj⟩ := List.getElem?_of_mem hb
  rcases gPut_mem is Bc' B j b hj with h | ⟨h, h2⟩
  · exact hP1 q (List.mem_flatten.mpr ⟨b, h, hqb⟩)
  · have hlen : is.length = Bc'.length := by
      have h3 := congrArg List.length his
      have h4 := congrArg List.length ha
      simp only [List.length_map] at h3 h4
      omega
    have hji : j ∉ is := by
      rcases h2 with h2 | h2
      · exact h2
      · omega
    have hmem : q ∈ B.flatten := List.mem_flatten.mpr ⟨b, List.mem_of_getElem? h, hqb⟩
    have hat := hP q hmem
    refine hat.kept (hk q.1 hat.lt fun hA => ?_)
    rw [g_A_mem] at hA
    rcases hA with hA | hA
    · obtain ⟨q2, h5, h6⟩ := List.mem_map.mp hA
      obtain ⟨c, hc, hqc⟩ := List.mem_flatten.mp h5
      obtain ⟨k, hkc⟩ := List.getElem?_of_mem hc
      have h7 : (is.map (fun i => B[i]?))[k]? = some (some c) := by rw [his, List.getElem?_map, hkc]; rfl
      rw [List.getElem?_map] at h7
      cases hi : is[k]? with
      | none => rw [hi] at h7; cases h7
      | some i =>
        rw [hi] at h7
        have hBi : B[i]? = some c := Option.some.inj h7
        have hij : i ≠ j := fun e => hji (e ▸ List.mem_of_getElem? hi)
        rw [g_nodup, List.map_flatten, List.nodup_iff_pairwise_ne, List.pairwise_flatten] at hD
        have hpw := hD.1.2
        rw [List.pairwise_iff_getElem] at hpw
        obtain ⟨li, ei⟩ := List.getElem?_eq_some_iff.mp hBi
        obtain ⟨lj, ej⟩ := List.getElem?_eq_some_iff.mp h
        have m1 : q2.1 ∈ (B.map (List.map Prod.fst))[i]'(by simpa using li) := by
          rw [List.getElem_map, ei]; exact List.mem_map_of_mem hqc
        have m2 : q.1 ∈ (B.map (List.map Prod.fst))[j]'(by simpa using lj) := by
          rw [List.getElem_map, ej]; exact List.mem_map_of_mem hqb
        rcases Nat.lt_or_gt_of_ne hij with hlt | hlt
        · exact hpw i j (by simpa using li) (by simpa using lj) hlt q2.1 m1 q.1 m2 h6
        · exact hpw j i (by simpa using lj) (by simpa using li) hlt q.1 m2 q2.1 m1 h6.symm
    · have := hat.lt
      omega
/-! CONTRACTS -/
def CT (l : Launch) (G : gG) (y : MethodName) (ws : List Cond) (fr lo : Nat) (av : List Value) (B : List va_W) (oc : Option Value) (B' : List va_W) : Prop :=
  B'.map (List.map Prod.fst) = B.map (List.map Prod.fst) ∧ ∀ sz : Nat, Met l y ws { frames := fr, cells := 0, slots := 0, locals := lo }
    (va_Pc av (fun U => U.heap.size = sz ∧ va_P G.1 vwCl B.flatten U.heap ∧ gK G U ∧ va_D (fun _ => True) B.flatten))
    (fun _ st o t => o = .returned oc ∧ va_P G.1 vwCl B'.flatten t.heap ∧ va_F (va_A B.flatten sz) st t) 0 0 (va_A B.flatten sz)
def gQ (G : gG) (below : List Frame) (args : Array Value) (s : State) (oc : Option Value) (B' : List va_W) (A : Nat → Prop) : State → Prop :=
  MQ below (fun _ st o t => o = .returned oc ∧ va_P G.1 vwCl B'.flatten t.heap ∧ va_F A st t) args s 0 0 A
theorem g_ofW {l : Launch} {y : MethodName} {ws ws' : List Cond} {rm : Room} {Pc : Array Value → State → Prop} {Qc : Array Value → State → Outcome → State → Prop} {mc ms : Nat} {free : Addr → Prop} {cc : ByteArray} {maxL : Nat} {ret : Option FieldType}
    (hy : plainFor y = true) (hw : ws = Cond.code y cc maxL ret :: ws')
    (body : ∀ p e s m args below meth c s₁, BodyLoose p l y (headSpec ws rm) cc maxL ret e s m args below meth c s₁ → c.maxLocals = maxL → Pc args s →
      W p l e (headSpec ws rm).room s m args below meth c s.heap [] 0 0 (MQ below Qc args s mc ms free) (entryFrame m args maxL)) : Met l y ws rm Pc Qc mc ms free := by
  refine MetFree.of_bodySF (code := cc) (maxLocals := maxL) (ret := ret) hy ?_ ?_
  · intro args s m h hn
    obtain ⟨meth, c, h1, h2, h3, h4, h5, h6, -, -⟩ := Cond.code_spec hn (atoms_spec (ws := ws) h _ (by rw [hw]; exact List.mem_cons_self))
    exact ⟨meth, c, h1, h2, h3, h4, h5, h6⟩
  · intro p e s m args below meth c s₁ B hml hP _
    have hh0 : s₁.heap = s.heap := by rw [B.state]; rfl
    obtain ⟨t, a1, o, b1, b2, b3⟩ := body p e s m args below meth c s₁ B hml hP s₁ hh0 (Stand.of_body B)
    exact ⟨t, o, a1, b1, b2, ⟨b3.1, b3.2⟩⟩
set_option maxHeartbeats 1000000 in
theorem CT.of {l : Launch} {G : gG} {y : MethodName} {ws ws' : List Cond} {fr lo maxL : Nat} {cc : ByteArray} {ret : Option FieldType} {av : List Value} {B B' : List va_W} {oc : Option Value}
    (hy : plainFor y = true) (hw : ws = .code y cc maxL ret :: ws') (hadr : B'.map (List.map Prod.fst) = B.map (List.map Prod.fst)) (hlen : (lg_sl av).length ≤ maxL)
    (body : ∀ (p : Program) (e : Env) (s : State) (m : MethodId) (below : List Frame) (meth : Method) (c : Code) (A : Nat → Prop) (ls : Array Slot), p.tables.exec = Jvm.exec → c.code = cc → c.maxLocals = maxL → meth.sig.returnType = ret →
      (∀ w ∈ ws, w.before av.toArray s = true) → s.vm.findClass y.cls = some m.cls → meth.locks = false → gK G s → va_P G.1 vwCl B.flatten s.heap → va_D A B.flatten → (∀ q : Nat, s.heap.size ≤ q → A q) → va_S A s.heap s.heap [] → lv_has ls maxL (lv_args 0 av) →
      W p l e { frames := fr, cells := 0, slots := 0, locals := lo } s m av.toArray below meth c s.heap [] 0 0 (gQ G below av.toArray s oc B' A) (F0 m 0 ls [])) : CT l G y ws fr lo av B oc B' := by
  refine ⟨hadr, fun sz => g_ofW (cc := cc) (maxL := maxL) (ret := ret) hy hw ?_⟩
  intro p e s m args below meth c s₁ Bd hml hv
  obtain ⟨rfl, hsz, hP, hK, hD0⟩ := hv
  subst hsz
  have hl := lv_entry av (n := maxL) hlen
  rw [lg_entry_eq]
  exact body p e s m below meth c _ _ Bd.exec Bd.bytes hml Bd.returns (atoms_spec (ws := ws) Bd.pre) (findClass_of_methodNamed Bd.named) Bd.notSynchronized hK hP (hD0.self (sz := s.heap.size)) (fun q h => Or.inr h) va_S.rf hl
section GRET
variable {p : Program} {l : Launch} {e : Env} {R : Room} {s : State} {m : MethodId} {args : Array Value} {below : List Frame} {meth : Method} {c : Code} {H : Heap} {locs : List Loc} {cc : ByteArray} {pc : Nat} {ls : Array Slot} {G : gG} {oc : Option Value} {B' : List va_W} {A : Nat → Prop}
theorem g_ret (hx : p.tables.exec = Jvm.exec) (hb : c.code = cc) (hr : meth.sig.returnType = some .int) (hlocks : meth.locks = false) {v : Int32} (hS : va_S A s.heap H locs) (hdg : decode cc pc = .ok (.ireturn, 1)) (hoc : some (.int v) = oc) (hP : va_P G.1 vwCl B'.flatten H) :
    W p l e R s m args below meth c H locs 0 0 (gQ G below args s oc B' A) (F0 m pc ls [.int v]) :=
  W.iret hx hb hr (fun t ht _ => ⟨by rw [hoc], by rw [ht]; exact hP, hS.F ht⟩) hS.2.2 hdg hlocks
theorem g_retz (hx : p.tables.exec = Jvm.exec) (hb : c.code = cc) {ty : FieldType} (hr : meth.sig.returnType = some ty) (hlocks : meth.locks = false) {v : Int32} (hS : va_S A s.heap H locs) (hn : narrow ty (.int v) = .int v) (hdg : decode cc pc = .ok (.ireturn, 1)) (hoc : some (.int v) = oc) (hP : va_P G.1 vwCl B'.flatten H) :
    W p l e R s m args below meth c H locs 0 0 (gQ G below args s oc B' A) (F0 m pc ls [.int v]) :=
  W.zret hx hb hr hn (fun t ht _ => ⟨by rw [hoc], by rw [ht]; exact hP, hS.F ht⟩) hS.2.2 hdg hlocks
theorem g_retv (hx : p.tables.exec = Jvm.exec) (hb : c.code = cc) (hr : meth.sig.returnType = none) (hlocks : meth.locks = false) (hS : va_S A s.heap H locs) (hdg : decode cc pc = .ok (.return_, 1)) (hoc : none = oc) (hP : va_P G.1 vwCl B'.flatten H) :
    W p l e R s m args below meth c H locs 0 0 (gQ G below args s oc B' A) (F0 m pc ls []) :=
  W.vret hx hb hr (fun t ht _ => ⟨by rw [hoc], by rw [ht]; exact hP, hS.F ht⟩) hS.2.2 hdg hlocks
end GRET
section GCALL
variable {p : Program} {l : Launch} {e : Env} {R : Room} {s : State} {m : MethodId} {args : Array Value} {below : List Frame} {meth : Method} {c : Code} {H : Heap} {locs : List Loc} {cells slots : Nat} {Q : State → Prop}
variable {pc : Nat} {ls : Array Slot} {rest st0 : List Value} {A : Nat → Prop} {H0 : Heap} {G : gG} {B Bc Bc' : List va_W} {oc : Option Value}
theorem g_end (hr : va_Run p l e R s m args below meth c H locs cells slots 0 0 (F0 m pc ls st0) rest (fun st o t => o = .returned oc ∧ va_P G.1 vwCl Bc'.flatten t.heap ∧ va_F (va_A Bc.flatten H.size) st t) (va_A Bc.flatten H.size))
    (ha : Bc'.map (List.map Prod.fst) = Bc.map (List.map Prod.fst)) (hP : va_P G.1 vwCl B.flatten H) (hD : va_D A B.flatten) (hS : va_S A H0 H locs) (hA : ∀ q : Nat, H0.size ≤ q → A q) (is : List Nat) (his : is.map (fun i => B[i]?) = Bc.map some) (hn : va_nd is = true)
    (kk : ∀ (H1 : Heap) (locs1 : List Loc), va_P G.1 vwCl (gPut B is Bc').flatten H1 → va_D A (gPut B is Bc').flatten → va_S A H0 H1 locs1 → W p l e R s m args below meth c H1 locs1 cells slots Q (F0 m (pc + 3) ls (oc.toList ++ rest))) : W p l e R s m args below meth c H locs cells slots Q (F0 m pc ls st0) := by
  intro T hT X
  obtain ⟨v, st₀, t, T', L, h0, X', hL, e1, e2, ⟨hv, hPt, hz, hk⟩, st⟩ := hr T hT X
  cases hv
  rw [h0] at hz hk
  have hfree : ∀ q : Nat, va_A Bc.flatten H.size q → A q := by
    intro q hq
    rw [g_A_mem] at hq
    rcases hq with hq | hq
    · rw [g_nodup] at hD
      obtain ⟨x, h1, h2⟩ := List.mem_map.mp hq
      obtain ⟨b, hb, hxb⟩ := List.mem_flatten.mp h1
      obtain ⟨k, hkb⟩ := List.getElem?_of_mem hb
      have h7 : (is.map (fun i => B[i]?))[k]? = some (some b) := by rw [his, List.getElem?_map, hkb]; rfl
      rw [List.getElem?_map] at h7
      cases hi : is[k]? with
      | none => rw [hi] at h7; cases h7
      | some i =>
        rw [hi] at h7
        rw [← h2]
        exact hD.2 x (List.mem_flatten.mpr ⟨b, List.mem_of_getElem? (Option.some.inj h7), hxb⟩)
    · exact hA q (Nat.le_trans hS.1 hq)
  obtain ⟨hP1, hD1⟩ := g_join (H1 := T'.heap) hP hD is his hn ha (fun q h1 h2 => by rw [e1]; exact hk q h1 h2) (by rw [e1]; exact hPt)
  obtain ⟨t2, a1, b1⟩ := kk T'.heap (locs ++ L) hP1 hD1
    ⟨Nat.le_trans hS.1 (by rw [e1]; exact hz), fun q h1 h2 => by rw [e1, hk q (Nat.lt_of_lt_of_le h1 hS.1) (fun z => h2 (hfree q z))]; exact hS.2.1 q h1 h2, fun q hq => by
      rcases List.mem_append.mp hq with h | h
      · exact hS.2.2 q h
      · exact hfree _ (hL q h)⟩ T' rfl X'
  exact ⟨t2, st t2 a1, b1⟩
theorem g_pre {s U : State} {H : Heap} {A : Nat → Prop} (hK : gK G s) (hP : va_P G.1 vwCl B.flatten H) (hD : va_D A B.flatten) (is : List Nat) (his : is.map (fun i => B[i]?) = Bc.map some) (hn : va_nd is = true) (hU : U.heap = H) (hW : s.WarmedH U.vm) :
    U.heap.size = H.size ∧ va_P G.1 vwCl Bc.flatten U.heap ∧ gK G U ∧ va_D (fun _ => True) Bc.flatten := by
  have hsub : ∀ b ∈ Bc, b ∈ B := by
    intro b hb
    obtain ⟨k, hkb⟩ := List.getElem?_of_mem hb
    have h7 : (is.map (fun i => B[i]?))[k]? = some (some b) := by rw [his, List.getElem?_map, hkb]; rfl
    rw [List.getElem?_map] at h7
    cases hi : is[k]? with
    | none => rw [hi] at h7; cases h7
    | some i => rw [hi] at h7; exact List.mem_of_getElem? (Option.some.inj h7)
  refine ⟨by rw [hU], ?_, hK.warm hW, ?_⟩
  · rw [hU]
    rw [g_iff] at hP ⊢
    intro q hq
    obtain ⟨b, hb, hqb⟩ := List.mem_flatten.mp hq
    exact hP q (List.mem_flatten.mpr ⟨b, hsub b hb, hqb⟩)
  · rw [g_nodup] at hD ⊢
    refine ⟨?_, fun _ _ => trivial⟩
    have hD1 := hD.1
    rw [List.map_flatten, List.nodup_iff_pairwise_ne, List.pairwise_flatten] at hD1 ⊢
    refine ⟨fun l hl => ?_, ?_⟩
    · obtain ⟨b, hb, e⟩ := List.mem_map.mp hl
      exact hD1.1 l (List.mem_map.mpr ⟨b, hsub b hb, e⟩)
    · have hpw := hD1.2
      rw [List.pairwise_iff_getElem] at hpw ⊢
      intro i j hi hj hij x hx y hy
      rw [List.length_map] at hi hj
      rw [List.getElem_map] at hx hy
      have key : ∀ (k : Nat) (hk : k < Bc.length), ∃ (i2 : Nat) (h2 : i2 < B.length), is[k]? = some i2 ∧ B[i2] = Bc[k] := by
        intro k hk
        have h7 : (is.map (fun i => B[i]?))[k]? = some (some Bc[k]) := by rw [his, List.getElem?_map, List.getElem?_eq_getElem hk]; rfl
        rw [List.getElem?_map] at h7
        cases hi : is[k]? with
        | none => rw [hi] at h7; cases h7
        | some i2 =>
          rw [hi] at h7
          obtain ⟨l2, e2⟩ := List.getElem?_eq_some_iff.mp (Option.some.inj h7)
          exact ⟨i2, l2, rfl, e2⟩
      obtain ⟨i2, l2, a2, e2⟩ := key i hi
      obtain ⟨j2, k2, b2, f2⟩ := key j hj
      have hne : i2 ≠ j2 := fun e => Nat.ne_of_lt hij (va_nd_inj is hn i j i2 a2 (by rw [b2, e]))
      rcases Nat.lt_or_gt_of_ne hne with hlt | hlt
      · exact hpw i2 j2 (by simpa using l2) (by simpa using k2) hlt x (by rw [List.getElem_map, e2]; exact hx) y (by rw [List.getElem_map, f2]; exact hy)
      · exact fun e => hpw j2 i2 (by simpa using k2) (by simpa using l2) hlt y (by rw [List.getElem_map, f2]; exact hy) x (by rw [List.getElem_map, e2]; exact hx) e.symm
variable {y : MethodName} {bytes cc : ByteArray} {maxL nL n index fr lo ci q0 : Nat} {ret : Option FieldType} {ws ws' : List Cond} {Ts : List Cond} {own host : String} {b : Addr} {As : List Value} {cq : vw_C} {fs : List Value}
theorem g_callV (hC : CT l G y ws fr lo (.ref b :: As) Bc oc Bc') (hx : p.tables.exec = Jvm.exec) (hb : c.code = cc) (hml : c.maxLocals = nL) (hown : s.vm.findClass own = some m.cls) (hts : ∀ w ∈ Ts, w.before args s = true) (hK : gK G s)
    (hP : va_P G.1 vwCl B.flatten H) (hD : va_D A B.flatten) (hS : va_S A H0 H locs) (hA : ∀ q : Nat, H0.size ≤ q → A q)
    (hT : GoodIn Ts (wsV own index cq.1 y ws)) (hw : ws = Cond.code y bytes maxL ret :: ws') (hd : y.cls = cq.1 ∧ y.cls ≠ "java/lang/invoke/MethodHandle" ∧ y.cls ≠ "java/lang/invoke/VarHandle" ∧ (parseMethodDescriptor y.desc).map (fun d => d.parameters.length) = some n) (hlen : As.length = n)
    (hR : fr + 1 ≤ R.frames ∧ 8 + (maxL + 11) + lo ≤ R.locals) (is : List Nat) (his : is.map (fun i => B[i]?) = Bc.map some) (hn : va_nd is = true) (q0 : Nat) (hrecv : B.flatten[q0]? = some (b, .inr (ci, fs))) (hci : vwCl[ci]? = some cq)
    (hsize : ls.size = nL) (hstack : st0 = As.reverse ++ .ref b :: rest) (hcat : (rest.map fun v => v.category).sum ≤ 8) (hf : cells ≤ R.cells ∧ slots ≤ R.slots) (hdg : decode cc pc = .ok (.invokevirtual index, 3))
    (kk : ∀ (H1 : Heap) (locs1 : List Loc), va_P G.1 vwCl (gPut B is Bc').flatten H1 → va_D A (gPut B is Bc').flatten → va_S A H0 H1 locs1 → W p l e R s m args below meth c H1 locs1 cells slots Q (F0 m (pc + 3) ls (oc.toList ++ rest))) : W p l e R s m args below meth c H locs cells slots Q (F0 m pc ls st0) := by
  refine g_end (va_runV (C := cq.1) (As := As) (rest := rest) ⟨hx, hb, hml, hown, hts⟩ (hC.2 H.size) (cwV n hts hT hw rfl rfl hd hR) ⟨fun a U g mk q => ?_, va_recv hK.1 hP hci hrecv, fun U hU hW => ⟨rfl, g_pre hK hP hD is his hn hU hW⟩⟩ rfl hlen hsize hstack (lv_room hcat) hdg hf) hC.1 hP hD hS hA is his hn kk
  obtain ⟨q0, q1, qP, qK, qD⟩ := q
  exact ⟨q0, q1, qP, qK.calling g mk a, qD⟩
theorem g_callS (hC : CT l G y ws fr lo As Bc oc Bc') (hx : p.tables.exec = Jvm.exec) (hb : c.code = cc) (hml : c.maxLocals = nL) (hown : s.vm.findClass own = some m.cls) (hts : ∀ w ∈ Ts, w.before args s = true) (hK : gK G s)
    (hP : va_P G.1 vwCl B.flatten H) (hD : va_D A B.flatten) (hS : va_S A H0 H locs) (hA : ∀ q : Nat, H0.size ≤ q → A q)
    (hT : GoodIn Ts (va_wsS own index y ws)) (hw : ws = Cond.code y bytes maxL ret :: ws') (hd : y.cls ≠ "java/lang/invoke/MethodHandle" ∧ y.cls ≠ "java/lang/invoke/VarHandle" ∧ (parseMethodDescriptor y.desc).map (fun d => d.parameters.length) = some n) (hlen : As.length = n)
    (hR : fr + 1 ≤ R.frames ∧ 8 + (maxL + 11) + lo ≤ R.locals) (is : List Nat) (his : is.map (fun i => B[i]?) = Bc.map some) (hn : va_nd is = true)
    (hsize : ls.size = nL) (hstack : st0 = As.reverse ++ rest) (hcat : (rest.map fun v => v.category).sum ≤ 8) (hf : cells ≤ R.cells ∧ slots ≤ R.slots) (hdg : decode cc pc = .ok (.invokestatic index, 3))
    (kk : ∀ (H1 : Heap) (locs1 : List Loc), va_P G.1 vwCl (gPut B is Bc').flatten H1 → va_D A (gPut B is Bc').flatten → va_S A H0 H1 locs1 → W p l e R s m args below meth c H1 locs1 cells slots Q (F0 m (pc + 3) ls (oc.toList ++ rest))) : W p l e R s m args below meth c H locs cells slots Q (F0 m pc ls st0) := by
  refine g_end (va_runS (As := As) (rest := rest) ⟨hx, hb, hml, hown, hts⟩ (hC.2 H.size) (va_cwS n hts hT hw rfl rfl hd hR) ⟨fun a U g mk q => ?_, fun U hU hW => ⟨rfl, g_pre hK hP hD is his hn hU hW⟩⟩ rfl hlen hsize hstack (lv_room hcat) hdg hf) hC.1 hP hD hS hA is his hn kk
  obtain ⟨q0, q1, qP, qK, qD⟩ := q
  exact ⟨q0, q1, qP, qK.calling g mk a, qD⟩
theorem g_callN (hC : CT l G y ws fr lo As Bc oc Bc') (hx : p.tables.exec = Jvm.exec) (hb : c.code = cc) (hml : c.maxLocals = nL) (hown : s.vm.findClass own = some m.cls) (hts : ∀ w ∈ Ts, w.before args s = true) (hK : gK G s)
    (hP : va_P G.1 vwCl B.flatten H) (hD : va_D A B.flatten) (hS : va_S A H0 H locs) (hA : ∀ q : Nat, H0.size ≤ q → A q)
    (hT : GoodIn Ts ws) (hw : ws = Cond.code y bytes maxL ret :: ws') (hnw : .methodLinkNest own index y host ∈ gNW) (hini : (Cond.initialized y.cls) ∈ Ts) (hst : (Cond.static y) ∈ Ts) (hd : y.cls ≠ "java/lang/invoke/MethodHandle" ∧ y.cls ≠ "java/lang/invoke/VarHandle" ∧ (parseMethodDescriptor y.desc).map (fun d => d.parameters.length) = some n) (hlen : As.length = n)
    (hR : fr + 1 ≤ R.frames ∧ 8 + (maxL + 11) + lo ≤ R.locals) (is : List Nat) (his : is.map (fun i => B[i]?) = Bc.map some) (hn : va_nd is = true)
    (hsize : ls.size = nL) (hstack : st0 = As.reverse ++ rest) (hcat : (rest.map fun v => v.category).sum ≤ 8) (hf : cells ≤ R.cells ∧ slots ≤ R.slots) (hdg : decode cc pc = .ok (.invokestatic index, 3))
    (kk : ∀ (H1 : Heap) (locs1 : List Loc), va_P G.1 vwCl (gPut B is Bc').flatten H1 → va_D A (gPut B is Bc').flatten → va_S A H0 H1 locs1 → W p l e R s m args below meth c H1 locs1 cells slots Q (F0 m (pc + 3) ls (oc.toList ++ rest))) : W p l e R s m args below meth c H locs cells slots Q (F0 m pc ls st0) := by
  refine g_end (va_runSN (host := host) (As := As) (rest := rest) ⟨hx, hb, hml, hown, hts⟩ (hC.2 H.size) ⟨va_cnB n hts hT hw rfl rfl (hK.2 _ hnw) (hts _ hini) hd hR, hts _ hst, trivial⟩ ⟨fun a U g mk q => ?_, fun U hU hW => ⟨rfl, g_pre hK hP hD is his hn hU hW⟩⟩ rfl hlen hsize hstack (lv_room hcat) hdg hf) hC.1 hP hD hS hA is his hn kk
  obtain ⟨q0, q1, qP, qK, qD⟩ := q
  exact ⟨q0, q1, qP, qK.calling g mk a, qD⟩
end GCALL
/-! THE BLOCKS -/
/-- a row of a record put anew -/
def sF (b : Nat → Nat → Int32) (r : Nat) (f : Nat → Int32) : Nat → Nat → Int32 := fun k => if k = r then f else b k
abbrev bwI (G : gG) (a n : Nat) (f : Nat → Int32) : Nat × va_E := (a, .inl (G.2.1, n, .inl f))
/-- an int array alone -/
def AW (G : gG) (a n : Nat) (f : Nat → Int32) : va_W := [bwI G a n f]
def BW (G : gG) (a : Nat → Nat) (b : Nat → Nat → Int32) : va_W := [(a 0, .inr (0, [.int (b 0 0), .ref (a 1), .ref (a 2), .ref (a 3), .ref (a 4), .ref (a 5), .ref (a 6), .ref (a 7)])), bwI G (a 1) 6 (b 1), bwI G (a 2) 6 (b 2), bwI G (a 3) 6 (b 3), bwI G (a 4) 6 (b 4), bwI G (a 5) 6 (b 5), bwI G (a 6) 6 (b 6), bwI G (a 7) 6 (b 7)]
def LW (G : gG) (a : Nat → Nat) (g : Nat → Nat → Int32) : va_W := [(a 0, .inr (2, [.int (g 0 0), .int (g 0 1), .ref (a 1), .ref (a 2), .ref (a 3)])), bwI G (a 1) 10 (g 1), bwI G (a 2) 10 (g 2), bwI G (a 3) 10 (g 3)]
def PW (G : gG) (a : Nat → Nat) (p : Nat → Nat → Int32) : va_W := [(a 0, .inr (3, [.int (p 0 0), .ref (a 1), .ref (a 2), .ref (a 3), .ref (a 4)])), bwI G (a 1) 5 (p 1), bwI G (a 2) 5 (p 2), bwI G (a 3) 5 (p 3), bwI G (a 4) 5 (p 4)]
/-- the State itself: mode, stage, lasted, tick, pausedTicks, wasPaused, timesDone, timesAtFault -/
def OW (_ : gG) (a : Nat → Nat) (o : Nat → Int32) : va_W := [(a 0, .inr (4, [.ref (a 1), .ref (a 2), .ref (a 10), .ref (a 15), .int (o 0), .int (o 1), .int (o 2), .int (o 3), .int (o 4), .int (o 5), .int (o 6), .int (o 7)]))]
/-- a text: length and place; its characters -/
def TW (G : gG) (a : Nat → Nat) (t : Nat → Nat → Int32) : va_W := [(a 0, .inr (5, [.int (t 0 0), .int (t 0 1), .ref (a 1)])), (a 1, .inl (G.2.2.1, 60, .inl (t 1)))]
/-! NAMES FOR VALUES -/
def gL {α : Type} {β : Sort _} (x : α) (f : α → β) : β := f x
theorem g_let {α β : Type} {R : β} {x : α} {f : α → β} (h : R = gL x f) : ∃ z, z = x ∧ R = f z := ⟨x, rfl, h⟩
theorem g_let1 {α : Type} {x : α} {g : α → Prop} (h : gL x g) : ∃ z, z = x ∧ g z := ⟨x, rfl, h⟩
theorem g_let2 {α β : Type} {R : β} {x : α} {f : α → β} {g : α → Prop} (h : R = gL x f) (h2 : gL x g) : ∃ z, z = x ∧ R = f z ∧ g z := ⟨x, rfl, h, h2⟩
def gmax (x y : Int32) : Int32 := if x < y then y else x
def gmin (x y : Int32) : Int32 := if y < x then y else x
def gz (v : Int32) : Prop := v = 0 ∨ v = 1
theorem gz.narrow {v : Int32} (h : gz v) : narrow .boolean (.int v) = .int v := by rcases h with rfl | rfl <;> rfl
theorem gz.fits {v : Int32} (h : gz v) : fits .boolean (.int v) = true := by rcases h with rfl | rfl <;> rfl
theorem g_out {x : Int32} (n : Nat) {lo hi : Int} (h : ∀ k : Nat, k < n → ¬ x = Int32.ofNat k) (hlo : lo = 0 := by decide) (hhi : hi + 1 = (n : Int) := by decide) (hn : n < 1000 := by decide) : x.toInt < lo ∨ hi < x.toInt := by
  rcases Int.lt_or_le x.toInt lo with h1 | h1
  · exact Or.inl h1
  · rcases Int.lt_or_le hi x.toInt with h2 | h2
    · exact Or.inr h2
    · refine absurd ?_ (h x.toInt.toNat (by omega))
      refine Int32.toInt_inj.mp ?_
      rw [Int32.toInt_ofNat_of_lt (by omega)]
      omega
theorem g_ne {x a : Int32} {k : Int} (h : ¬ x = a) (e : a.toInt = k) : ¬ k = x.toInt := fun q => h (Int32.toInt_inj.mp (q.symm.trans e.symm))
theorem g_lk2 {x a1 a2 : Int32} {k1 o1 k2 o2 d : Int} (h1 : ¬ x = a1) (h2 : ¬ x = a2) (e1 : a1.toInt = k1 := by decide) (e2 : a2.toInt = k2 := by decide) : Op.lookupswitch.offset [(k1, o1), (k2, o2)] d x.toInt = d := by
  rw [Op.lookupswitch.offset_cons, if_neg (g_ne h1 e1), Op.lookupswitch.offset_cons, if_neg (g_ne h2 e2), Op.lookupswitch.offset_nil]
theorem g_lk3 {x a1 a2 a3 : Int32} {k1 o1 k2 o2 k3 o3 d : Int} (h1 : ¬ x = a1) (h2 : ¬ x = a2) (h3 : ¬ x = a3) (e1 : a1.toInt = k1 := by decide) (e2 : a2.toInt = k2 := by decide) (e3 : a3.toInt = k3 := by decide) : Op.lookupswitch.offset [(k1, o1), (k2, o2), (k3, o3)] d x.toInt = d := by
  rw [Op.lookupswitch.offset_cons, if_neg (g_ne h1 e1), Op.lookupswitch.offset_cons, if_neg (g_ne h2 e2), Op.lookupswitch.offset_cons, if_neg (g_ne h3 e3), Op.lookupswitch.offset_nil]
section GROW
variable {p : Program} {l : Launch} {e : Env} {R : Room} {s : State} {m : MethodId} {args : Array Value} {below : List Frame} {meth : Method} {c : Code} {H : Heap} {locs : List Loc} {cells slots : Nat} {Q : State → Prop}
variable {cc : ByteArray} {pc : Nat} {ls : Array Slot} {rest : List Value} {A : Nat → Prop} {a : Nat} {H0 : Heap} {G : gG} {B : List va_W}
theorem g_topE {x y : Int32} (h : x = y) (k : W p l e R s m args below meth c H locs cells slots Q (F0 m pc ls (.int y :: rest))) : W p l e R s m args below meth c H locs cells slots Q (F0 m pc ls (.int x :: rest)) := by rw [h]; exact k
theorem g_ld (hx : p.tables.exec = Jvm.exec) (hb : c.code = cc) (hK : gK G s) (hP : va_P G.1 vwCl B.flatten H) (q0 : Nat) {n : Nat} {f : Nat → Int32} (ha : B.flatten[q0]? = some (bwI G a n f)) {i : Int32} {k : Nat} (hk : i.toNatClampNeg = k) (hin : vp_in i n) {v : Int32} (hv : f k = v) (hdg : decode cc pc = .ok (.iaload, 1))
    (kk : W p l e R s m args below meth c H locs cells slots Q (F0 m (pc + 1) ls (.int v :: rest))) : W p l e R s m args below meth c H locs cells slots Q (F0 m pc ls (.int i :: .ref a :: rest)) := by
  refine va_iald hx hb hK.1 hP q0 0 ha rfl hin hdg ?_
  rw [hk, hv]; exact kk
theorem g_ldc (hx : p.tables.exec = Jvm.exec) (hb : c.code = cc) (hK : gK G s) (hP : va_P G.1 vwCl B.flatten H) (q0 : Nat) {n : Nat} {f : Nat → Int32} (ha : B.flatten[q0]? = some (a, .inl (G.2.2.1, n, .inl f))) {i : Int32} {k : Nat} (hk : i.toNatClampNeg = k) (hin : vp_in i n) {v : Int32} (hv : f k = v) (hdg : decode cc pc = .ok (.caload, 1))
    (kk : W p l e R s m args below meth c H locs cells slots Q (F0 m (pc + 1) ls (.int v :: rest))) : W p l e R s m args below meth c H locs cells slots Q (F0 m pc ls (.int i :: .ref a :: rest)) := by
  refine va_cald hx hb hK.1 hP q0 1 ha rfl hin hdg ?_
  rw [hk, hv]; exact kk
theorem g_st (hx : p.tables.exec = Jvm.exec) (hb : c.code = cc) (hK : gK G s) (hP : va_P G.1 vwCl B.flatten H) (hD : va_D A B.flatten) (hS : va_S A H0 H locs) (q0 : Nat) {n : Nat} {f : Nat → Int32} (ha : B.flatten[q0]? = some (bwI G a n f)) {i x : Int32} {k : Nat} (hk : i.toNatClampNeg = k) (hin : vp_in i n) {B2 : List va_W} (hB : B.flatten.set q0 (bwI G a n (upd f k x)) = B2.flatten) (hdg : decode cc pc = .ok (.iastore, 1))
    (kk : ∀ (H1 : Heap) (locs1 : List Loc), va_P G.1 vwCl B2.flatten H1 → va_D A B2.flatten → va_S A H0 H1 locs1 → W p l e R s m args below meth c H1 locs1 cells slots Q (F0 m (pc + 1) ls rest)) : W p l e R s m args below meth c H locs cells slots Q (F0 m pc ls (.int x :: .int i :: .ref a :: rest)) := by
  refine va_iast hx hb hK.1 hP hD hS q0 0 ha rfl hin hdg ?_
  rw [hk]
  show ∀ (H1 : Heap) (locs1 : List Loc), va_P G.1 vwCl (B.flatten.set q0 (bwI G a n (upd f k x))) H1 → va_D A (B.flatten.set q0 (bwI G a n (upd f k x))) → _
  rw [hB]; exact kk
theorem g_stc (hx : p.tables.exec = Jvm.exec) (hb : c.code = cc) (hK : gK G s) (hP : va_P G.1 vwCl B.flatten H) (hD : va_D A B.flatten) (hS : va_S A H0 H locs) (q0 : Nat) {n : Nat} {f : Nat → Int32} (ha : B.flatten[q0]? = some (a, .inl (G.2.2.1, n, .inl f))) {i x : Int32} {k : Nat} (hk : i.toNatClampNeg = k) (hin : vp_in i n) {B2 : List va_W} (hB : B.flatten.set q0 (a, .inl (G.2.2.1, n, .inl (upd f k (vp_nar .char x)))) = B2.flatten) (hdg : decode cc pc = .ok (.castore, 1))
    (kk : ∀ (H1 : Heap) (locs1 : List Loc), va_P G.1 vwCl B2.flatten H1 → va_D A B2.flatten → va_S A H0 H1 locs1 → W p l e R s m args below meth c H1 locs1 cells slots Q (F0 m (pc + 1) ls rest)) : W p l e R s m args below meth c H locs cells slots Q (F0 m pc ls (.int x :: .int i :: .ref a :: rest)) := by
  refine va_cast hx hb hK.1 hP hD hS q0 1 ha rfl hin hdg ?_
  rw [hk, hB]; exact kk
theorem g_get (hx : p.tables.exec = Jvm.exec) (hb : c.code = cc) {own C : String} {T : u_T} {N ci index : Nat} {Ts : List Cond} (hts : ∀ w ∈ Ts, w.before args s = true) (hin : ∀ w ∈ u_ws C T N, w ∈ Ts) (hown : s.vm.findClass own = some m.cls) (hK : gK G s) (hP : va_P G.1 vwCl B.flatten H) (q0 : Nat) {fs : List Value} (he : B.flatten[q0]? = some (a, .inr (ci, fs))) (hc : vwCl[ci]? = some (C, T, N)) (k : Nat) (hk : k < N) (hlink : (Cond.fieldLink own index (T k).1 (T k).2.1 (T k).2.2.1).before args s = true) {v : Value} (hv : fs[k]? = some v) (hdg : decode cc pc = .ok (.getfield index, 3))
    (kk : W p l e R s m args below meth c H locs cells slots Q (F0 m (pc + 3) ls (v :: rest))) : W p l e R s m args below meth c H locs cells slots Q (F0 m pc ls (.ref a :: rest)) :=
  va_get hx hb hts hin hown hK.1 hP q0 he hc k hk hlink (fun _ h => h) hv hdg kk
theorem g_put (hx : p.tables.exec = Jvm.exec) (hb : c.code = cc) {own C : String} {T : u_T} {N ci index : Nat} {Ts : List Cond} (hts : ∀ w ∈ Ts, w.before args s = true) (hin : ∀ w ∈ u_ws C T N, w ∈ Ts) (ty0 : Nat → FieldType) (hty : ∀ k, k < N → parseFieldDescriptor (T k).2.2.1 = some (ty0 k)) (hnm : ∀ a, a < N → ∀ b, b < N → a ≠ b → (T a).2.1 ≠ (T b).2.1) (hown : s.vm.findClass own = some m.cls) (hK : gK G s) (hP : va_P G.1 vwCl B.flatten H) (hD : va_D A B.flatten) (hS : va_S A H0 H locs) (q0 : Nat) {fs : List Value} (he : B.flatten[q0]? = some (a, .inr (ci, fs))) (hc : vwCl[ci]? = some (C, T, N)) (k : Nat) (hk : k < N) (hlink : (Cond.fieldLink own index (T k).1 (T k).2.1 (T k).2.2.1).before args s = true) (hfin : (T k).2.2.2 = false) {ty : FieldType} {v : Value} (hd : parseFieldDescriptor (T k).2.2.1 = some ty) (hn : narrow ty v = v) (hfit : fits ty v = true) (hl : k < fs.length) {B2 : List va_W} (hB : B.flatten.set q0 (a, .inr (ci, fs.set k v)) = B2.flatten) (hdg : decode cc pc = .ok (.putfield index, 3))
    (kk : ∀ (H1 : Heap) (locs1 : List Loc), va_P G.1 vwCl B2.flatten H1 → va_D A B2.flatten → va_S A H0 H1 locs1 → W p l e R s m args below meth c H1 locs1 cells slots Q (F0 m (pc + 3) ls rest)) : W p l e R s m args below meth c H locs cells slots Q (F0 m pc ls (v :: .ref a :: rest)) := by
  refine va_put hx hb hts hin ty0 hty hnm hown hK.1 hP hD hS q0 he hc k hk hlink (fun _ h => h) hfin hd hn hfit hl hdg ?_
  rw [hB]; exact kk
theorem g_arrV {cA : ClassId} {N : Nat} {f f1 : Nat → Int32} (h : ∀ j, j < N → f1 j = f j) : vp_cell cA (N, .inl f1) = vp_cell cA (N, .inl f) := by
  show arrV cA N (fun j => .int (f1 j)) = arrV cA N (fun j => .int (f j))
  unfold arrV
  congr 2
  funext j
  show Value.int (f1 j.val) = Value.int (f j.val)
  rw [h j.val j.isLt]
theorem g_P_cell {D : va_G} {cl : List vw_C} {ws : va_W} {q a N : Nat} {cA : ClassId} {f f1 : Nat → Int32} {H : Heap} (h : ∀ j, j < N → f1 j = f j) (hP : va_P D cl (ws.set q (a, .inl (cA, N, .inl f1))) H) : va_P D cl (ws.set q (a, .inl (cA, N, .inl f))) H := by
  intro k x hk
  rw [List.getElem?_set] at hk
  split at hk
  · next hq =>
    subst hq
    split at hk
    · next hl =>
      cases hk
      have h1 := hP q (a, .inl (cA, N, .inl f1)) (by rw [List.getElem?_set, if_pos rfl, if_pos hl])
      show H[a]? = some (vp_cell cA (N, .inl f))
      rw [← g_arrV h]
      exact h1
    · cases hk
  · next hq => exact hP k x (by rw [List.getElem?_set, if_neg hq]; exact hk)
theorem g_copy (hx : p.tables.exec = Jvm.exec) (hb : c.code = cc) (hml : c.maxLocals = ls.size) {own : String} {index : Nat} (hown : s.vm.findClass own = some m.cls) (hlink : (Cond.methodLink own index arraycopyName).before args s = true) (hnat : (Cond.native arraycopyName).before args s = true) (hstat : (Cond.static arraycopyName).before args s = true) (hini : (Cond.initialized "java/lang/System").before args s = true)
    (hK : gK G s) (hP : va_P G.1 vwCl B.flatten H) (hD : va_D A B.flatten) (hS : va_S A H0 H locs) (q0 q1 : Nat) {a0 N : Nat} {f g : Nat → Int32} (ha0 : B.flatten[q0]? = some (bwI G a0 N f)) (ha1 : B.flatten[q1]? = some (bwI G a N g)) {n : Int32} (h3 : ¬ n < 0) (h4 : n.toNatClampNeg = N) {B2 : List va_W} (hB : B.flatten.set q1 (bwI G a N f) = B2.flatten)
    (hframes : 1 ≤ R.frames) (hlocals : (rest.map fun v => v.category).sum + 18 ≤ R.locals) (hdg : decode cc pc = .ok (.invokestatic index, 3))
    (kk : ∀ (H1 : Heap) (locs1 : List Loc), va_P G.1 vwCl B2.flatten H1 → va_D A B2.flatten → va_S A H0 H1 locs1 → W p l e R s m args below meth c H1 locs1 cells slots Q (F0 m (pc + 3) ls rest)) : W p l e R s m args below meth c H locs cells slots Q (F0 m pc ls (.int n :: .int 0 :: .ref a :: .int 0 :: .ref a0 :: rest)) := by
  have z : (0 : Int32).toNatClampNeg = 0 := by decide
  have hw : nativeFrameWords "java/lang/System" "arraycopy" 5 + 11 = 18 := by decide +kernel
  refine va_copyi (ty := .int) hx hb hml hown hlink hnat hstat hini hK.1 hP hD hS q0 q1 0 0 ha0 ha1 rfl rfl rfl (by decide) (by decide) h3 (by rw [z, h4]; omega) (by rw [z, h4]; omega) (fun _ _ => rfl) hframes (by rw [hw]; exact hlocals) hdg ?_
  intro H1 locs1 hP1 hD1 hS1
  rw [h4, z] at hP1 hD1
  have hP2 := g_P_cell (f := f) (fun j hj => by unfold va_cpy; rw [if_pos ⟨Nat.zero_le _, by omega⟩]; congr 1; omega) hP1
  refine kk H1 locs1 ?_ ?_ hS1
  · rw [← hB]; exact hP2
  · rw [← hB]
    refine g_D_fst ?_ hD1
    rw [List.map_set, List.map_set]
end GROW
end
section
def f_X0_has (b : (Nat → Nat → Int32)) (p1 : Int32) : Int32 := (if p1 < 0 then 0 else (if ((b 0) 0) ≤ p1 then 0 else 1))
set_option maxHeartbeats 4000000 in
set_option maxRecDepth 100000 in
theorem c_X0_has (l : Launch) (G : gG) (a : Nat → Nat) (b : (Nat → Nat → Int32)) (p1 : Int32) (R : Int32) (hR : R = f_X0_has b p1) : CT l G yX0_has wsX0_has 0 0 [.ref (a 0), .int p1] [BW G a b] (some (.int R)) [BW G a b] := by
  unfold f_X0_has at hR
  refine CT.of (cc := cX0_has) (maxL := 2) (ret := (some .boolean)) (plainFor_of_name (by decide +kernel)) rfl rfl (Nat.le_of_ble_eq_true rfl) ?_
  intro p e s m below meth c A ls hx hb hml hr hts hown hlocks hK hP hD hA hS hl
  have hown : s.vm.findClass RX0 = some m.cls := hown
  have hl : lv_has ls 2 [(0, .ref (a 0)), (1, .int p1)] := hl
  have hinX0 : ∀ w ∈ wsX00, w ∈ wsX0_has := fun w h => List.mem_cons_of_mem _ (List.mem_append_right _ h)
  refine lv_iload_n hx hb dX0_has_0 rfl (lv_at hl 1 rfl) ?_
  refine lv_if_lt (tgt := 16) hx hb dX0_has_1 (by decide) (fun c1 => ?_) (fun c1 => ?_)
  · rw [if_pos c1] at hR
    refine lv_iconst (v := 0) hx hb dX0_has_16 (by decide) ?_
    subst hR
    exact g_retz hx hb hr hlocks hS rfl dX0_has_17 rfl hP
  · rw [if_neg c1] at hR
    refine lv_iload_n hx hb dX0_has_4 rfl (lv_at hl 1 rfl) ?_
    refine lv_aload_n hx hb dX0_has_5 rfl (lv_at hl 0 rfl) ?_
    refine g_get (ci := 0) (v := .int ((b 0) 0)) (C := RX0) (T := TX0) (N := 8) hx hb hts hinX0 hown hK hP 0 rfl rfl 0 (by decide) (hts (.fieldLink RX0 9 "ChargeStages$Battery" "cells" "I") (List.mem_of_getElem? (i := 1) rfl)) rfl dX0_has_6 ?_
    refine lv_icmp_ge (tgt := 16) hx hb dX0_has_9 (by decide) (fun c2 => ?_) (fun c2 => ?_)
    · rw [if_pos c2] at hR
      refine lv_iconst (v := 0) hx hb dX0_has_16 (by decide) ?_
      subst hR
      exact g_retz hx hb hr hlocks hS rfl dX0_has_17 rfl hP
    · rw [if_neg c2] at hR
      refine lv_iconst (v := 1) hx hb dX0_has_12 (by decide) ?_
      refine lv_goto (tgt := 17) hx hb dX0_has_13 (by decide) ?_
      subst hR
      exact g_retz hx hb hr hlocks hS rfl dX0_has_17 rfl hP
def fl_X0_putEmpty_16  : Nat → Int32 → (Nat → Nat → Int32) → (Nat → Nat → Int32)
  | 0, _, _ => (fun _ _ => 0)
  | n + 1, x16_2, w16_0 => (if 6 ≤ x16_2 then w16_0 else (gL (upd (w16_0 1) ((x16_2).toNatClampNeg) 0) (fun (z9 : (Nat → Int32)) => (gL (upd (w16_0 2) ((x16_2).toNatClampNeg) 0) (fun (z11 : (Nat → Int32)) => (gL (upd (w16_0 3) ((x16_2).toNatClampNeg) 0) (fun (z13 : (Nat → Int32)) => (gL (upd (w16_0 4) ((x16_2).toNatClampNeg) 0) (fun (z15 : (Nat → Int32)) => (gL (upd (w16_0 5) ((x16_2).toNatClampNeg) 0) (fun (z17 : (Nat → Int32)) => (gL (upd (w16_0 6) ((x16_2).toNatClampNeg) 0) (fun (z19 : (Nat → Int32)) => (gL (upd (w16_0 7) ((x16_2).toNatClampNeg) 0) (fun (z21 : (Nat → Int32)) => (gL ((x16_2 + 1)) (fun (v23 : Int32) => (fl_X0_putEmpty_16 n v23 (sF (sF (sF (sF (sF (sF (sF w16_0 1 z9) 2 z11) 3 z13) 4 z15) 5 z17) 6 z19) 7 z21)))))))))))))))))))
def okl_X0_putEmpty_16  : Nat → Int32 → (Nat → Nat → Int32) → Prop
  | 0, _, _ => False
  | n + 1, x16_2, w16_0 => ((6 ≤ x16_2 → True) ∧ (¬ 6 ≤ x16_2 → (vp_in x16_2 6) ∧ (gL (upd (w16_0 1) ((x16_2).toNatClampNeg) 0) (fun (z9 : (Nat → Int32)) => (vp_in x16_2 6) ∧ (gL (upd (w16_0 2) ((x16_2).toNatClampNeg) 0) (fun (z11 : (Nat → Int32)) => (vp_in x16_2 6) ∧ (gL (upd (w16_0 3) ((x16_2).toNatClampNeg) 0) (fun (z13 : (Nat → Int32)) => (vp_in x16_2 6) ∧ (gL (upd (w16_0 4) ((x16_2).toNatClampNeg) 0) (fun (z15 : (Nat → Int32)) => (vp_in x16_2 6) ∧ (gL (upd (w16_0 5) ((x16_2).toNatClampNeg) 0) (fun (z17 : (Nat → Int32)) => (vp_in x16_2 6) ∧ (gL (upd (w16_0 6) ((x16_2).toNatClampNeg) 0) (fun (z19 : (Nat → Int32)) => (vp_in x16_2 6) ∧ (gL (upd (w16_0 7) ((x16_2).toNatClampNeg) 0) (fun (z21 : (Nat → Int32)) => (gL ((x16_2 + 1)) (fun (v23 : Int32) => (okl_X0_putEmpty_16 n v23 (sF (sF (sF (sF (sF (sF (sF w16_0 1 z9) 2 z11) 3 z13) 4 z15) 5 z17) 6 z19) 7 z21))))))))))))))))))))
def f_X0_putEmpty (b : (Nat → Nat → Int32)) (p1 : Int32) : (Nat → Nat → Int32) := (fl_X0_putEmpty_16 7 0 (sF b 0 (upd (b 0) 0 (gmax 1 (gmin p1 6)))))
def ok_X0_putEmpty (b : (Nat → Nat → Int32)) (p1 : Int32) : Prop := (okl_X0_putEmpty_16 7 0 (sF b 0 (upd (b 0) 0 (gmax 1 (gmin p1 6)))))
set_option maxHeartbeats 4000000 in
set_option maxRecDepth 100000 in
theorem c_X0_putEmpty (l : Launch) (G : gG) (a : Nat → Nat) (b : (Nat → Nat → Int32)) (p1 : Int32) (R : (Nat → Nat → Int32)) (hR : R = f_X0_putEmpty b p1) (hok : ok_X0_putEmpty b p1) : CT l G yX0_putEmpty wsX0_putEmpty 1 15 [.ref (a 0), .int p1] [BW G a b] none [BW G a R] := by
  unfold f_X0_putEmpty at hR
  unfold ok_X0_putEmpty at hok
  refine CT.of (cc := cX0_putEmpty) (maxL := 3) (ret := none) (plainFor_of_name (by decide +kernel)) rfl rfl (Nat.le_of_ble_eq_true rfl) ?_
  intro p e s m below meth c A ls hx hb hml hr hts hown hlocks hK hP hD hA hS hl
  have hown : s.vm.findClass RX0 = some m.cls := hown
  have hl : lv_has ls 3 [(0, .ref (a 0)), (1, .int p1)] := hl
  have hinX0 : ∀ w ∈ wsX00, w ∈ wsX0_putEmpty := fun w h => List.mem_cons_of_mem _ (List.mem_append_right _ h)
  refine lv_aload_n hx hb dX0_putEmpty_0 rfl (lv_at hl 0 rfl) ?_
  refine lv_iconst (v := 1) hx hb dX0_putEmpty_1 (by decide) ?_
  refine lv_iload_n hx hb dX0_putEmpty_2 rfl (lv_at hl 1 rfl) ?_
  refine lv_bipush (v := 6) hx hb dX0_putEmpty_3 (by decide) ?_
  refine va_mmin hx hb (hml.trans hl.1.symm) hown (hts (.methodLink RX0 37 Lib.Math.min.name) (List.mem_of_getElem? (i := 1) rfl)) (hts (.static Lib.Math.min.name) (List.mem_of_getElem? (i := 2) rfl)) (hts (.initialized "java/lang/Math") (List.mem_of_getElem? (i := 3) rfl)) (hts (.code Lib.Math.min.name Lib.Math.min.code 2 (some .int)) (List.mem_of_getElem? (i := 4) rfl)) (Nat.le_of_ble_eq_true rfl) (Nat.le_of_ble_eq_true rfl) (Nat.zero_le _) (Nat.zero_le _) dX0_putEmpty_5 ?_
  refine g_topE (y := (gmin p1 6)) rfl ?_
  refine va_mmax hx hb (hml.trans hl.1.symm) hown (hts (.methodLink RX0 43 Lib.Math.max.name) (List.mem_of_getElem? (i := 5) rfl)) (hts (.static Lib.Math.max.name) (List.mem_of_getElem? (i := 6) rfl)) (hts (.initialized "java/lang/Math") (List.mem_of_getElem? (i := 3) rfl)) (hts (.code Lib.Math.max.name Lib.Math.max.code 2 (some .int)) (List.mem_of_getElem? (i := 7) rfl)) (Nat.le_of_ble_eq_true rfl) (Nat.le_of_ble_eq_true rfl) (Nat.zero_le _) (Nat.zero_le _) dX0_putEmpty_8 ?_
  refine g_topE (y := (gmax 1 (gmin p1 6))) rfl ?_
  refine g_put (ci := 0) (v := .int (gmax 1 (gmin p1 6))) (ty := .int) (C := RX0) (T := TX0) (N := 8) (B2 := [BW G a (sF b 0 (upd (b 0) 0 (gmax 1 (gmin p1 6))))]) hx hb hts hinX0 tyX0 tyX0_ok nmX0 hown hK hP hD hS 0 rfl rfl 0 (by decide) (hts (.fieldLink RX0 9 "ChargeStages$Battery" "cells" "I") (List.mem_of_getElem? (i := 8) rfl)) rfl (by decide +kernel) rfl rfl (Nat.le_of_ble_eq_true rfl) rfl dX0_putEmpty_11 (fun H locs hP hD hS => ?_)
  refine lv_iconst (v := 0) hx hb dX0_putEmpty_14 (by decide) ?_
  refine lv_istore_n (lv' := [(2, .int 0), (0, .ref (a 0)), (1, .int p1)]) hx hb dX0_putEmpty_15 rfl hl (by decide) rfl (fun ls hl => ?_)
  have lp16 : ∀ (n : Nat) (x16_2 : Int32) (w16_0 : (Nat → Nat → Int32)) (H : Heap) (locs : List Loc) (ls : Array Slot), R = fl_X0_putEmpty_16 n x16_2 w16_0 → okl_X0_putEmpty_16 n x16_2 w16_0 → va_P G.1 vwCl (List.flatten [BW G a w16_0]) H → va_D A (List.flatten [BW G a w16_0]) → va_S A s.heap H locs → lv_has ls 3 [(0, .ref (a 0)), (1, .int p1), (2, .int x16_2)] → W p l e { frames := 1, cells := 0, slots := 0, locals := 15 } s m (List.toArray [.ref (a 0), .int p1]) below meth c H locs 0 0 (gQ G below (List.toArray [.ref (a 0), .int p1]) s none [BW G a R] A) (F0 m 16 ls []) := by
    intro n
    induction n with
    | zero =>
      intro x16_2 w16_0 H locs ls hR hok hP hD hS hl
      rw [okl_X0_putEmpty_16] at hok
      exact hok.elim
    | succ n ih =>
      intro x16_2 w16_0 H locs ls hR hok hP hD hS hl
      rw [fl_X0_putEmpty_16] at hR
      rw [okl_X0_putEmpty_16] at hok
      refine lv_iload_n hx hb dX0_putEmpty_16 rfl (lv_at hl 2 rfl) ?_
      refine lv_bipush (v := 6) hx hb dX0_putEmpty_17 (by decide) ?_
      refine lv_icmp_ge (tgt := 77) hx hb dX0_putEmpty_19 (by decide) (fun c8 => ?_) (fun c8 => ?_)
      · rw [if_pos c8] at hR
        have hok := hok.1 c8
        subst hR
        exact g_retv hx hb hr hlocks hS dX0_putEmpty_77 rfl hP
      · rw [if_neg c8] at hR
        have hok := hok.2 c8
        refine lv_aload_n hx hb dX0_putEmpty_22 rfl (lv_at hl 0 rfl) ?_
        refine g_get (ci := 0) (v := .ref (a 1)) (C := RX0) (T := TX0) (N := 8) hx hb hts hinX0 hown hK hP 0 rfl rfl 1 (by decide) (hts (.fieldLink RX0 15 "ChargeStages$Battery" "charge" "[I") (List.mem_of_getElem? (i := 9) rfl)) rfl dX0_putEmpty_23 ?_
        refine lv_iload_n hx hb dX0_putEmpty_26 rfl (lv_at hl 2 rfl) ?_
        refine lv_iconst (v := 0) hx hb dX0_putEmpty_27 (by decide) ?_
        obtain ⟨k10, hok⟩ := hok
        obtain ⟨z9, ez9, hR, hok⟩ := g_let2 hR hok
        refine g_st (n := 6) (f := (w16_0 1)) (k := ((x16_2).toNatClampNeg)) (B2 := [BW G a (sF w16_0 1 z9)]) hx hb hK hP hD hS 1 rfl rfl k10 (by subst ez9; rfl) dX0_putEmpty_28 (fun H locs hP hD hS => ?_)
        refine lv_aload_n hx hb dX0_putEmpty_29 rfl (lv_at hl 0 rfl) ?_
        refine g_get (ci := 0) (v := .ref (a 2)) (C := RX0) (T := TX0) (N := 8) hx hb hts hinX0 hown hK hP 0 rfl rfl 2 (by decide) (hts (.fieldLink RX0 19 "ChargeStages$Battery" "rest" "[I") (List.mem_of_getElem? (i := 10) rfl)) rfl dX0_putEmpty_30 ?_
        refine lv_iload_n hx hb dX0_putEmpty_33 rfl (lv_at hl 2 rfl) ?_
        refine lv_iconst (v := 0) hx hb dX0_putEmpty_34 (by decide) ?_
        obtain ⟨k12, hok⟩ := hok
        obtain ⟨z11, ez11, hR, hok⟩ := g_let2 hR hok
        refine g_st (n := 6) (f := (w16_0 2)) (k := ((x16_2).toNatClampNeg)) (B2 := [BW G a (sF (sF w16_0 1 z9) 2 z11)]) hx hb hK hP hD hS 2 rfl rfl k12 (by subst ez11; rfl) dX0_putEmpty_35 (fun H locs hP hD hS => ?_)
        refine lv_aload_n hx hb dX0_putEmpty_36 rfl (lv_at hl 0 rfl) ?_
        refine g_get (ci := 0) (v := .ref (a 3)) (C := RX0) (T := TX0) (N := 8) hx hb hts hinX0 hown hK hP 0 rfl rfl 3 (by decide) (hts (.fieldLink RX0 22 "ChargeStages$Battery" "cameIn" "[I") (List.mem_of_getElem? (i := 11) rfl)) rfl dX0_putEmpty_37 ?_
        refine lv_iload_n hx hb dX0_putEmpty_40 rfl (lv_at hl 2 rfl) ?_
        refine lv_iconst (v := 0) hx hb dX0_putEmpty_41 (by decide) ?_
        obtain ⟨k14, hok⟩ := hok
        obtain ⟨z13, ez13, hR, hok⟩ := g_let2 hR hok
        refine g_st (n := 6) (f := (w16_0 3)) (k := ((x16_2).toNatClampNeg)) (B2 := [BW G a (sF (sF (sF w16_0 1 z9) 2 z11) 3 z13)]) hx hb hK hP hD hS 3 rfl rfl k14 (by subst ez13; rfl) dX0_putEmpty_42 (fun H locs hP hD hS => ?_)
        refine lv_aload_n hx hb dX0_putEmpty_43 rfl (lv_at hl 0 rfl) ?_
        refine g_get (ci := 0) (v := .ref (a 4)) (C := RX0) (T := TX0) (N := 8) hx hb hts hinX0 hown hK hP 0 rfl rfl 4 (by decide) (hts (.fieldLink RX0 25 "ChargeStages$Battery" "stored" "[I") (List.mem_of_getElem? (i := 12) rfl)) rfl dX0_putEmpty_44 ?_
        refine lv_iload_n hx hb dX0_putEmpty_47 rfl (lv_at hl 2 rfl) ?_
        refine lv_iconst (v := 0) hx hb dX0_putEmpty_48 (by decide) ?_
        obtain ⟨k16, hok⟩ := hok
        obtain ⟨z15, ez15, hR, hok⟩ := g_let2 hR hok
        refine g_st (n := 6) (f := (w16_0 4)) (k := ((x16_2).toNatClampNeg)) (B2 := [BW G a (sF (sF (sF (sF w16_0 1 z9) 2 z11) 3 z13) 4 z15)]) hx hb hK hP hD hS 4 rfl rfl k16 (by subst ez15; rfl) dX0_putEmpty_49 (fun H locs hP hD hS => ?_)
        refine lv_aload_n hx hb dX0_putEmpty_50 rfl (lv_at hl 0 rfl) ?_
        refine g_get (ci := 0) (v := .ref (a 5)) (C := RX0) (T := TX0) (N := 8) hx hb hts hinX0 hown hK hP 0 rfl rfl 5 (by decide) (hts (.fieldLink RX0 28 "ChargeStages$Battery" "spilled" "[I") (List.mem_of_getElem? (i := 13) rfl)) rfl dX0_putEmpty_51 ?_
        refine lv_iload_n hx hb dX0_putEmpty_54 rfl (lv_at hl 2 rfl) ?_
        refine lv_iconst (v := 0) hx hb dX0_putEmpty_55 (by decide) ?_
        obtain ⟨k18, hok⟩ := hok
        obtain ⟨z17, ez17, hR, hok⟩ := g_let2 hR hok
        refine g_st (n := 6) (f := (w16_0 5)) (k := ((x16_2).toNatClampNeg)) (B2 := [BW G a (sF (sF (sF (sF (sF w16_0 1 z9) 2 z11) 3 z13) 4 z15) 5 z17)]) hx hb hK hP hD hS 5 rfl rfl k18 (by subst ez17; rfl) dX0_putEmpty_56 (fun H locs hP hD hS => ?_)
        refine lv_aload_n hx hb dX0_putEmpty_57 rfl (lv_at hl 0 rfl) ?_
        refine g_get (ci := 0) (v := .ref (a 6)) (C := RX0) (T := TX0) (N := 8) hx hb hts hinX0 hown hK hP 0 rfl rfl 6 (by decide) (hts (.fieldLink RX0 31 "ChargeStages$Battery" "bled" "[I") (List.mem_of_getElem? (i := 14) rfl)) rfl dX0_putEmpty_58 ?_
        refine lv_iload_n hx hb dX0_putEmpty_61 rfl (lv_at hl 2 rfl) ?_
        refine lv_iconst (v := 0) hx hb dX0_putEmpty_62 (by decide) ?_
        obtain ⟨k20, hok⟩ := hok
        obtain ⟨z19, ez19, hR, hok⟩ := g_let2 hR hok
        refine g_st (n := 6) (f := (w16_0 6)) (k := ((x16_2).toNatClampNeg)) (B2 := [BW G a (sF (sF (sF (sF (sF (sF w16_0 1 z9) 2 z11) 3 z13) 4 z15) 5 z17) 6 z19)]) hx hb hK hP hD hS 6 rfl rfl k20 (by subst ez19; rfl) dX0_putEmpty_63 (fun H locs hP hD hS => ?_)
        refine lv_aload_n hx hb dX0_putEmpty_64 rfl (lv_at hl 0 rfl) ?_
        refine g_get (ci := 0) (v := .ref (a 7)) (C := RX0) (T := TX0) (N := 8) hx hb hts hinX0 hown hK hP 0 rfl rfl 7 (by decide) (hts (.fieldLink RX0 34 "ChargeStages$Battery" "used" "[I") (List.mem_of_getElem? (i := 15) rfl)) rfl dX0_putEmpty_65 ?_
        refine lv_iload_n hx hb dX0_putEmpty_68 rfl (lv_at hl 2 rfl) ?_
        refine lv_iconst (v := 0) hx hb dX0_putEmpty_69 (by decide) ?_
        obtain ⟨k22, hok⟩ := hok
        obtain ⟨z21, ez21, hR, hok⟩ := g_let2 hR hok
        refine g_st (n := 6) (f := (w16_0 7)) (k := ((x16_2).toNatClampNeg)) (B2 := [BW G a (sF (sF (sF (sF (sF (sF (sF w16_0 1 z9) 2 z11) 3 z13) 4 z15) 5 z17) 6 z19) 7 z21)]) hx hb hK hP hD hS 7 rfl rfl k22 (by subst ez21; rfl) dX0_putEmpty_70 (fun H locs hP hD hS => ?_)
        obtain ⟨v23, ev23, hR, hok⟩ := g_let2 hR hok
        refine lv_iinc (v := v23) (lv' := [(2, .int v23), (0, .ref (a 0)), (1, .int p1)]) hx hb dX0_putEmpty_71 hl (k := 2) rfl (by subst ev23; rfl) (by decide) rfl (fun ls hl => ?_)
        refine lv_goto (tgt := 16) hx hb dX0_putEmpty_74 (by decide) ?_
        exact ih v23 (sF (sF (sF (sF (sF (sF (sF w16_0 1 z9) 2 z11) 3 z13) 4 z15) 5 z17) 6 z19) 7 z21) _ _ _ hR hok hP hD hS (lv_sub hl [1, 2, 0] rfl)
  exact lp16 7 0 (sF b 0 (upd (b 0) 0 (gmax 1 (gmin p1 6)))) _ _ _ hR hok hP hD hS (lv_sub hl [1, 2, 0] rfl)
set_option maxHeartbeats 4000000 in
set_option maxRecDepth 100000 in
theorem c_X0_copyFrom (l : Launch) (G : gG) (a : Nat → Nat) (h : Nat → Nat) (b : (Nat → Nat → Int32)) (b2 : (Nat → Nat → Int32)) : CT l G yX0_copyFrom wsX0_copyFrom 1 18 [.ref (a 0), .ref (h 0)] [BW G a b, BW G h b2] none [BW G a b2, BW G h b2] := by
  refine CT.of (cc := cX0_copyFrom) (maxL := 2) (ret := none) (plainFor_of_name (by decide +kernel)) rfl rfl (Nat.le_of_ble_eq_true rfl) ?_
  intro p e s m below meth c A ls hx hb hml hr hts hown hlocks hK hP hD hA hS hl
  have hown : s.vm.findClass RX0 = some m.cls := hown
  have hl : lv_has ls 2 [(0, .ref (a 0)), (1, .ref (h 0))] := hl
  have hinX0 : ∀ w ∈ wsX00, w ∈ wsX0_copyFrom := fun w h => List.mem_cons_of_mem _ (List.mem_append_right _ h)
  refine lv_aload_n hx hb dX0_copyFrom_0 rfl (lv_at hl 0 rfl) ?_
  refine lv_aload_n hx hb dX0_copyFrom_1 rfl (lv_at hl 1 rfl) ?_
  refine g_get (ci := 0) (v := .int ((b2 0) 0)) (C := RX0) (T := TX0) (N := 8) hx hb hts hinX0 hown hK hP 8 rfl rfl 0 (by decide) (hts (.fieldLink RX0 9 "ChargeStages$Battery" "cells" "I") (List.mem_of_getElem? (i := 1) rfl)) rfl dX0_copyFrom_2 ?_
  refine g_put (ci := 0) (v := .int ((b2 0) 0)) (ty := .int) (C := RX0) (T := TX0) (N := 8) (B2 := [BW G a (sF b 0 (upd (b 0) 0 ((b2 0) 0))), BW G h b2]) hx hb hts hinX0 tyX0 tyX0_ok nmX0 hown hK hP hD hS 0 rfl rfl 0 (by decide) (hts (.fieldLink RX0 9 "ChargeStages$Battery" "cells" "I") (List.mem_of_getElem? (i := 1) rfl)) rfl (by decide +kernel) rfl rfl (Nat.le_of_ble_eq_true rfl) rfl dX0_copyFrom_5 (fun H locs hP hD hS => ?_)
  refine lv_aload_n hx hb dX0_copyFrom_8 rfl (lv_at hl 1 rfl) ?_
  refine g_get (ci := 0) (v := .ref (h 1)) (C := RX0) (T := TX0) (N := 8) hx hb hts hinX0 hown hK hP 8 rfl rfl 1 (by decide) (hts (.fieldLink RX0 15 "ChargeStages$Battery" "charge" "[I") (List.mem_of_getElem? (i := 2) rfl)) rfl dX0_copyFrom_9 ?_
  refine lv_iconst (v := 0) hx hb dX0_copyFrom_12 (by decide) ?_
  refine lv_aload_n hx hb dX0_copyFrom_13 rfl (lv_at hl 0 rfl) ?_
  refine g_get (ci := 0) (v := .ref (a 1)) (C := RX0) (T := TX0) (N := 8) hx hb hts hinX0 hown hK hP 0 rfl rfl 1 (by decide) (hts (.fieldLink RX0 15 "ChargeStages$Battery" "charge" "[I") (List.mem_of_getElem? (i := 2) rfl)) rfl dX0_copyFrom_14 ?_
  refine lv_iconst (v := 0) hx hb dX0_copyFrom_17 (by decide) ?_
  refine lv_bipush (v := 6) hx hb dX0_copyFrom_18 (by decide) ?_
  refine g_copy (N := 6) (B2 := [BW G a (sF (sF b 0 (upd (b 0) 0 ((b2 0) 0))) 1 (b2 1)), BW G h b2]) hx hb (hml.trans hl.1.symm) hown (hts (.methodLink RX0 46 arraycopyName) (List.mem_of_getElem? (i := 3) rfl)) (hts (.native arraycopyName) (List.mem_of_getElem? (i := 4) rfl)) (hts (.static arraycopyName) (List.mem_of_getElem? (i := 5) rfl)) (hts (.initialized "java/lang/System") (List.mem_of_getElem? (i := 6) rfl)) hK hP hD hS 9 1 rfl rfl (by decide) (by decide) rfl (Nat.le_of_ble_eq_true rfl) (Nat.le_of_ble_eq_true rfl) dX0_copyFrom_20 (fun H locs hP hD hS => ?_)
  refine lv_aload_n hx hb dX0_copyFrom_23 rfl (lv_at hl 1 rfl) ?_
  refine g_get (ci := 0) (v := .ref (h 2)) (C := RX0) (T := TX0) (N := 8) hx hb hts hinX0 hown hK hP 8 rfl rfl 2 (by decide) (hts (.fieldLink RX0 19 "ChargeStages$Battery" "rest" "[I") (List.mem_of_getElem? (i := 7) rfl)) rfl dX0_copyFrom_24 ?_
  refine lv_iconst (v := 0) hx hb dX0_copyFrom_27 (by decide) ?_
  refine lv_aload_n hx hb dX0_copyFrom_28 rfl (lv_at hl 0 rfl) ?_
  refine g_get (ci := 0) (v := .ref (a 2)) (C := RX0) (T := TX0) (N := 8) hx hb hts hinX0 hown hK hP 0 rfl rfl 2 (by decide) (hts (.fieldLink RX0 19 "ChargeStages$Battery" "rest" "[I") (List.mem_of_getElem? (i := 7) rfl)) rfl dX0_copyFrom_29 ?_
  refine lv_iconst (v := 0) hx hb dX0_copyFrom_32 (by decide) ?_
  refine lv_bipush (v := 6) hx hb dX0_copyFrom_33 (by decide) ?_
  refine g_copy (N := 6) (B2 := [BW G a (sF (sF (sF b 0 (upd (b 0) 0 ((b2 0) 0))) 1 (b2 1)) 2 (b2 2)), BW G h b2]) hx hb (hml.trans hl.1.symm) hown (hts (.methodLink RX0 46 arraycopyName) (List.mem_of_getElem? (i := 3) rfl)) (hts (.native arraycopyName) (List.mem_of_getElem? (i := 4) rfl)) (hts (.static arraycopyName) (List.mem_of_getElem? (i := 5) rfl)) (hts (.initialized "java/lang/System") (List.mem_of_getElem? (i := 6) rfl)) hK hP hD hS 10 2 rfl rfl (by decide) (by decide) rfl (Nat.le_of_ble_eq_true rfl) (Nat.le_of_ble_eq_true rfl) dX0_copyFrom_35 (fun H locs hP hD hS => ?_)
  refine lv_aload_n hx hb dX0_copyFrom_38 rfl (lv_at hl 1 rfl) ?_
  refine g_get (ci := 0) (v := .ref (h 3)) (C := RX0) (T := TX0) (N := 8) hx hb hts hinX0 hown hK hP 8 rfl rfl 3 (by decide) (hts (.fieldLink RX0 22 "ChargeStages$Battery" "cameIn" "[I") (List.mem_of_getElem? (i := 8) rfl)) rfl dX0_copyFrom_39 ?_
  refine lv_iconst (v := 0) hx hb dX0_copyFrom_42 (by decide) ?_
  refine lv_aload_n hx hb dX0_copyFrom_43 rfl (lv_at hl 0 rfl) ?_
  refine g_get (ci := 0) (v := .ref (a 3)) (C := RX0) (T := TX0) (N := 8) hx hb hts hinX0 hown hK hP 0 rfl rfl 3 (by decide) (hts (.fieldLink RX0 22 "ChargeStages$Battery" "cameIn" "[I") (List.mem_of_getElem? (i := 8) rfl)) rfl dX0_copyFrom_44 ?_
  refine lv_iconst (v := 0) hx hb dX0_copyFrom_47 (by decide) ?_
  refine lv_bipush (v := 6) hx hb dX0_copyFrom_48 (by decide) ?_
  refine g_copy (N := 6) (B2 := [BW G a (sF (sF (sF (sF b 0 (upd (b 0) 0 ((b2 0) 0))) 1 (b2 1)) 2 (b2 2)) 3 (b2 3)), BW G h b2]) hx hb (hml.trans hl.1.symm) hown (hts (.methodLink RX0 46 arraycopyName) (List.mem_of_getElem? (i := 3) rfl)) (hts (.native arraycopyName) (List.mem_of_getElem? (i := 4) rfl)) (hts (.static arraycopyName) (List.mem_of_getElem? (i := 5) rfl)) (hts (.initialized "java/lang/System") (List.mem_of_getElem? (i := 6) rfl)) hK hP hD hS 11 3 rfl rfl (by decide) (by decide) rfl (Nat.le_of_ble_eq_true rfl) (Nat.le_of_ble_eq_true rfl) dX0_copyFrom_50 (fun H locs hP hD hS => ?_)
  refine lv_aload_n hx hb dX0_copyFrom_53 rfl (lv_at hl 1 rfl) ?_
  refine g_get (ci := 0) (v := .ref (h 4)) (C := RX0) (T := TX0) (N := 8) hx hb hts hinX0 hown hK hP 8 rfl rfl 4 (by decide) (hts (.fieldLink RX0 25 "ChargeStages$Battery" "stored" "[I") (List.mem_of_getElem? (i := 9) rfl)) rfl dX0_copyFrom_54 ?_
  refine lv_iconst (v := 0) hx hb dX0_copyFrom_57 (by decide) ?_
  refine lv_aload_n hx hb dX0_copyFrom_58 rfl (lv_at hl 0 rfl) ?_
  refine g_get (ci := 0) (v := .ref (a 4)) (C := RX0) (T := TX0) (N := 8) hx hb hts hinX0 hown hK hP 0 rfl rfl 4 (by decide) (hts (.fieldLink RX0 25 "ChargeStages$Battery" "stored" "[I") (List.mem_of_getElem? (i := 9) rfl)) rfl dX0_copyFrom_59 ?_
  refine lv_iconst (v := 0) hx hb dX0_copyFrom_62 (by decide) ?_
  refine lv_bipush (v := 6) hx hb dX0_copyFrom_63 (by decide) ?_
  refine g_copy (N := 6) (B2 := [BW G a (sF (sF (sF (sF (sF b 0 (upd (b 0) 0 ((b2 0) 0))) 1 (b2 1)) 2 (b2 2)) 3 (b2 3)) 4 (b2 4)), BW G h b2]) hx hb (hml.trans hl.1.symm) hown (hts (.methodLink RX0 46 arraycopyName) (List.mem_of_getElem? (i := 3) rfl)) (hts (.native arraycopyName) (List.mem_of_getElem? (i := 4) rfl)) (hts (.static arraycopyName) (List.mem_of_getElem? (i := 5) rfl)) (hts (.initialized "java/lang/System") (List.mem_of_getElem? (i := 6) rfl)) hK hP hD hS 12 4 rfl rfl (by decide) (by decide) rfl (Nat.le_of_ble_eq_true rfl) (Nat.le_of_ble_eq_true rfl) dX0_copyFrom_65 (fun H locs hP hD hS => ?_)
  refine lv_aload_n hx hb dX0_copyFrom_68 rfl (lv_at hl 1 rfl) ?_
  refine g_get (ci := 0) (v := .ref (h 5)) (C := RX0) (T := TX0) (N := 8) hx hb hts hinX0 hown hK hP 8 rfl rfl 5 (by decide) (hts (.fieldLink RX0 28 "ChargeStages$Battery" "spilled" "[I") (List.mem_of_getElem? (i := 10) rfl)) rfl dX0_copyFrom_69 ?_
  refine lv_iconst (v := 0) hx hb dX0_copyFrom_72 (by decide) ?_
  refine lv_aload_n hx hb dX0_copyFrom_73 rfl (lv_at hl 0 rfl) ?_
  refine g_get (ci := 0) (v := .ref (a 5)) (C := RX0) (T := TX0) (N := 8) hx hb hts hinX0 hown hK hP 0 rfl rfl 5 (by decide) (hts (.fieldLink RX0 28 "ChargeStages$Battery" "spilled" "[I") (List.mem_of_getElem? (i := 10) rfl)) rfl dX0_copyFrom_74 ?_
  refine lv_iconst (v := 0) hx hb dX0_copyFrom_77 (by decide) ?_
  refine lv_bipush (v := 6) hx hb dX0_copyFrom_78 (by decide) ?_
  refine g_copy (N := 6) (B2 := [BW G a (sF (sF (sF (sF (sF (sF b 0 (upd (b 0) 0 ((b2 0) 0))) 1 (b2 1)) 2 (b2 2)) 3 (b2 3)) 4 (b2 4)) 5 (b2 5)), BW G h b2]) hx hb (hml.trans hl.1.symm) hown (hts (.methodLink RX0 46 arraycopyName) (List.mem_of_getElem? (i := 3) rfl)) (hts (.native arraycopyName) (List.mem_of_getElem? (i := 4) rfl)) (hts (.static arraycopyName) (List.mem_of_getElem? (i := 5) rfl)) (hts (.initialized "java/lang/System") (List.mem_of_getElem? (i := 6) rfl)) hK hP hD hS 13 5 rfl rfl (by decide) (by decide) rfl (Nat.le_of_ble_eq_true rfl) (Nat.le_of_ble_eq_true rfl) dX0_copyFrom_80 (fun H locs hP hD hS => ?_)
  refine lv_aload_n hx hb dX0_copyFrom_83 rfl (lv_at hl 1 rfl) ?_
  refine g_get (ci := 0) (v := .ref (h 6)) (C := RX0) (T := TX0) (N := 8) hx hb hts hinX0 hown hK hP 8 rfl rfl 6 (by decide) (hts (.fieldLink RX0 31 "ChargeStages$Battery" "bled" "[I") (List.mem_of_getElem? (i := 11) rfl)) rfl dX0_copyFrom_84 ?_
  refine lv_iconst (v := 0) hx hb dX0_copyFrom_87 (by decide) ?_
  refine lv_aload_n hx hb dX0_copyFrom_88 rfl (lv_at hl 0 rfl) ?_
  refine g_get (ci := 0) (v := .ref (a 6)) (C := RX0) (T := TX0) (N := 8) hx hb hts hinX0 hown hK hP 0 rfl rfl 6 (by decide) (hts (.fieldLink RX0 31 "ChargeStages$Battery" "bled" "[I") (List.mem_of_getElem? (i := 11) rfl)) rfl dX0_copyFrom_89 ?_
  refine lv_iconst (v := 0) hx hb dX0_copyFrom_92 (by decide) ?_
  refine lv_bipush (v := 6) hx hb dX0_copyFrom_93 (by decide) ?_
  refine g_copy (N := 6) (B2 := [BW G a (sF (sF (sF (sF (sF (sF (sF b 0 (upd (b 0) 0 ((b2 0) 0))) 1 (b2 1)) 2 (b2 2)) 3 (b2 3)) 4 (b2 4)) 5 (b2 5)) 6 (b2 6)), BW G h b2]) hx hb (hml.trans hl.1.symm) hown (hts (.methodLink RX0 46 arraycopyName) (List.mem_of_getElem? (i := 3) rfl)) (hts (.native arraycopyName) (List.mem_of_getElem? (i := 4) rfl)) (hts (.static arraycopyName) (List.mem_of_getElem? (i := 5) rfl)) (hts (.initialized "java/lang/System") (List.mem_of_getElem? (i := 6) rfl)) hK hP hD hS 14 6 rfl rfl (by decide) (by decide) rfl (Nat.le_of_ble_eq_true rfl) (Nat.le_of_ble_eq_true rfl) dX0_copyFrom_95 (fun H locs hP hD hS => ?_)
  refine lv_aload_n hx hb dX0_copyFrom_98 rfl (lv_at hl 1 rfl) ?_
  refine g_get (ci := 0) (v := .ref (h 7)) (C := RX0) (T := TX0) (N := 8) hx hb hts hinX0 hown hK hP 8 rfl rfl 7 (by decide) (hts (.fieldLink RX0 34 "ChargeStages$Battery" "used" "[I") (List.mem_of_getElem? (i := 12) rfl)) rfl dX0_copyFrom_99 ?_
  refine lv_iconst (v := 0) hx hb dX0_copyFrom_102 (by decide) ?_
  refine lv_aload_n hx hb dX0_copyFrom_103 rfl (lv_at hl 0 rfl) ?_
  refine g_get (ci := 0) (v := .ref (a 7)) (C := RX0) (T := TX0) (N := 8) hx hb hts hinX0 hown hK hP 0 rfl rfl 7 (by decide) (hts (.fieldLink RX0 34 "ChargeStages$Battery" "used" "[I") (List.mem_of_getElem? (i := 12) rfl)) rfl dX0_copyFrom_104 ?_
  refine lv_iconst (v := 0) hx hb dX0_copyFrom_107 (by decide) ?_
  refine lv_bipush (v := 6) hx hb dX0_copyFrom_108 (by decide) ?_
  refine g_copy (N := 6) (B2 := [BW G a (sF (sF (sF (sF (sF (sF (sF (sF b 0 (upd (b 0) 0 ((b2 0) 0))) 1 (b2 1)) 2 (b2 2)) 3 (b2 3)) 4 (b2 4)) 5 (b2 5)) 6 (b2 6)) 7 (b2 7)), BW G h b2]) hx hb (hml.trans hl.1.symm) hown (hts (.methodLink RX0 46 arraycopyName) (List.mem_of_getElem? (i := 3) rfl)) (hts (.native arraycopyName) (List.mem_of_getElem? (i := 4) rfl)) (hts (.static arraycopyName) (List.mem_of_getElem? (i := 5) rfl)) (hts (.initialized "java/lang/System") (List.mem_of_getElem? (i := 6) rfl)) hK hP hD hS 15 7 rfl rfl (by decide) (by decide) rfl (Nat.le_of_ble_eq_true rfl) (Nat.le_of_ble_eq_true rfl) dX0_copyFrom_110 (fun H locs hP hD hS => ?_)
  exact g_retv hx hb hr hlocks hS dX0_copyFrom_113 rfl hP
def fl_X0_leastCharge_9 (b : (Nat → Nat → Int32)) : Nat → Int32 → Int32 → Int32
  | 0, _, _ => (0 : Int32)
  | n + 1, x9_1, x9_2 => (if ((b 0) 0) ≤ x9_2 then x9_1 else (gL ((gmin x9_1 ((b 1) ((x9_2).toNatClampNeg)))) (fun (v6 : Int32) => (gL ((x9_2 + 1)) (fun (v7 : Int32) => (fl_X0_leastCharge_9 b n v6 v7))))))
def okl_X0_leastCharge_9 (b : (Nat → Nat → Int32)) : Nat → Int32 → Int32 → Prop
  | 0, _, _ => False
  | n + 1, x9_1, x9_2 => ((((b 0) 0) ≤ x9_2 → True) ∧ (¬ ((b 0) 0) ≤ x9_2 → (vp_in x9_2 6) ∧ (gL ((gmin x9_1 ((b 1) ((x9_2).toNatClampNeg)))) (fun (v6 : Int32) => (gL ((x9_2 + 1)) (fun (v7 : Int32) => (okl_X0_leastCharge_9 b n v6 v7)))))))
def f_X0_leastCharge (b : (Nat → Nat → Int32)) : Int32 := (gL ((b 1) 0) (fun (v1 : Int32) => (fl_X0_leastCharge_9 b 7 v1 1)))
def ok_X0_leastCharge (b : (Nat → Nat → Int32)) : Prop := (gL ((b 1) 0) (fun (v1 : Int32) => (okl_X0_leastCharge_9 b 7 v1 1)))
set_option maxHeartbeats 4000000 in
set_option maxRecDepth 100000 in
theorem c_X0_leastCharge (l : Launch) (G : gG) (a : Nat → Nat) (b : (Nat → Nat → Int32)) (R : Int32) (hR : R = f_X0_leastCharge b) (hok : ok_X0_leastCharge b) : CT l G yX0_leastCharge wsX0_leastCharge 1 13 [.ref (a 0)] [BW G a b] (some (.int R)) [BW G a b] := by
  unfold f_X0_leastCharge at hR
  unfold ok_X0_leastCharge at hok
  refine CT.of (cc := cX0_leastCharge) (maxL := 3) (ret := (some .int)) (plainFor_of_name (by decide +kernel)) rfl rfl (Nat.le_of_ble_eq_true rfl) ?_
  intro p e s m below meth c A ls hx hb hml hr hts hown hlocks hK hP hD hA hS hl
  have hown : s.vm.findClass RX0 = some m.cls := hown
  have hl : lv_has ls 3 [(0, .ref (a 0))] := hl
  have hinX0 : ∀ w ∈ wsX00, w ∈ wsX0_leastCharge := fun w h => List.mem_cons_of_mem _ (List.mem_append_right _ h)
  refine lv_aload_n hx hb dX0_leastCharge_0 rfl (lv_at hl 0 rfl) ?_
  refine g_get (ci := 0) (v := .ref (a 1)) (C := RX0) (T := TX0) (N := 8) hx hb hts hinX0 hown hK hP 0 rfl rfl 1 (by decide) (hts (.fieldLink RX0 15 "ChargeStages$Battery" "charge" "[I") (List.mem_of_getElem? (i := 1) rfl)) rfl dX0_leastCharge_1 ?_
  refine lv_iconst (v := 0) hx hb dX0_leastCharge_4 (by decide) ?_
  refine g_ld (n := 6) (f := (b 1)) (v := (b 1) 0) (k := 0) hx hb hK hP 1 rfl (by decide) (by unfold vp_in; decide) rfl dX0_leastCharge_5 ?_
  obtain ⟨v1, ev1, hR, hok⟩ := g_let2 hR hok
  refine g_topE ev1.symm ?_
  refine lv_istore_n (lv' := [(1, .int v1), (0, .ref (a 0))]) hx hb dX0_leastCharge_6 rfl hl (by decide) rfl (fun ls hl => ?_)
  refine lv_iconst (v := 1) hx hb dX0_leastCharge_7 (by decide) ?_
  refine lv_istore_n (lv' := [(2, .int 1), (1, .int v1), (0, .ref (a 0))]) hx hb dX0_leastCharge_8 rfl hl (by decide) rfl (fun ls hl => ?_)
  have lp9 : ∀ (n : Nat) (x9_1 : Int32) (x9_2 : Int32) (H : Heap) (locs : List Loc) (ls : Array Slot), R = fl_X0_leastCharge_9 b n x9_1 x9_2 → okl_X0_leastCharge_9 b n x9_1 x9_2 → va_P G.1 vwCl (List.flatten [BW G a b]) H → va_D A (List.flatten [BW G a b]) → va_S A s.heap H locs → lv_has ls 3 [(0, .ref (a 0)), (1, .int x9_1), (2, .int x9_2)] → W p l e { frames := 1, cells := 0, slots := 0, locals := 13 } s m (List.toArray [.ref (a 0)]) below meth c H locs 0 0 (gQ G below (List.toArray [.ref (a 0)]) s (some (.int R)) [BW G a b] A) (F0 m 9 ls []) := by
    intro n
    induction n with
    | zero =>
      intro x9_1 x9_2 H locs ls hR hok hP hD hS hl
      rw [okl_X0_leastCharge_9] at hok
      exact hok.elim
    | succ n ih =>
      intro x9_1 x9_2 H locs ls hR hok hP hD hS hl
      rw [fl_X0_leastCharge_9] at hR
      rw [okl_X0_leastCharge_9] at hok
      refine lv_iload_n hx hb dX0_leastCharge_9 rfl (lv_at hl 2 rfl) ?_
      refine lv_aload_n hx hb dX0_leastCharge_10 rfl (lv_at hl 0 rfl) ?_
      refine g_get (ci := 0) (v := .int ((b 0) 0)) (C := RX0) (T := TX0) (N := 8) hx hb hts hinX0 hown hK hP 0 rfl rfl 0 (by decide) (hts (.fieldLink RX0 9 "ChargeStages$Battery" "cells" "I") (List.mem_of_getElem? (i := 2) rfl)) rfl dX0_leastCharge_11 ?_
      refine lv_icmp_ge (tgt := 34) hx hb dX0_leastCharge_14 (by decide) (fun c4 => ?_) (fun c4 => ?_)
      · rw [if_pos c4] at hR
        have hok := hok.1 c4
        refine lv_iload_n hx hb dX0_leastCharge_34 rfl (lv_at hl 1 rfl) ?_
        subst hR
        exact g_ret hx hb hr hlocks hS dX0_leastCharge_35 rfl hP
      · rw [if_neg c4] at hR
        have hok := hok.2 c4
        refine lv_iload_n hx hb dX0_leastCharge_17 rfl (lv_at hl 1 rfl) ?_
        refine lv_aload_n hx hb dX0_leastCharge_18 rfl (lv_at hl 0 rfl) ?_
        refine g_get (ci := 0) (v := .ref (a 1)) (C := RX0) (T := TX0) (N := 8) hx hb hts hinX0 hown hK hP 0 rfl rfl 1 (by decide) (hts (.fieldLink RX0 15 "ChargeStages$Battery" "charge" "[I") (List.mem_of_getElem? (i := 1) rfl)) rfl dX0_leastCharge_19 ?_
        refine lv_iload_n hx hb dX0_leastCharge_22 rfl (lv_at hl 2 rfl) ?_
        obtain ⟨k5, hok⟩ := hok
        refine g_ld (n := 6) (f := (b 1)) (v := (b 1) ((x9_2).toNatClampNeg)) (k := ((x9_2).toNatClampNeg)) hx hb hK hP 1 rfl rfl k5 rfl dX0_leastCharge_23 ?_
        refine va_mmin hx hb (hml.trans hl.1.symm) hown (hts (.methodLink RX0 37 Lib.Math.min.name) (List.mem_of_getElem? (i := 3) rfl)) (hts (.static Lib.Math.min.name) (List.mem_of_getElem? (i := 4) rfl)) (hts (.initialized "java/lang/Math") (List.mem_of_getElem? (i := 5) rfl)) (hts (.code Lib.Math.min.name Lib.Math.min.code 2 (some .int)) (List.mem_of_getElem? (i := 6) rfl)) (Nat.le_of_ble_eq_true rfl) (Nat.le_of_ble_eq_true rfl) (Nat.zero_le _) (Nat.zero_le _) dX0_leastCharge_24 ?_
        refine g_topE (y := (gmin x9_1 ((b 1) ((x9_2).toNatClampNeg)))) rfl ?_
        obtain ⟨v6, ev6, hR, hok⟩ := g_let2 hR hok
        refine g_topE ev6.symm ?_
        refine lv_istore_n (lv' := [(1, .int v6), (0, .ref (a 0)), (2, .int x9_2)]) hx hb dX0_leastCharge_27 rfl hl (by decide) rfl (fun ls hl => ?_)
        obtain ⟨v7, ev7, hR, hok⟩ := g_let2 hR hok
        refine lv_iinc (v := v7) (lv' := [(2, .int v7), (1, .int v6), (0, .ref (a 0))]) hx hb dX0_leastCharge_28 hl (k := 2) rfl (by subst ev7; rfl) (by decide) rfl (fun ls hl => ?_)
        refine lv_goto (tgt := 9) hx hb dX0_leastCharge_31 (by decide) ?_
        exact ih v6 v7 _ _ _ hR hok hP hD hS (lv_sub hl [2, 1, 0] rfl)
  exact lp9 7 v1 1 _ _ _ hR hok hP hD hS (lv_sub hl [2, 1, 0] rfl)
def fl_X0_greatestCharge_9 (b : (Nat → Nat → Int32)) : Nat → Int32 → Int32 → Int32
  | 0, _, _ => (0 : Int32)
  | n + 1, x9_1, x9_2 => (if ((b 0) 0) ≤ x9_2 then x9_1 else (gL ((gmax x9_1 ((b 1) ((x9_2).toNatClampNeg)))) (fun (v6 : Int32) => (gL ((x9_2 + 1)) (fun (v7 : Int32) => (fl_X0_greatestCharge_9 b n v6 v7))))))
def okl_X0_greatestCharge_9 (b : (Nat → Nat → Int32)) : Nat → Int32 → Int32 → Prop
  | 0, _, _ => False
  | n + 1, x9_1, x9_2 => ((((b 0) 0) ≤ x9_2 → True) ∧ (¬ ((b 0) 0) ≤ x9_2 → (vp_in x9_2 6) ∧ (gL ((gmax x9_1 ((b 1) ((x9_2).toNatClampNeg)))) (fun (v6 : Int32) => (gL ((x9_2 + 1)) (fun (v7 : Int32) => (okl_X0_greatestCharge_9 b n v6 v7)))))))
def f_X0_greatestCharge (b : (Nat → Nat → Int32)) : Int32 := (gL ((b 1) 0) (fun (v1 : Int32) => (fl_X0_greatestCharge_9 b 7 v1 1)))
def ok_X0_greatestCharge (b : (Nat → Nat → Int32)) : Prop := (gL ((b 1) 0) (fun (v1 : Int32) => (okl_X0_greatestCharge_9 b 7 v1 1)))
set_option maxHeartbeats 4000000 in
set_option maxRecDepth 100000 in
theorem c_X0_greatestCharge (l : Launch) (G : gG) (a : Nat → Nat) (b : (Nat → Nat → Int32)) (R : Int32) (hR : R = f_X0_greatestCharge b) (hok : ok_X0_greatestCharge b) : CT l G yX0_greatestCharge wsX0_greatestCharge 1 13 [.ref (a 0)] [BW G a b] (some (.int R)) [BW G a b] := by
  unfold f_X0_greatestCharge at hR
  unfold ok_X0_greatestCharge at hok
  refine CT.of (cc := cX0_greatestCharge) (maxL := 3) (ret := (some .int)) (plainFor_of_name (by decide +kernel)) rfl rfl (Nat.le_of_ble_eq_true rfl) ?_
  intro p e s m below meth c A ls hx hb hml hr hts hown hlocks hK hP hD hA hS hl
  have hown : s.vm.findClass RX0 = some m.cls := hown
  have hl : lv_has ls 3 [(0, .ref (a 0))] := hl
  have hinX0 : ∀ w ∈ wsX00, w ∈ wsX0_greatestCharge := fun w h => List.mem_cons_of_mem _ (List.mem_append_right _ h)
  refine lv_aload_n hx hb dX0_greatestCharge_0 rfl (lv_at hl 0 rfl) ?_
  refine g_get (ci := 0) (v := .ref (a 1)) (C := RX0) (T := TX0) (N := 8) hx hb hts hinX0 hown hK hP 0 rfl rfl 1 (by decide) (hts (.fieldLink RX0 15 "ChargeStages$Battery" "charge" "[I") (List.mem_of_getElem? (i := 1) rfl)) rfl dX0_greatestCharge_1 ?_
  refine lv_iconst (v := 0) hx hb dX0_greatestCharge_4 (by decide) ?_
  refine g_ld (n := 6) (f := (b 1)) (v := (b 1) 0) (k := 0) hx hb hK hP 1 rfl (by decide) (by unfold vp_in; decide) rfl dX0_greatestCharge_5 ?_
  obtain ⟨v1, ev1, hR, hok⟩ := g_let2 hR hok
  refine g_topE ev1.symm ?_
  refine lv_istore_n (lv' := [(1, .int v1), (0, .ref (a 0))]) hx hb dX0_greatestCharge_6 rfl hl (by decide) rfl (fun ls hl => ?_)
  refine lv_iconst (v := 1) hx hb dX0_greatestCharge_7 (by decide) ?_
  refine lv_istore_n (lv' := [(2, .int 1), (1, .int v1), (0, .ref (a 0))]) hx hb dX0_greatestCharge_8 rfl hl (by decide) rfl (fun ls hl => ?_)
  have lp9 : ∀ (n : Nat) (x9_1 : Int32) (x9_2 : Int32) (H : Heap) (locs : List Loc) (ls : Array Slot), R = fl_X0_greatestCharge_9 b n x9_1 x9_2 → okl_X0_greatestCharge_9 b n x9_1 x9_2 → va_P G.1 vwCl (List.flatten [BW G a b]) H → va_D A (List.flatten [BW G a b]) → va_S A s.heap H locs → lv_has ls 3 [(0, .ref (a 0)), (1, .int x9_1), (2, .int x9_2)] → W p l e { frames := 1, cells := 0, slots := 0, locals := 13 } s m (List.toArray [.ref (a 0)]) below meth c H locs 0 0 (gQ G below (List.toArray [.ref (a 0)]) s (some (.int R)) [BW G a b] A) (F0 m 9 ls []) := by
    intro n
    induction n with
    | zero =>
      intro x9_1 x9_2 H locs ls hR hok hP hD hS hl
      rw [okl_X0_greatestCharge_9] at hok
      exact hok.elim
    | succ n ih =>
      intro x9_1 x9_2 H locs ls hR hok hP hD hS hl
      rw [fl_X0_greatestCharge_9] at hR
      rw [okl_X0_greatestCharge_9] at hok
      refine lv_iload_n hx hb dX0_greatestCharge_9 rfl (lv_at hl 2 rfl) ?_
      refine lv_aload_n hx hb dX0_greatestCharge_10 rfl (lv_at hl 0 rfl) ?_
      refine g_get (ci := 0) (v := .int ((b 0) 0)) (C := RX0) (T := TX0) (N := 8) hx hb hts hinX0 hown hK hP 0 rfl rfl 0 (by decide) (hts (.fieldLink RX0 9 "ChargeStages$Battery" "cells" "I") (List.mem_of_getElem? (i := 2) rfl)) rfl dX0_greatestCharge_11 ?_
      refine lv_icmp_ge (tgt := 34) hx hb dX0_greatestCharge_14 (by decide) (fun c4 => ?_) (fun c4 => ?_)
      · rw [if_pos c4] at hR
        have hok := hok.1 c4
        refine lv_iload_n hx hb dX0_greatestCharge_34 rfl (lv_at hl 1 rfl) ?_
        subst hR
        exact g_ret hx hb hr hlocks hS dX0_greatestCharge_35 rfl hP
      · rw [if_neg c4] at hR
        have hok := hok.2 c4
        refine lv_iload_n hx hb dX0_greatestCharge_17 rfl (lv_at hl 1 rfl) ?_
        refine lv_aload_n hx hb dX0_greatestCharge_18 rfl (lv_at hl 0 rfl) ?_
        refine g_get (ci := 0) (v := .ref (a 1)) (C := RX0) (T := TX0) (N := 8) hx hb hts hinX0 hown hK hP 0 rfl rfl 1 (by decide) (hts (.fieldLink RX0 15 "ChargeStages$Battery" "charge" "[I") (List.mem_of_getElem? (i := 1) rfl)) rfl dX0_greatestCharge_19 ?_
        refine lv_iload_n hx hb dX0_greatestCharge_22 rfl (lv_at hl 2 rfl) ?_
        obtain ⟨k5, hok⟩ := hok
        refine g_ld (n := 6) (f := (b 1)) (v := (b 1) ((x9_2).toNatClampNeg)) (k := ((x9_2).toNatClampNeg)) hx hb hK hP 1 rfl rfl k5 rfl dX0_greatestCharge_23 ?_
        refine va_mmax hx hb (hml.trans hl.1.symm) hown (hts (.methodLink RX0 43 Lib.Math.max.name) (List.mem_of_getElem? (i := 3) rfl)) (hts (.static Lib.Math.max.name) (List.mem_of_getElem? (i := 4) rfl)) (hts (.initialized "java/lang/Math") (List.mem_of_getElem? (i := 5) rfl)) (hts (.code Lib.Math.max.name Lib.Math.max.code 2 (some .int)) (List.mem_of_getElem? (i := 6) rfl)) (Nat.le_of_ble_eq_true rfl) (Nat.le_of_ble_eq_true rfl) (Nat.zero_le _) (Nat.zero_le _) dX0_greatestCharge_24 ?_
        refine g_topE (y := (gmax x9_1 ((b 1) ((x9_2).toNatClampNeg)))) rfl ?_
        obtain ⟨v6, ev6, hR, hok⟩ := g_let2 hR hok
        refine g_topE ev6.symm ?_
        refine lv_istore_n (lv' := [(1, .int v6), (0, .ref (a 0)), (2, .int x9_2)]) hx hb dX0_greatestCharge_27 rfl hl (by decide) rfl (fun ls hl => ?_)
        obtain ⟨v7, ev7, hR, hok⟩ := g_let2 hR hok
        refine lv_iinc (v := v7) (lv' := [(2, .int v7), (1, .int v6), (0, .ref (a 0))]) hx hb dX0_greatestCharge_28 hl (k := 2) rfl (by subst ev7; rfl) (by decide) rfl (fun ls hl => ?_)
        refine lv_goto (tgt := 9) hx hb dX0_greatestCharge_31 (by decide) ?_
        exact ih v6 v7 _ _ _ hR hok hP hD hS (lv_sub hl [2, 1, 0] rfl)
  exact lp9 7 v1 1 _ _ _ hR hok hP hD hS (lv_sub hl [2, 1, 0] rfl)
def fl_X0_draw_2 (p1 : Int32) : Nat → Int32 → (Nat → Nat → Int32) → (Nat → Nat → Int32)
  | 0, _, _ => (fun _ _ => 0)
  | n + 1, x2_2, w2_0 => (if ((w2_0 0) 0) ≤ x2_2 then w2_0 else (gL (upd (w2_0 1) ((x2_2).toNatClampNeg) (((w2_0 1) ((x2_2).toNatClampNeg)) - p1)) (fun (z6 : (Nat → Int32)) => (gL (upd (w2_0 7) ((x2_2).toNatClampNeg) (((w2_0 7) ((x2_2).toNatClampNeg)) + p1)) (fun (z9 : (Nat → Int32)) => (gL ((x2_2 + 1)) (fun (v11 : Int32) => (fl_X0_draw_2 p1 n v11 (sF (sF w2_0 1 z6) 7 z9)))))))))
def okl_X0_draw_2 (p1 : Int32) : Nat → Int32 → (Nat → Nat → Int32) → Prop
  | 0, _, _ => False
  | n + 1, x2_2, w2_0 => ((((w2_0 0) 0) ≤ x2_2 → True) ∧ (¬ ((w2_0 0) 0) ≤ x2_2 → (vp_in x2_2 6) ∧ (vp_in x2_2 6) ∧ (gL (upd (w2_0 1) ((x2_2).toNatClampNeg) (((w2_0 1) ((x2_2).toNatClampNeg)) - p1)) (fun (z6 : (Nat → Int32)) => (vp_in x2_2 6) ∧ (vp_in x2_2 6) ∧ (gL (upd (w2_0 7) ((x2_2).toNatClampNeg) (((w2_0 7) ((x2_2).toNatClampNeg)) + p1)) (fun (z9 : (Nat → Int32)) => (gL ((x2_2 + 1)) (fun (v11 : Int32) => (okl_X0_draw_2 p1 n v11 (sF (sF w2_0 1 z6) 7 z9))))))))))
def f_X0_draw (b : (Nat → Nat → Int32)) (p1 : Int32) : (Nat → Nat → Int32) := (fl_X0_draw_2 p1 7 0 b)
def ok_X0_draw (b : (Nat → Nat → Int32)) (p1 : Int32) : Prop := (okl_X0_draw_2 p1 7 0 b)
set_option maxHeartbeats 4000000 in
set_option maxRecDepth 100000 in
theorem c_X0_draw (l : Launch) (G : gG) (a : Nat → Nat) (b : (Nat → Nat → Int32)) (p1 : Int32) (R : (Nat → Nat → Int32)) (hR : R = f_X0_draw b p1) (hok : ok_X0_draw b p1) : CT l G yX0_draw wsX0_draw 0 0 [.ref (a 0), .int p1] [BW G a b] none [BW G a R] := by
  unfold f_X0_draw at hR
  unfold ok_X0_draw at hok
  refine CT.of (cc := cX0_draw) (maxL := 3) (ret := none) (plainFor_of_name (by decide +kernel)) rfl rfl (Nat.le_of_ble_eq_true rfl) ?_
  intro p e s m below meth c A ls hx hb hml hr hts hown hlocks hK hP hD hA hS hl
  have hown : s.vm.findClass RX0 = some m.cls := hown
  have hl : lv_has ls 3 [(0, .ref (a 0)), (1, .int p1)] := hl
  have hinX0 : ∀ w ∈ wsX00, w ∈ wsX0_draw := fun w h => List.mem_cons_of_mem _ (List.mem_append_right _ h)
  refine lv_iconst (v := 0) hx hb dX0_draw_0 (by decide) ?_
  refine lv_istore_n (lv' := [(2, .int 0), (0, .ref (a 0)), (1, .int p1)]) hx hb dX0_draw_1 rfl hl (by decide) rfl (fun ls hl => ?_)
  have lp2 : ∀ (n : Nat) (x2_2 : Int32) (w2_0 : (Nat → Nat → Int32)) (H : Heap) (locs : List Loc) (ls : Array Slot), R = fl_X0_draw_2 p1 n x2_2 w2_0 → okl_X0_draw_2 p1 n x2_2 w2_0 → va_P G.1 vwCl (List.flatten [BW G a w2_0]) H → va_D A (List.flatten [BW G a w2_0]) → va_S A s.heap H locs → lv_has ls 3 [(0, .ref (a 0)), (1, .int p1), (2, .int x2_2)] → W p l e { frames := 0, cells := 0, slots := 0, locals := 0 } s m (List.toArray [.ref (a 0), .int p1]) below meth c H locs 0 0 (gQ G below (List.toArray [.ref (a 0), .int p1]) s none [BW G a R] A) (F0 m 2 ls []) := by
    intro n
    induction n with
    | zero =>
      intro x2_2 w2_0 H locs ls hR hok hP hD hS hl
      rw [okl_X0_draw_2] at hok
      exact hok.elim
    | succ n ih =>
      intro x2_2 w2_0 H locs ls hR hok hP hD hS hl
      rw [fl_X0_draw_2] at hR
      rw [okl_X0_draw_2] at hok
      refine lv_iload_n hx hb dX0_draw_2 rfl (lv_at hl 2 rfl) ?_
      refine lv_aload_n hx hb dX0_draw_3 rfl (lv_at hl 0 rfl) ?_
      refine g_get (ci := 0) (v := .int ((w2_0 0) 0)) (C := RX0) (T := TX0) (N := 8) hx hb hts hinX0 hown hK hP 0 rfl rfl 0 (by decide) (hts (.fieldLink RX0 9 "ChargeStages$Battery" "cells" "I") (List.mem_of_getElem? (i := 1) rfl)) rfl dX0_draw_4 ?_
      refine lv_icmp_ge (tgt := 36) hx hb dX0_draw_7 (by decide) (fun c4 => ?_) (fun c4 => ?_)
      · rw [if_pos c4] at hR
        have hok := hok.1 c4
        subst hR
        exact g_retv hx hb hr hlocks hS dX0_draw_36 rfl hP
      · rw [if_neg c4] at hR
        have hok := hok.2 c4
        refine lv_aload_n hx hb dX0_draw_10 rfl (lv_at hl 0 rfl) ?_
        refine g_get (ci := 0) (v := .ref (a 1)) (C := RX0) (T := TX0) (N := 8) hx hb hts hinX0 hown hK hP 0 rfl rfl 1 (by decide) (hts (.fieldLink RX0 15 "ChargeStages$Battery" "charge" "[I") (List.mem_of_getElem? (i := 2) rfl)) rfl dX0_draw_11 ?_
        refine lv_iload_n hx hb dX0_draw_14 rfl (lv_at hl 2 rfl) ?_
        refine lv_dup2_11 hx hb dX0_draw_15 rfl rfl ?_
        obtain ⟨k5, hok⟩ := hok
        refine g_ld (n := 6) (f := (w2_0 1)) (v := (w2_0 1) ((x2_2).toNatClampNeg)) (k := ((x2_2).toNatClampNeg)) hx hb hK hP 1 rfl rfl k5 rfl dX0_draw_16 ?_
        refine lv_iload_n hx hb dX0_draw_17 rfl (lv_at hl 1 rfl) ?_
        refine lv_isub hx hb dX0_draw_18 ?_
        obtain ⟨k7, hok⟩ := hok
        obtain ⟨z6, ez6, hR, hok⟩ := g_let2 hR hok
        refine g_st (n := 6) (f := (w2_0 1)) (k := ((x2_2).toNatClampNeg)) (B2 := [BW G a (sF w2_0 1 z6)]) hx hb hK hP hD hS 1 rfl rfl k7 (by subst ez6; rfl) dX0_draw_19 (fun H locs hP hD hS => ?_)
        refine lv_aload_n hx hb dX0_draw_20 rfl (lv_at hl 0 rfl) ?_
        refine g_get (ci := 0) (v := .ref (a 7)) (C := RX0) (T := TX0) (N := 8) hx hb hts hinX0 hown hK hP 0 rfl rfl 7 (by decide) (hts (.fieldLink RX0 34 "ChargeStages$Battery" "used" "[I") (List.mem_of_getElem? (i := 3) rfl)) rfl dX0_draw_21 ?_
        refine lv_iload_n hx hb dX0_draw_24 rfl (lv_at hl 2 rfl) ?_
        refine lv_dup2_11 hx hb dX0_draw_25 rfl rfl ?_
        obtain ⟨k8, hok⟩ := hok
        refine g_ld (n := 6) (f := (w2_0 7)) (v := (w2_0 7) ((x2_2).toNatClampNeg)) (k := ((x2_2).toNatClampNeg)) hx hb hK hP 7 rfl rfl k8 rfl dX0_draw_26 ?_
        refine lv_iload_n hx hb dX0_draw_27 rfl (lv_at hl 1 rfl) ?_
        refine lv_iadd hx hb dX0_draw_28 ?_
        obtain ⟨k10, hok⟩ := hok
        obtain ⟨z9, ez9, hR, hok⟩ := g_let2 hR hok
        refine g_st (n := 6) (f := (w2_0 7)) (k := ((x2_2).toNatClampNeg)) (B2 := [BW G a (sF (sF w2_0 1 z6) 7 z9)]) hx hb hK hP hD hS 7 rfl rfl k10 (by subst ez9; rfl) dX0_draw_29 (fun H locs hP hD hS => ?_)
        obtain ⟨v11, ev11, hR, hok⟩ := g_let2 hR hok
        refine lv_iinc (v := v11) (lv' := [(2, .int v11), (0, .ref (a 0)), (1, .int p1)]) hx hb dX0_draw_30 hl (k := 2) rfl (by subst ev11; rfl) (by decide) rfl (fun ls hl => ?_)
        refine lv_goto (tgt := 2) hx hb dX0_draw_33 (by decide) ?_
        exact ih v11 (sF (sF w2_0 1 z6) 7 z9) _ _ _ hR hok hP hD hS (lv_sub hl [1, 2, 0] rfl)
  exact lp2 7 0 b _ _ _ hR hok hP hD hS (lv_sub hl [1, 2, 0] rfl)
def fl_X0_takeIn_3 (p1 : Int32) (p2 : Int32) (p3 : Int32) : Nat → Int32 → (Nat → Nat → Int32) → (Nat → Nat → Int32)
  | 0, _, _ => (fun _ _ => 0)
  | n + 1, x3_4, w3_0 => (if ((w3_0 0) 0) ≤ x3_4 then w3_0 else (gL ((((w3_0 2) ((x3_4).toNatClampNeg)) + (p1 * p2))) (fun (v13 : Int32) => (gL ((v13 / 100)) (fun (v14 : Int32) => (gL ((((w3_0 1) ((x3_4).toNatClampNeg)) + v14)) (fun (v16 : Int32) => (gL ((gmax 0 (v16 - p3))) (fun (v17 : Int32) => (gL (upd (w3_0 3) ((x3_4).toNatClampNeg) (((w3_0 3) ((x3_4).toNatClampNeg)) + p1)) (fun (z19 : (Nat → Int32)) => (gL (upd (w3_0 2) ((x3_4).toNatClampNeg) (v13 - v13 / 100 * 100)) (fun (z21 : (Nat → Int32)) => (gL (upd (w3_0 4) ((x3_4).toNatClampNeg) (((w3_0 4) ((x3_4).toNatClampNeg)) + v14)) (fun (z24 : (Nat → Int32)) => (gL (upd (w3_0 5) ((x3_4).toNatClampNeg) (((w3_0 5) ((x3_4).toNatClampNeg)) + v17)) (fun (z27 : (Nat → Int32)) => (gL (upd (w3_0 1) ((x3_4).toNatClampNeg) (v16 - v17)) (fun (z29 : (Nat → Int32)) => (gL ((x3_4 + 1)) (fun (v31 : Int32) => (fl_X0_takeIn_3 p1 p2 p3 n v31 (sF (sF (sF (sF (sF w3_0 1 z29) 2 z21) 3 z19) 4 z24) 5 z27)))))))))))))))))))))))
def okl_X0_takeIn_3 (p1 : Int32) (p2 : Int32) (p3 : Int32) : Nat → Int32 → (Nat → Nat → Int32) → Prop
  | 0, _, _ => False
  | n + 1, x3_4, w3_0 => ((((w3_0 0) 0) ≤ x3_4 → True) ∧ (¬ ((w3_0 0) 0) ≤ x3_4 → (vp_in x3_4 6) ∧ (gL ((((w3_0 2) ((x3_4).toNatClampNeg)) + (p1 * p2))) (fun (v13 : Int32) => (gL ((v13 / 100)) (fun (v14 : Int32) => (vp_in x3_4 6) ∧ (gL ((((w3_0 1) ((x3_4).toNatClampNeg)) + v14)) (fun (v16 : Int32) => (gL ((gmax 0 (v16 - p3))) (fun (v17 : Int32) => (vp_in x3_4 6) ∧ (vp_in x3_4 6) ∧ (gL (upd (w3_0 3) ((x3_4).toNatClampNeg) (((w3_0 3) ((x3_4).toNatClampNeg)) + p1)) (fun (z19 : (Nat → Int32)) => (vp_in x3_4 6) ∧ (gL (upd (w3_0 2) ((x3_4).toNatClampNeg) (v13 - v13 / 100 * 100)) (fun (z21 : (Nat → Int32)) => (vp_in x3_4 6) ∧ (vp_in x3_4 6) ∧ (gL (upd (w3_0 4) ((x3_4).toNatClampNeg) (((w3_0 4) ((x3_4).toNatClampNeg)) + v14)) (fun (z24 : (Nat → Int32)) => (vp_in x3_4 6) ∧ (vp_in x3_4 6) ∧ (gL (upd (w3_0 5) ((x3_4).toNatClampNeg) (((w3_0 5) ((x3_4).toNatClampNeg)) + v17)) (fun (z27 : (Nat → Int32)) => (vp_in x3_4 6) ∧ (gL (upd (w3_0 1) ((x3_4).toNatClampNeg) (v16 - v17)) (fun (z29 : (Nat → Int32)) => (gL ((x3_4 + 1)) (fun (v31 : Int32) => (okl_X0_takeIn_3 p1 p2 p3 n v31 (sF (sF (sF (sF (sF w3_0 1 z29) 2 z21) 3 z19) 4 z24) 5 z27))))))))))))))))))))))))
def f_X0_takeIn (b : (Nat → Nat → Int32)) (p1 : Int32) (p2 : Int32) (p3 : Int32) : (Nat → Nat → Int32) := (fl_X0_takeIn_3 p1 p2 p3 7 0 b)
def ok_X0_takeIn (b : (Nat → Nat → Int32)) (p1 : Int32) (p2 : Int32) (p3 : Int32) : Prop := (okl_X0_takeIn_3 p1 p2 p3 7 0 b)
set_option maxHeartbeats 4000000 in
set_option maxRecDepth 100000 in
theorem c_X0_takeIn (l : Launch) (G : gG) (a : Nat → Nat) (b : (Nat → Nat → Int32)) (p1 : Int32) (p2 : Int32) (p3 : Int32) (R : (Nat → Nat → Int32)) (hR : R = f_X0_takeIn b p1 p2 p3) (hok : ok_X0_takeIn b p1 p2 p3) : CT l G yX0_takeIn wsX0_takeIn 1 13 [.ref (a 0), .int p1, .int p2, .int p3] [BW G a b] none [BW G a R] := by
  unfold f_X0_takeIn at hR
  unfold ok_X0_takeIn at hok
  refine CT.of (cc := cX0_takeIn) (maxL := 9) (ret := none) (plainFor_of_name (by decide +kernel)) rfl rfl (Nat.le_of_ble_eq_true rfl) ?_
  intro p e s m below meth c A ls hx hb hml hr hts hown hlocks hK hP hD hA hS hl
  have hown : s.vm.findClass RX0 = some m.cls := hown
  have hl : lv_has ls 9 [(0, .ref (a 0)), (1, .int p1), (2, .int p2), (3, .int p3)] := hl
  have hinX0 : ∀ w ∈ wsX00, w ∈ wsX0_takeIn := fun w h => List.mem_cons_of_mem _ (List.mem_append_right _ h)
  refine lv_iconst (v := 0) hx hb dX0_takeIn_0 (by decide) ?_
  refine lv_istore (lv' := [(4, .int 0), (0, .ref (a 0)), (1, .int p1), (2, .int p2), (3, .int p3)]) hx hb dX0_takeIn_1 hl (by decide) rfl (fun ls hl => ?_)
  have lp3 : ∀ (n : Nat) (x3_4 : Int32) (w3_0 : (Nat → Nat → Int32)) (H : Heap) (locs : List Loc) (ls : Array Slot), R = fl_X0_takeIn_3 p1 p2 p3 n x3_4 w3_0 → okl_X0_takeIn_3 p1 p2 p3 n x3_4 w3_0 → va_P G.1 vwCl (List.flatten [BW G a w3_0]) H → va_D A (List.flatten [BW G a w3_0]) → va_S A s.heap H locs → lv_has ls 9 [(0, .ref (a 0)), (1, .int p1), (2, .int p2), (3, .int p3), (4, .int x3_4)] → W p l e { frames := 1, cells := 0, slots := 0, locals := 13 } s m (List.toArray [.ref (a 0), .int p1, .int p2, .int p3]) below meth c H locs 0 0 (gQ G below (List.toArray [.ref (a 0), .int p1, .int p2, .int p3]) s none [BW G a R] A) (F0 m 3 ls []) := by
    intro n
    induction n with
    | zero =>
      intro x3_4 w3_0 H locs ls hR hok hP hD hS hl
      rw [okl_X0_takeIn_3] at hok
      exact hok.elim
    | succ n ih =>
      intro x3_4 w3_0 H locs ls hR hok hP hD hS hl
      rw [fl_X0_takeIn_3] at hR
      rw [okl_X0_takeIn_3] at hok
      refine lv_iload hx hb dX0_takeIn_3 (lv_at hl 4 rfl) ?_
      refine lv_aload_n hx hb dX0_takeIn_5 rfl (lv_at hl 0 rfl) ?_
      refine g_get (ci := 0) (v := .int ((w3_0 0) 0)) (C := RX0) (T := TX0) (N := 8) hx hb hts hinX0 hown hK hP 0 rfl rfl 0 (by decide) (hts (.fieldLink RX0 9 "ChargeStages$Battery" "cells" "I") (List.mem_of_getElem? (i := 1) rfl)) rfl dX0_takeIn_6 ?_
      refine lv_icmp_ge (tgt := 119) hx hb dX0_takeIn_9 (by decide) (fun c11 => ?_) (fun c11 => ?_)
      · rw [if_pos c11] at hR
        have hok := hok.1 c11
        subst hR
        exact g_retv hx hb hr hlocks hS dX0_takeIn_119 rfl hP
      · rw [if_neg c11] at hR
        have hok := hok.2 c11
        refine lv_aload_n hx hb dX0_takeIn_12 rfl (lv_at hl 0 rfl) ?_
        refine g_get (ci := 0) (v := .ref (a 2)) (C := RX0) (T := TX0) (N := 8) hx hb hts hinX0 hown hK hP 0 rfl rfl 2 (by decide) (hts (.fieldLink RX0 19 "ChargeStages$Battery" "rest" "[I") (List.mem_of_getElem? (i := 2) rfl)) rfl dX0_takeIn_13 ?_
        refine lv_iload hx hb dX0_takeIn_16 (lv_at hl 4 rfl) ?_
        obtain ⟨k12, hok⟩ := hok
        refine g_ld (n := 6) (f := (w3_0 2)) (v := (w3_0 2) ((x3_4).toNatClampNeg)) (k := ((x3_4).toNatClampNeg)) hx hb hK hP 2 rfl rfl k12 rfl dX0_takeIn_18 ?_
        refine lv_iload_n hx hb dX0_takeIn_19 rfl (lv_at hl 1 rfl) ?_
        refine lv_iload_n hx hb dX0_takeIn_20 rfl (lv_at hl 2 rfl) ?_
        refine lv_imul hx hb dX0_takeIn_21 ?_
        refine lv_iadd hx hb dX0_takeIn_22 ?_
        obtain ⟨v13, ev13, hR, hok⟩ := g_let2 hR hok
        refine g_topE ev13.symm ?_
        refine lv_istore (lv' := [(5, .int v13), (0, .ref (a 0)), (1, .int p1), (2, .int p2), (3, .int p3), (4, .int x3_4)]) hx hb dX0_takeIn_23 hl (by decide) rfl (fun ls hl => ?_)
        refine lv_iload hx hb dX0_takeIn_25 (lv_at hl 0 rfl) ?_
        refine lv_bipush (v := 100) hx hb dX0_takeIn_27 (by decide) ?_
        refine lv_idiv hx hb dX0_takeIn_29 (by decide) ?_
        obtain ⟨v14, ev14, hR, hok⟩ := g_let2 hR hok
        refine g_topE ev14.symm ?_
        refine lv_istore (lv' := [(6, .int v14), (5, .int v13), (0, .ref (a 0)), (1, .int p1), (2, .int p2), (3, .int p3), (4, .int x3_4)]) hx hb dX0_takeIn_30 hl (by decide) rfl (fun ls hl => ?_)
        refine lv_aload_n hx hb dX0_takeIn_32 rfl (lv_at hl 2 rfl) ?_
        refine g_get (ci := 0) (v := .ref (a 1)) (C := RX0) (T := TX0) (N := 8) hx hb hts hinX0 hown hK hP 0 rfl rfl 1 (by decide) (hts (.fieldLink RX0 15 "ChargeStages$Battery" "charge" "[I") (List.mem_of_getElem? (i := 3) rfl)) rfl dX0_takeIn_33 ?_
        refine lv_iload hx hb dX0_takeIn_36 (lv_at hl 6 rfl) ?_
        obtain ⟨k15, hok⟩ := hok
        refine g_ld (n := 6) (f := (w3_0 1)) (v := (w3_0 1) ((x3_4).toNatClampNeg)) (k := ((x3_4).toNatClampNeg)) hx hb hK hP 1 rfl rfl k15 rfl dX0_takeIn_38 ?_
        refine lv_iload hx hb dX0_takeIn_39 (lv_at hl 0 rfl) ?_
        refine lv_iadd hx hb dX0_takeIn_41 ?_
        obtain ⟨v16, ev16, hR, hok⟩ := g_let2 hR hok
        refine g_topE ev16.symm ?_
        refine lv_istore (lv' := [(7, .int v16), (6, .int v14), (5, .int v13), (0, .ref (a 0)), (1, .int p1), (2, .int p2), (3, .int p3), (4, .int x3_4)]) hx hb dX0_takeIn_42 hl (by decide) rfl (fun ls hl => ?_)
        refine lv_iconst (v := 0) hx hb dX0_takeIn_44 (by decide) ?_
        refine lv_iload hx hb dX0_takeIn_45 (lv_at hl 0 rfl) ?_
        refine lv_iload_n hx hb dX0_takeIn_47 rfl (lv_at hl 6 rfl) ?_
        refine lv_isub hx hb dX0_takeIn_48 ?_
        refine va_mmax hx hb (hml.trans hl.1.symm) hown (hts (.methodLink RX0 43 Lib.Math.max.name) (List.mem_of_getElem? (i := 4) rfl)) (hts (.static Lib.Math.max.name) (List.mem_of_getElem? (i := 5) rfl)) (hts (.initialized "java/lang/Math") (List.mem_of_getElem? (i := 6) rfl)) (hts (.code Lib.Math.max.name Lib.Math.max.code 2 (some .int)) (List.mem_of_getElem? (i := 7) rfl)) (Nat.le_of_ble_eq_true rfl) (Nat.le_of_ble_eq_true rfl) (Nat.zero_le _) (Nat.zero_le _) dX0_takeIn_49 ?_
        refine g_topE (y := (gmax 0 (v16 - p3))) rfl ?_
        obtain ⟨v17, ev17, hR, hok⟩ := g_let2 hR hok
        refine g_topE ev17.symm ?_
        refine lv_istore (lv' := [(8, .int v17), (7, .int v16), (6, .int v14), (5, .int v13), (0, .ref (a 0)), (1, .int p1), (2, .int p2), (3, .int p3), (4, .int x3_4)]) hx hb dX0_takeIn_52 hl (by decide) rfl (fun ls hl => ?_)
        refine lv_aload_n hx hb dX0_takeIn_54 rfl (lv_at hl 4 rfl) ?_
        refine g_get (ci := 0) (v := .ref (a 3)) (C := RX0) (T := TX0) (N := 8) hx hb hts hinX0 hown hK hP 0 rfl rfl 3 (by decide) (hts (.fieldLink RX0 22 "ChargeStages$Battery" "cameIn" "[I") (List.mem_of_getElem? (i := 8) rfl)) rfl dX0_takeIn_55 ?_
        refine lv_iload hx hb dX0_takeIn_58 (lv_at hl 8 rfl) ?_
        refine lv_dup2_11 hx hb dX0_takeIn_60 rfl rfl ?_
        obtain ⟨k18, hok⟩ := hok
        refine g_ld (n := 6) (f := (w3_0 3)) (v := (w3_0 3) ((x3_4).toNatClampNeg)) (k := ((x3_4).toNatClampNeg)) hx hb hK hP 3 rfl rfl k18 rfl dX0_takeIn_61 ?_
        refine lv_iload_n hx hb dX0_takeIn_62 rfl (lv_at hl 5 rfl) ?_
        refine lv_iadd hx hb dX0_takeIn_63 ?_
        obtain ⟨k20, hok⟩ := hok
        obtain ⟨z19, ez19, hR, hok⟩ := g_let2 hR hok
        refine g_st (n := 6) (f := (w3_0 3)) (k := ((x3_4).toNatClampNeg)) (B2 := [BW G a (sF w3_0 3 z19)]) hx hb hK hP hD hS 3 rfl rfl k20 (by subst ez19; rfl) dX0_takeIn_64 (fun H locs hP hD hS => ?_)
        refine lv_aload_n hx hb dX0_takeIn_65 rfl (lv_at hl 4 rfl) ?_
        refine g_get (ci := 0) (v := .ref (a 2)) (C := RX0) (T := TX0) (N := 8) hx hb hts hinX0 hown hK hP 0 rfl rfl 2 (by decide) (hts (.fieldLink RX0 19 "ChargeStages$Battery" "rest" "[I") (List.mem_of_getElem? (i := 2) rfl)) rfl dX0_takeIn_66 ?_
        refine lv_iload hx hb dX0_takeIn_69 (lv_at hl 8 rfl) ?_
        refine lv_iload hx hb dX0_takeIn_71 (lv_at hl 3 rfl) ?_
        refine lv_bipush (v := 100) hx hb dX0_takeIn_73 (by decide) ?_
        refine lv_irem hx hb dX0_takeIn_75 (by decide) ?_
        obtain ⟨k22, hok⟩ := hok
        obtain ⟨z21, ez21, hR, hok⟩ := g_let2 hR hok
        refine g_st (n := 6) (f := (w3_0 2)) (k := ((x3_4).toNatClampNeg)) (B2 := [BW G a (sF (sF w3_0 2 z21) 3 z19)]) hx hb hK hP hD hS 2 rfl rfl k22 (by subst ez21; rfl) dX0_takeIn_76 (fun H locs hP hD hS => ?_)
        refine lv_aload_n hx hb dX0_takeIn_77 rfl (lv_at hl 4 rfl) ?_
        refine g_get (ci := 0) (v := .ref (a 4)) (C := RX0) (T := TX0) (N := 8) hx hb hts hinX0 hown hK hP 0 rfl rfl 4 (by decide) (hts (.fieldLink RX0 25 "ChargeStages$Battery" "stored" "[I") (List.mem_of_getElem? (i := 9) rfl)) rfl dX0_takeIn_78 ?_
        refine lv_iload hx hb dX0_takeIn_81 (lv_at hl 8 rfl) ?_
        refine lv_dup2_11 hx hb dX0_takeIn_83 rfl rfl ?_
        obtain ⟨k23, hok⟩ := hok
        refine g_ld (n := 6) (f := (w3_0 4)) (v := (w3_0 4) ((x3_4).toNatClampNeg)) (k := ((x3_4).toNatClampNeg)) hx hb hK hP 4 rfl rfl k23 rfl dX0_takeIn_84 ?_
        refine lv_iload hx hb dX0_takeIn_85 (lv_at hl 2 rfl) ?_
        refine lv_iadd hx hb dX0_takeIn_87 ?_
        obtain ⟨k25, hok⟩ := hok
        obtain ⟨z24, ez24, hR, hok⟩ := g_let2 hR hok
        refine g_st (n := 6) (f := (w3_0 4)) (k := ((x3_4).toNatClampNeg)) (B2 := [BW G a (sF (sF (sF w3_0 2 z21) 3 z19) 4 z24)]) hx hb hK hP hD hS 4 rfl rfl k25 (by subst ez24; rfl) dX0_takeIn_88 (fun H locs hP hD hS => ?_)
        refine lv_aload_n hx hb dX0_takeIn_89 rfl (lv_at hl 4 rfl) ?_
        refine g_get (ci := 0) (v := .ref (a 5)) (C := RX0) (T := TX0) (N := 8) hx hb hts hinX0 hown hK hP 0 rfl rfl 5 (by decide) (hts (.fieldLink RX0 28 "ChargeStages$Battery" "spilled" "[I") (List.mem_of_getElem? (i := 10) rfl)) rfl dX0_takeIn_90 ?_
        refine lv_iload hx hb dX0_takeIn_93 (lv_at hl 8 rfl) ?_
        refine lv_dup2_11 hx hb dX0_takeIn_95 rfl rfl ?_
        obtain ⟨k26, hok⟩ := hok
        refine g_ld (n := 6) (f := (w3_0 5)) (v := (w3_0 5) ((x3_4).toNatClampNeg)) (k := ((x3_4).toNatClampNeg)) hx hb hK hP 5 rfl rfl k26 rfl dX0_takeIn_96 ?_
        refine lv_iload hx hb dX0_takeIn_97 (lv_at hl 0 rfl) ?_
        refine lv_iadd hx hb dX0_takeIn_99 ?_
        obtain ⟨k28, hok⟩ := hok
        obtain ⟨z27, ez27, hR, hok⟩ := g_let2 hR hok
        refine g_st (n := 6) (f := (w3_0 5)) (k := ((x3_4).toNatClampNeg)) (B2 := [BW G a (sF (sF (sF (sF w3_0 2 z21) 3 z19) 4 z24) 5 z27)]) hx hb hK hP hD hS 5 rfl rfl k28 (by subst ez27; rfl) dX0_takeIn_100 (fun H locs hP hD hS => ?_)
        refine lv_aload_n hx hb dX0_takeIn_101 rfl (lv_at hl 4 rfl) ?_
        refine g_get (ci := 0) (v := .ref (a 1)) (C := RX0) (T := TX0) (N := 8) hx hb hts hinX0 hown hK hP 0 rfl rfl 1 (by decide) (hts (.fieldLink RX0 15 "ChargeStages$Battery" "charge" "[I") (List.mem_of_getElem? (i := 3) rfl)) rfl dX0_takeIn_102 ?_
        refine lv_iload hx hb dX0_takeIn_105 (lv_at hl 8 rfl) ?_
        refine lv_iload hx hb dX0_takeIn_107 (lv_at hl 1 rfl) ?_
        refine lv_iload hx hb dX0_takeIn_109 (lv_at hl 0 rfl) ?_
        refine lv_isub hx hb dX0_takeIn_111 ?_
        obtain ⟨k30, hok⟩ := hok
        obtain ⟨z29, ez29, hR, hok⟩ := g_let2 hR hok
        refine g_st (n := 6) (f := (w3_0 1)) (k := ((x3_4).toNatClampNeg)) (B2 := [BW G a (sF (sF (sF (sF (sF w3_0 1 z29) 2 z21) 3 z19) 4 z24) 5 z27)]) hx hb hK hP hD hS 1 rfl rfl k30 (by subst ez29; rfl) dX0_takeIn_112 (fun H locs hP hD hS => ?_)
        obtain ⟨v31, ev31, hR, hok⟩ := g_let2 hR hok
        refine lv_iinc (v := v31) (lv' := [(4, .int v31), (8, .int v17), (7, .int v16), (6, .int v14), (5, .int v13), (0, .ref (a 0)), (1, .int p1), (2, .int p2), (3, .int p3)]) hx hb dX0_takeIn_113 hl (k := 8) rfl (by subst ev31; rfl) (by decide) rfl (fun ls hl => ?_)
        refine lv_goto (tgt := 3) hx hb dX0_takeIn_116 (by decide) ?_
        exact ih v31 (sF (sF (sF (sF (sF w3_0 1 z29) 2 z21) 3 z19) 4 z24) 5 z27) _ _ _ hR hok hP hD hS (lv_sub hl [5, 6, 7, 8, 0] rfl)
  exact lp3 7 0 b _ _ _ hR hok hP hD hS (lv_sub hl [1, 2, 3, 4, 0] rfl)
def f_X6_baseVoltage (p1 : Int32) (p2 : Int32) : Int32 := (if p2 ≤ 0 then 3000 else (3000 + ((1200 * p1) / p2)))
def ok_X6_baseVoltage (p2 : Int32) : Prop := ((p2 ≤ 0 → True) ∧ (¬ p2 ≤ 0 → (¬ p2 = 0) ∧ True))
set_option maxHeartbeats 4000000 in
set_option maxRecDepth 100000 in
theorem c_X6_baseVoltage (l : Launch) (G : gG)  (p1 : Int32) (p2 : Int32) (R : Int32) (hR : R = f_X6_baseVoltage p1 p2) (hok : ok_X6_baseVoltage p2) : CT l G yX6_baseVoltage wsX6_baseVoltage 0 0 [.int p1, .int p2] [] (some (.int R)) [] := by
  unfold f_X6_baseVoltage at hR
  unfold ok_X6_baseVoltage at hok
  refine CT.of (cc := cX6_baseVoltage) (maxL := 2) (ret := (some .int)) (plainFor_of_name (by decide +kernel)) rfl rfl (Nat.le_of_ble_eq_true rfl) ?_
  intro p e s m below meth c A ls hx hb hml hr hts hown hlocks hK hP hD hA hS hl
  have hown : s.vm.findClass RX6 = some m.cls := hown
  have hl : lv_has ls 2 [(0, .int p1), (1, .int p2)] := hl
  refine lv_iload_n hx hb dX6_baseVoltage_0 rfl (lv_at hl 1 rfl) ?_
  refine lv_if_le (tgt := 18) hx hb dX6_baseVoltage_1 (by decide) (fun c1 => ?_) (fun c1 => ?_)
  · rw [if_pos c1] at hR
    have hok := hok.1 c1
    refine lv_sipush (v := 3000) hx hb dX6_baseVoltage_18 (by decide) ?_
    subst hR
    exact g_ret hx hb hr hlocks hS dX6_baseVoltage_21 rfl hP
  · rw [if_neg c1] at hR
    have hok := hok.2 c1
    refine lv_sipush (v := 3000) hx hb dX6_baseVoltage_4 (by decide) ?_
    refine lv_sipush (v := 1200) hx hb dX6_baseVoltage_7 (by decide) ?_
    refine lv_iload_n hx hb dX6_baseVoltage_10 rfl (lv_at hl 0 rfl) ?_
    refine lv_imul hx hb dX6_baseVoltage_11 ?_
    refine lv_iload_n hx hb dX6_baseVoltage_12 rfl (lv_at hl 1 rfl) ?_
    obtain ⟨k2, hok⟩ := hok
    refine lv_idiv hx hb dX6_baseVoltage_13 k2 ?_
    refine lv_iadd hx hb dX6_baseVoltage_14 ?_
    refine lv_goto (tgt := 21) hx hb dX6_baseVoltage_15 (by decide) ?_
    subst hR
    exact g_ret hx hb hr hlocks hS dX6_baseVoltage_21 rfl hP
def fl_X0_loseTo_15 (p1 : Int32) (p3 : Int32) (v5 : Int32) : Nat → Int32 → (Nat → Nat → Int32) → (Nat → Nat → Int32)
  | 0, _, _ => (fun _ _ => 0)
  | n + 1, x15_5, w15_0 => (if ((w15_0 0) 0) ≤ x15_5 then w15_0 else (gL (f_X6_baseVoltage ((w15_0 1) ((x15_5).toNatClampNeg)) p3) (fun (R15 : Int32) => (if R15 ≤ v5 then (gL ((x15_5 + 1)) (fun (v18 : Int32) => (fl_X0_loseTo_15 p1 p3 v5 n v18 w15_0))) else (gL ((gmin p1 ((w15_0 1) ((x15_5).toNatClampNeg)))) (fun (v20 : Int32) => (gL (upd (w15_0 1) ((x15_5).toNatClampNeg) (((w15_0 1) ((x15_5).toNatClampNeg)) - v20)) (fun (z22 : (Nat → Int32)) => (gL (upd (w15_0 6) ((x15_5).toNatClampNeg) (((w15_0 6) ((x15_5).toNatClampNeg)) + v20)) (fun (z25 : (Nat → Int32)) => (gL ((x15_5 + 1)) (fun (v27 : Int32) => (fl_X0_loseTo_15 p1 p3 v5 n v27 (sF (sF w15_0 1 z22) 6 z25))))))))))))))
def okl_X0_loseTo_15 (p1 : Int32) (p3 : Int32) (v5 : Int32) : Nat → Int32 → (Nat → Nat → Int32) → Prop
  | 0, _, _ => False
  | n + 1, x15_5, w15_0 => ((((w15_0 0) 0) ≤ x15_5 → True) ∧ (¬ ((w15_0 0) 0) ≤ x15_5 → (vp_in x15_5 6) ∧ (ok_X6_baseVoltage p3) ∧ (gL (f_X6_baseVoltage ((w15_0 1) ((x15_5).toNatClampNeg)) p3) (fun (R15 : Int32) => ((R15 ≤ v5 → (gL ((x15_5 + 1)) (fun (v18 : Int32) => (okl_X0_loseTo_15 p1 p3 v5 n v18 w15_0)))) ∧ (¬ R15 ≤ v5 → (vp_in x15_5 6) ∧ (gL ((gmin p1 ((w15_0 1) ((x15_5).toNatClampNeg)))) (fun (v20 : Int32) => (vp_in x15_5 6) ∧ (vp_in x15_5 6) ∧ (gL (upd (w15_0 1) ((x15_5).toNatClampNeg) (((w15_0 1) ((x15_5).toNatClampNeg)) - v20)) (fun (z22 : (Nat → Int32)) => (vp_in x15_5 6) ∧ (vp_in x15_5 6) ∧ (gL (upd (w15_0 6) ((x15_5).toNatClampNeg) (((w15_0 6) ((x15_5).toNatClampNeg)) + v20)) (fun (z25 : (Nat → Int32)) => (gL ((x15_5 + 1)) (fun (v27 : Int32) => (okl_X0_loseTo_15 p1 p3 v5 n v27 (sF (sF w15_0 1 z22) 6 z25))))))))))))))))
def f_X0_loseTo (b : (Nat → Nat → Int32)) (p1 : Int32) (p2 : Int32) (p3 : Int32) : (Nat → Nat → Int32) := (gL (f_X0_leastCharge b) (fun (R1 : Int32) => (gL (f_X6_baseVoltage R1 p3) (fun (R3 : Int32) => (gL ((R3 + p2)) (fun (v5 : Int32) => (fl_X0_loseTo_15 p1 p3 v5 7 0 b)))))))
def ok_X0_loseTo (b : (Nat → Nat → Int32)) (p1 : Int32) (p2 : Int32) (p3 : Int32) : Prop := (ok_X0_leastCharge b) ∧ (gL (f_X0_leastCharge b) (fun (R1 : Int32) => (ok_X6_baseVoltage p3) ∧ (gL (f_X6_baseVoltage R1 p3) (fun (R3 : Int32) => (gL ((R3 + p2)) (fun (v5 : Int32) => (okl_X0_loseTo_15 p1 p3 v5 7 0 b)))))))
set_option maxHeartbeats 4000000 in
set_option maxRecDepth 100000 in
theorem c_X0_loseTo (l : Launch) (G : gG) (a : Nat → Nat) (b : (Nat → Nat → Int32)) (p1 : Int32) (p2 : Int32) (p3 : Int32) (R : (Nat → Nat → Int32)) (hR : R = f_X0_loseTo b p1 p2 p3) (hok : ok_X0_loseTo b p1 p2 p3) : CT l G yX0_loseTo wsX0_loseTo 2 35 [.ref (a 0), .int p1, .int p2, .int p3] [BW G a b] none [BW G a R] := by
  unfold f_X0_loseTo at hR
  unfold ok_X0_loseTo at hok
  refine CT.of (cc := cX0_loseTo) (maxL := 7) (ret := none) (plainFor_of_name (by decide +kernel)) rfl rfl (Nat.le_of_ble_eq_true rfl) ?_
  intro p e s m below meth c A ls hx hb hml hr hts hown hlocks hK hP hD hA hS hl
  have hown : s.vm.findClass RX0 = some m.cls := hown
  have hl : lv_has ls 7 [(0, .ref (a 0)), (1, .int p1), (2, .int p2), (3, .int p3)] := hl
  have hinX0 : ∀ w ∈ wsX00, w ∈ wsX0_loseTo := fun w h => List.mem_cons_of_mem _ (List.mem_append_right _ h)
  refine lv_aload_n hx hb dX0_loseTo_0 rfl (lv_at hl 0 rfl) ?_
  obtain ⟨k2, hok⟩ := hok
  obtain ⟨R1, eR1, hR, hok⟩ := g_let2 hR hok
  refine g_callV (c_X0_leastCharge l G a b R1 eR1 k2) hx hb hml hown hts hK hP hD hS hA gX0_loseTo_X0_leastCharge rfl (n := 0) (by decide +kernel) rfl ⟨Nat.le_of_ble_eq_true rfl, Nat.le_of_ble_eq_true rfl⟩ [0] rfl (by decide) 0 rfl (ci := 0) rfl hl.1 rfl (Nat.le_of_ble_eq_true rfl) ⟨Nat.zero_le _, Nat.zero_le _⟩ dX0_loseTo_1 (fun H locs hP hD hS => ?_)
  have hP : va_P G.1 vwCl (List.flatten [BW G a b]) H := hP
  have hD : va_D A (List.flatten [BW G a b]) := hD
  refine lv_iload_n hx hb dX0_loseTo_4 rfl (lv_at hl 3 rfl) ?_
  obtain ⟨k4, hok⟩ := hok
  obtain ⟨R3, eR3, hR, hok⟩ := g_let2 hR hok
  refine g_callN (host := RX6) (c_X6_baseVoltage l G R1 p3 R3 eR3 k4) hx hb hml hown hts hK hP hD hS hA gX0_loseTo_X6_baseVoltage_n56 rfl (n := 2) (by decide +kernel) (List.mem_of_getElem? (i := 14) rfl) (List.mem_of_getElem? (i := 13) rfl) (by decide +kernel) rfl ⟨Nat.le_of_ble_eq_true rfl, Nat.le_of_ble_eq_true rfl⟩ [] rfl (by decide) hl.1 rfl (Nat.le_of_ble_eq_true rfl) ⟨Nat.zero_le _, Nat.zero_le _⟩ dX0_loseTo_5 (fun H locs hP hD hS => ?_)
  have hP : va_P G.1 vwCl (List.flatten [BW G a b]) H := hP
  have hD : va_D A (List.flatten [BW G a b]) := hD
  refine lv_iload_n hx hb dX0_loseTo_8 rfl (lv_at hl 2 rfl) ?_
  refine lv_iadd hx hb dX0_loseTo_9 ?_
  obtain ⟨v5, ev5, hR, hok⟩ := g_let2 hR hok
  refine g_topE ev5.symm ?_
  refine lv_istore (lv' := [(4, .int v5), (0, .ref (a 0)), (1, .int p1), (2, .int p2), (3, .int p3)]) hx hb dX0_loseTo_10 hl (by decide) rfl (fun ls hl => ?_)
  refine lv_iconst (v := 0) hx hb dX0_loseTo_12 (by decide) ?_
  refine lv_istore (lv' := [(5, .int 0), (4, .int v5), (0, .ref (a 0)), (1, .int p1), (2, .int p2), (3, .int p3)]) hx hb dX0_loseTo_13 hl (by decide) rfl (fun ls hl => ?_)
  have lp15 : ∀ (n : Nat) (x15_5 : Int32) (w15_0 : (Nat → Nat → Int32)) (H : Heap) (locs : List Loc) (ls : Array Slot), R = fl_X0_loseTo_15 p1 p3 v5 n x15_5 w15_0 → okl_X0_loseTo_15 p1 p3 v5 n x15_5 w15_0 → va_P G.1 vwCl (List.flatten [BW G a w15_0]) H → va_D A (List.flatten [BW G a w15_0]) → va_S A s.heap H locs → lv_has ls 7 [(0, .ref (a 0)), (1, .int p1), (2, .int p2), (3, .int p3), (4, .int v5), (5, .int x15_5)] → W p l e { frames := 2, cells := 0, slots := 0, locals := 35 } s m (List.toArray [.ref (a 0), .int p1, .int p2, .int p3]) below meth c H locs 0 0 (gQ G below (List.toArray [.ref (a 0), .int p1, .int p2, .int p3]) s none [BW G a R] A) (F0 m 15 ls []) := by
    intro n
    induction n with
    | zero =>
      intro x15_5 w15_0 H locs ls hR hok hP hD hS hl
      rw [okl_X0_loseTo_15] at hok
      exact hok.elim
    | succ n ih =>
      intro x15_5 w15_0 H locs ls hR hok hP hD hS hl
      rw [fl_X0_loseTo_15] at hR
      rw [okl_X0_loseTo_15] at hok
      refine lv_iload hx hb dX0_loseTo_15 (lv_at hl 5 rfl) ?_
      refine lv_aload_n hx hb dX0_loseTo_17 rfl (lv_at hl 0 rfl) ?_
      refine g_get (ci := 0) (v := .int ((w15_0 0) 0)) (C := RX0) (T := TX0) (N := 8) hx hb hts hinX0 hown hK hP 0 rfl rfl 0 (by decide) (hts (.fieldLink RX0 9 "ChargeStages$Battery" "cells" "I") (List.mem_of_getElem? (i := 1) rfl)) rfl dX0_loseTo_18 ?_
      refine lv_icmp_ge (tgt := 83) hx hb dX0_loseTo_21 (by decide) (fun c13 => ?_) (fun c13 => ?_)
      · rw [if_pos c13] at hR
        have hok := hok.1 c13
        subst hR
        exact g_retv hx hb hr hlocks hS dX0_loseTo_83 rfl hP
      · rw [if_neg c13] at hR
        have hok := hok.2 c13
        refine lv_aload_n hx hb dX0_loseTo_24 rfl (lv_at hl 0 rfl) ?_
        refine g_get (ci := 0) (v := .ref (a 1)) (C := RX0) (T := TX0) (N := 8) hx hb hts hinX0 hown hK hP 0 rfl rfl 1 (by decide) (hts (.fieldLink RX0 15 "ChargeStages$Battery" "charge" "[I") (List.mem_of_getElem? (i := 2) rfl)) rfl dX0_loseTo_25 ?_
        refine lv_iload hx hb dX0_loseTo_28 (lv_at hl 5 rfl) ?_
        obtain ⟨k14, hok⟩ := hok
        refine g_ld (n := 6) (f := (w15_0 1)) (v := (w15_0 1) ((x15_5).toNatClampNeg)) (k := ((x15_5).toNatClampNeg)) hx hb hK hP 1 rfl rfl k14 rfl dX0_loseTo_30 ?_
        refine lv_iload_n hx hb dX0_loseTo_31 rfl (lv_at hl 3 rfl) ?_
        obtain ⟨k16, hok⟩ := hok
        obtain ⟨R15, eR15, hR, hok⟩ := g_let2 hR hok
        refine g_callN (host := RX6) (c_X6_baseVoltage l G ((w15_0 1) ((x15_5).toNatClampNeg)) p3 R15 eR15 k16) hx hb hml hown hts hK hP hD hS hA gX0_loseTo_X6_baseVoltage_n56 rfl (n := 2) (by decide +kernel) (List.mem_of_getElem? (i := 14) rfl) (List.mem_of_getElem? (i := 13) rfl) (by decide +kernel) rfl ⟨Nat.le_of_ble_eq_true rfl, Nat.le_of_ble_eq_true rfl⟩ [] rfl (by decide) hl.1 rfl (Nat.le_of_ble_eq_true rfl) ⟨Nat.zero_le _, Nat.zero_le _⟩ dX0_loseTo_32 (fun H locs hP hD hS => ?_)
        have hP : va_P G.1 vwCl (List.flatten [BW G a w15_0]) H := hP
        have hD : va_D A (List.flatten [BW G a w15_0]) := hD
        refine lv_iload hx hb dX0_loseTo_35 (lv_at hl 4 rfl) ?_
        refine lv_icmp_le (tgt := 77) hx hb dX0_loseTo_37 (by decide) (fun c17 => ?_) (fun c17 => ?_)
        · rw [if_pos c17] at hR
          have hok := hok.1 c17
          obtain ⟨v18, ev18, hR, hok⟩ := g_let2 hR hok
          refine lv_iinc (v := v18) (lv' := [(5, .int v18), (0, .ref (a 0)), (1, .int p1), (2, .int p2), (3, .int p3), (4, .int v5)]) hx hb dX0_loseTo_77 hl (k := 5) rfl (by subst ev18; rfl) (by decide) rfl (fun ls hl => ?_)
          refine lv_goto (tgt := 15) hx hb dX0_loseTo_80 (by decide) ?_
          exact ih v18 w15_0 _ _ _ hR hok hP hD hS (lv_sub hl [1, 2, 3, 4, 5, 0] rfl)
        · rw [if_neg c17] at hR
          have hok := hok.2 c17
          refine lv_iload_n hx hb dX0_loseTo_40 rfl (lv_at hl 1 rfl) ?_
          refine lv_aload_n hx hb dX0_loseTo_41 rfl (lv_at hl 0 rfl) ?_
          refine g_get (ci := 0) (v := .ref (a 1)) (C := RX0) (T := TX0) (N := 8) hx hb hts hinX0 hown hK hP 0 rfl rfl 1 (by decide) (hts (.fieldLink RX0 15 "ChargeStages$Battery" "charge" "[I") (List.mem_of_getElem? (i := 2) rfl)) rfl dX0_loseTo_42 ?_
          refine lv_iload hx hb dX0_loseTo_45 (lv_at hl 5 rfl) ?_
          obtain ⟨k19, hok⟩ := hok
          refine g_ld (n := 6) (f := (w15_0 1)) (v := (w15_0 1) ((x15_5).toNatClampNeg)) (k := ((x15_5).toNatClampNeg)) hx hb hK hP 1 rfl rfl k19 rfl dX0_loseTo_47 ?_
          refine va_mmin hx hb (hml.trans hl.1.symm) hown (hts (.methodLink RX0 37 Lib.Math.min.name) (List.mem_of_getElem? (i := 3) rfl)) (hts (.static Lib.Math.min.name) (List.mem_of_getElem? (i := 4) rfl)) (hts (.initialized "java/lang/Math") (List.mem_of_getElem? (i := 5) rfl)) (hts (.code Lib.Math.min.name Lib.Math.min.code 2 (some .int)) (List.mem_of_getElem? (i := 6) rfl)) (Nat.le_of_ble_eq_true rfl) (Nat.le_of_ble_eq_true rfl) (Nat.zero_le _) (Nat.zero_le _) dX0_loseTo_48 ?_
          refine g_topE (y := (gmin p1 ((w15_0 1) ((x15_5).toNatClampNeg)))) rfl ?_
          obtain ⟨v20, ev20, hR, hok⟩ := g_let2 hR hok
          refine g_topE ev20.symm ?_
          refine lv_istore (lv' := [(6, .int v20), (0, .ref (a 0)), (1, .int p1), (2, .int p2), (3, .int p3), (4, .int v5), (5, .int x15_5)]) hx hb dX0_loseTo_51 hl (by decide) rfl (fun ls hl => ?_)
          refine lv_aload_n hx hb dX0_loseTo_53 rfl (lv_at hl 1 rfl) ?_
          refine g_get (ci := 0) (v := .ref (a 1)) (C := RX0) (T := TX0) (N := 8) hx hb hts hinX0 hown hK hP 0 rfl rfl 1 (by decide) (hts (.fieldLink RX0 15 "ChargeStages$Battery" "charge" "[I") (List.mem_of_getElem? (i := 2) rfl)) rfl dX0_loseTo_54 ?_
          refine lv_iload hx hb dX0_loseTo_57 (lv_at hl 6 rfl) ?_
          refine lv_dup2_11 hx hb dX0_loseTo_59 rfl rfl ?_
          obtain ⟨k21, hok⟩ := hok
          refine g_ld (n := 6) (f := (w15_0 1)) (v := (w15_0 1) ((x15_5).toNatClampNeg)) (k := ((x15_5).toNatClampNeg)) hx hb hK hP 1 rfl rfl k21 rfl dX0_loseTo_60 ?_
          refine lv_iload hx hb dX0_loseTo_61 (lv_at hl 0 rfl) ?_
          refine lv_isub hx hb dX0_loseTo_63 ?_
          obtain ⟨k23, hok⟩ := hok
          obtain ⟨z22, ez22, hR, hok⟩ := g_let2 hR hok
          refine g_st (n := 6) (f := (w15_0 1)) (k := ((x15_5).toNatClampNeg)) (B2 := [BW G a (sF w15_0 1 z22)]) hx hb hK hP hD hS 1 rfl rfl k23 (by subst ez22; rfl) dX0_loseTo_64 (fun H locs hP hD hS => ?_)
          refine lv_aload_n hx hb dX0_loseTo_65 rfl (lv_at hl 1 rfl) ?_
          refine g_get (ci := 0) (v := .ref (a 6)) (C := RX0) (T := TX0) (N := 8) hx hb hts hinX0 hown hK hP 0 rfl rfl 6 (by decide) (hts (.fieldLink RX0 31 "ChargeStages$Battery" "bled" "[I") (List.mem_of_getElem? (i := 7) rfl)) rfl dX0_loseTo_66 ?_
          refine lv_iload hx hb dX0_loseTo_69 (lv_at hl 6 rfl) ?_
          refine lv_dup2_11 hx hb dX0_loseTo_71 rfl rfl ?_
          obtain ⟨k24, hok⟩ := hok
          refine g_ld (n := 6) (f := (w15_0 6)) (v := (w15_0 6) ((x15_5).toNatClampNeg)) (k := ((x15_5).toNatClampNeg)) hx hb hK hP 6 rfl rfl k24 rfl dX0_loseTo_72 ?_
          refine lv_iload hx hb dX0_loseTo_73 (lv_at hl 0 rfl) ?_
          refine lv_iadd hx hb dX0_loseTo_75 ?_
          obtain ⟨k26, hok⟩ := hok
          obtain ⟨z25, ez25, hR, hok⟩ := g_let2 hR hok
          refine g_st (n := 6) (f := (w15_0 6)) (k := ((x15_5).toNatClampNeg)) (B2 := [BW G a (sF (sF w15_0 1 z22) 6 z25)]) hx hb hK hP hD hS 6 rfl rfl k26 (by subst ez25; rfl) dX0_loseTo_76 (fun H locs hP hD hS => ?_)
          obtain ⟨v27, ev27, hR, hok⟩ := g_let2 hR hok
          refine lv_iinc (v := v27) (lv' := [(5, .int v27), (6, .int v20), (0, .ref (a 0)), (1, .int p1), (2, .int p2), (3, .int p3), (4, .int v5)]) hx hb dX0_loseTo_77 hl (k := 6) rfl (by subst ev27; rfl) (by decide) rfl (fun ls hl => ?_)
          refine lv_goto (tgt := 15) hx hb dX0_loseTo_80 (by decide) ?_
          exact ih v27 (sF (sF w15_0 1 z22) 6 z25) _ _ _ hR hok hP hD hS (lv_sub hl [2, 3, 4, 5, 6, 0] rfl)
  exact lp15 7 0 b _ _ _ hR hok hP hD hS (lv_sub hl [2, 3, 4, 5, 1, 0] rfl)
def f_J9_floorMod_7cf53 (p1 : Int32) (p2 : Int32) : Int32 := (gL ((p1 - p1 / p2 * p2)) (fun (v2 : Int32) => (if 0 ≤ (p1 ^^^ p2) then v2 else (if v2 = 0 then v2 else (v2 + p2)))))
def ok_J9_floorMod_7cf53 (p2 : Int32) : Prop := (¬ p2 = 0) ∧ True
set_option maxHeartbeats 4000000 in
set_option maxRecDepth 100000 in
theorem c_J9_floorMod_7cf53 (l : Launch) (G : gG)  (p1 : Int32) (p2 : Int32) (R : Int32) (hR : R = f_J9_floorMod_7cf53 p1 p2) (hok : ok_J9_floorMod_7cf53 p2) : CT l G yJ9_floorMod_7cf53 wsJ9_floorMod_7cf53 0 0 [.int p1, .int p2] [] (some (.int R)) [] := by
  unfold f_J9_floorMod_7cf53 at hR
  unfold ok_J9_floorMod_7cf53 at hok
  refine CT.of (cc := cJ9_floorMod_7cf53) (maxL := 3) (ret := (some .int)) (by decide +kernel) rfl rfl (Nat.le_of_ble_eq_true rfl) ?_
  intro p e s m below meth c A ls hx hb hml hr hts hown hlocks hK hP hD hA hS hl
  have hown : s.vm.findClass RJ9 = some m.cls := hown
  have hl : lv_has ls 3 [(0, .int p1), (1, .int p2)] := hl
  refine lv_iload_n hx hb dJ9_floorMod_7cf53_0 rfl (lv_at hl 0 rfl) ?_
  refine lv_iload_n hx hb dJ9_floorMod_7cf53_1 rfl (lv_at hl 1 rfl) ?_
  obtain ⟨k1, hok⟩ := hok
  refine lv_irem hx hb dJ9_floorMod_7cf53_2 k1 ?_
  obtain ⟨v2, ev2, hR⟩ := g_let hR
  refine g_topE ev2.symm ?_
  refine lv_istore_n (lv' := [(2, .int v2), (0, .int p1), (1, .int p2)]) hx hb dJ9_floorMod_7cf53_3 rfl hl (by decide) rfl (fun ls hl => ?_)
  refine lv_iload_n hx hb dJ9_floorMod_7cf53_4 rfl (lv_at hl 1 rfl) ?_
  refine lv_iload_n hx hb dJ9_floorMod_7cf53_5 rfl (lv_at hl 2 rfl) ?_
  refine lv_ixor hx hb dJ9_floorMod_7cf53_6 ?_
  refine lv_if_ge (tgt := 18) hx hb dJ9_floorMod_7cf53_7 (by decide) (fun c3 => ?_) (fun c3 => ?_)
  · rw [if_pos c3] at hR
    refine lv_iload_n hx hb dJ9_floorMod_7cf53_18 rfl (lv_at hl 0 rfl) ?_
    subst hR
    exact g_ret hx hb hr hlocks hS dJ9_floorMod_7cf53_19 rfl hP
  · rw [if_neg c3] at hR
    refine lv_iload_n hx hb dJ9_floorMod_7cf53_10 rfl (lv_at hl 0 rfl) ?_
    refine lv_if_eq (tgt := 18) hx hb dJ9_floorMod_7cf53_11 (by decide) (fun c4 => ?_) (fun c4 => ?_)
    · rw [if_pos c4] at hR
      refine lv_iload_n hx hb dJ9_floorMod_7cf53_18 rfl (lv_at hl 0 rfl) ?_
      subst hR
      exact g_ret hx hb hr hlocks hS dJ9_floorMod_7cf53_19 rfl hP
    · rw [if_neg c4] at hR
      refine lv_iload_n hx hb dJ9_floorMod_7cf53_14 rfl (lv_at hl 0 rfl) ?_
      refine lv_iload_n hx hb dJ9_floorMod_7cf53_15 rfl (lv_at hl 2 rfl) ?_
      refine lv_iadd hx hb dJ9_floorMod_7cf53_16 ?_
      subst hR
      exact g_ret hx hb hr hlocks hS dJ9_floorMod_7cf53_17 rfl hP
def f_X2_add (g : (Nat → Nat → Int32)) (p1 : Int32) (p2 : Int32) (p3 : Int32) : (Nat → Nat → Int32) := (gL (upd (g 1) (((g 0) 1).toNatClampNeg) p1) (fun (z1 : (Nat → Int32)) => (gL (upd (g 2) (((g 0) 1).toNatClampNeg) p2) (fun (z3 : (Nat → Int32)) => (gL (upd (g 3) (((g 0) 1).toNatClampNeg) p3) (fun (z5 : (Nat → Int32)) => (if 10 ≤ ((g 0) 0) then (sF (sF (sF (sF g 0 (upd (g 0) 1 ((((g 0) 1) + 1) - (((g 0) 1) + 1) / 10 * 10))) 1 z1) 2 z3) 3 z5) else (sF (sF (sF (sF g 0 (upd (upd (g 0) 1 ((((g 0) 1) + 1) - (((g 0) 1) + 1) / 10 * 10)) 0 (((g 0) 0) + 1))) 1 z1) 2 z3) 3 z5))))))))
def ok_X2_add (g : (Nat → Nat → Int32)) (p1 : Int32) (p2 : Int32) : Prop := (vp_in ((g 0) 1) 10) ∧ (gL (upd (g 1) (((g 0) 1).toNatClampNeg) p1) (fun (z1 : (Nat → Int32)) => (vp_in ((g 0) 1) 10) ∧ (gL (upd (g 2) (((g 0) 1).toNatClampNeg) p2) (fun (z3 : (Nat → Int32)) => (vp_in ((g 0) 1) 10) ∧ True))))
set_option maxHeartbeats 4000000 in
set_option maxRecDepth 100000 in
theorem c_X2_add (l : Launch) (G : gG) (a : Nat → Nat) (g : (Nat → Nat → Int32)) (p1 : Int32) (p2 : Int32) (p3 : Int32) (R : (Nat → Nat → Int32)) (hR : R = f_X2_add g p1 p2 p3) (hok : ok_X2_add g p1 p2) : CT l G yX2_add wsX2_add 0 0 [.ref (a 0), .int p1, .int p2, .int p3] [LW G a g] none [LW G a R] := by
  unfold f_X2_add at hR
  unfold ok_X2_add at hok
  refine CT.of (cc := cX2_add) (maxL := 4) (ret := none) (plainFor_of_name (by decide +kernel)) rfl rfl (Nat.le_of_ble_eq_true rfl) ?_
  intro p e s m below meth c A ls hx hb hml hr hts hown hlocks hK hP hD hA hS hl
  have hown : s.vm.findClass RX2 = some m.cls := hown
  have hl : lv_has ls 4 [(0, .ref (a 0)), (1, .int p1), (2, .int p2), (3, .int p3)] := hl
  have hinX2 : ∀ w ∈ wsX20, w ∈ wsX2_add := fun w h => List.mem_cons_of_mem _ (List.mem_append_right _ h)
  refine lv_aload_n hx hb dX2_add_0 rfl (lv_at hl 0 rfl) ?_
  refine g_get (ci := 2) (v := .ref (a 1)) (C := RX2) (T := TX2) (N := 5) hx hb hts hinX2 hown hK hP 0 rfl rfl 2 (by decide) (hts (.fieldLink RX2 18 "ChargeStages$Log" "kind" "[I") (List.mem_of_getElem? (i := 1) rfl)) rfl dX2_add_1 ?_
  refine lv_aload_n hx hb dX2_add_4 rfl (lv_at hl 0 rfl) ?_
  refine g_get (ci := 2) (v := .int ((g 0) 1)) (C := RX2) (T := TX2) (N := 5) hx hb hts hinX2 hown hK hP 0 rfl rfl 1 (by decide) (hts (.fieldLink RX2 15 "ChargeStages$Log" "next" "I") (List.mem_of_getElem? (i := 2) rfl)) rfl dX2_add_5 ?_
  refine lv_iload_n hx hb dX2_add_8 rfl (lv_at hl 1 rfl) ?_
  obtain ⟨k2, hok⟩ := hok
  obtain ⟨z1, ez1, hR, hok⟩ := g_let2 hR hok
  refine g_st (n := 10) (f := (g 1)) (k := (((g 0) 1).toNatClampNeg)) (B2 := [LW G a (sF g 1 z1)]) hx hb hK hP hD hS 1 rfl rfl k2 (by subst ez1; rfl) dX2_add_9 (fun H locs hP hD hS => ?_)
  refine lv_aload_n hx hb dX2_add_10 rfl (lv_at hl 0 rfl) ?_
  refine g_get (ci := 2) (v := .ref (a 2)) (C := RX2) (T := TX2) (N := 5) hx hb hts hinX2 hown hK hP 0 rfl rfl 3 (by decide) (hts (.fieldLink RX2 22 "ChargeStages$Log" "tick" "[I") (List.mem_of_getElem? (i := 3) rfl)) rfl dX2_add_11 ?_
  refine lv_aload_n hx hb dX2_add_14 rfl (lv_at hl 0 rfl) ?_
  refine g_get (ci := 2) (v := .int ((g 0) 1)) (C := RX2) (T := TX2) (N := 5) hx hb hts hinX2 hown hK hP 0 rfl rfl 1 (by decide) (hts (.fieldLink RX2 15 "ChargeStages$Log" "next" "I") (List.mem_of_getElem? (i := 2) rfl)) rfl dX2_add_15 ?_
  refine lv_iload_n hx hb dX2_add_18 rfl (lv_at hl 2 rfl) ?_
  obtain ⟨k4, hok⟩ := hok
  obtain ⟨z3, ez3, hR, hok⟩ := g_let2 hR hok
  refine g_st (n := 10) (f := (g 2)) (k := (((g 0) 1).toNatClampNeg)) (B2 := [LW G a (sF (sF g 1 z1) 2 z3)]) hx hb hK hP hD hS 2 rfl rfl k4 (by subst ez3; rfl) dX2_add_19 (fun H locs hP hD hS => ?_)
  refine lv_aload_n hx hb dX2_add_20 rfl (lv_at hl 0 rfl) ?_
  refine g_get (ci := 2) (v := .ref (a 3)) (C := RX2) (T := TX2) (N := 5) hx hb hts hinX2 hown hK hP 0 rfl rfl 4 (by decide) (hts (.fieldLink RX2 25 "ChargeStages$Log" "stage" "[I") (List.mem_of_getElem? (i := 4) rfl)) rfl dX2_add_21 ?_
  refine lv_aload_n hx hb dX2_add_24 rfl (lv_at hl 0 rfl) ?_
  refine g_get (ci := 2) (v := .int ((g 0) 1)) (C := RX2) (T := TX2) (N := 5) hx hb hts hinX2 hown hK hP 0 rfl rfl 1 (by decide) (hts (.fieldLink RX2 15 "ChargeStages$Log" "next" "I") (List.mem_of_getElem? (i := 2) rfl)) rfl dX2_add_25 ?_
  refine lv_iload_n hx hb dX2_add_28 rfl (lv_at hl 3 rfl) ?_
  obtain ⟨k6, hok⟩ := hok
  obtain ⟨z5, ez5, hR⟩ := g_let hR
  refine g_st (n := 10) (f := (g 3)) (k := (((g 0) 1).toNatClampNeg)) (B2 := [LW G a (sF (sF (sF g 1 z1) 2 z3) 3 z5)]) hx hb hK hP hD hS 3 rfl rfl k6 (by subst ez5; rfl) dX2_add_29 (fun H locs hP hD hS => ?_)
  refine lv_aload_n hx hb dX2_add_30 rfl (lv_at hl 0 rfl) ?_
  refine lv_aload_n hx hb dX2_add_31 rfl (lv_at hl 0 rfl) ?_
  refine g_get (ci := 2) (v := .int ((g 0) 1)) (C := RX2) (T := TX2) (N := 5) hx hb hts hinX2 hown hK hP 0 rfl rfl 1 (by decide) (hts (.fieldLink RX2 15 "ChargeStages$Log" "next" "I") (List.mem_of_getElem? (i := 2) rfl)) rfl dX2_add_32 ?_
  refine lv_iconst (v := 1) hx hb dX2_add_35 (by decide) ?_
  refine lv_iadd hx hb dX2_add_36 ?_
  refine lv_bipush (v := 10) hx hb dX2_add_37 (by decide) ?_
  refine lv_irem hx hb dX2_add_39 (by decide) ?_
  refine g_put (ci := 2) (v := .int ((((g 0) 1) + 1) - (((g 0) 1) + 1) / 10 * 10)) (ty := .int) (C := RX2) (T := TX2) (N := 5) (B2 := [LW G a (sF (sF (sF (sF g 0 (upd (g 0) 1 ((((g 0) 1) + 1) - (((g 0) 1) + 1) / 10 * 10))) 1 z1) 2 z3) 3 z5)]) hx hb hts hinX2 tyX2 tyX2_ok nmX2 hown hK hP hD hS 0 rfl rfl 1 (by decide) (hts (.fieldLink RX2 15 "ChargeStages$Log" "next" "I") (List.mem_of_getElem? (i := 2) rfl)) rfl (by decide +kernel) rfl rfl (Nat.le_of_ble_eq_true rfl) rfl dX2_add_40 (fun H locs hP hD hS => ?_)
  refine lv_aload_n hx hb dX2_add_43 rfl (lv_at hl 0 rfl) ?_
  refine g_get (ci := 2) (v := .int ((g 0) 0)) (C := RX2) (T := TX2) (N := 5) hx hb hts hinX2 hown hK hP 0 rfl rfl 0 (by decide) (hts (.fieldLink RX2 9 "ChargeStages$Log" "events" "I") (List.mem_of_getElem? (i := 5) rfl)) rfl dX2_add_44 ?_
  refine lv_bipush (v := 10) hx hb dX2_add_47 (by decide) ?_
  refine lv_icmp_ge (tgt := 62) hx hb dX2_add_49 (by decide) (fun c7 => ?_) (fun c7 => ?_)
  · rw [if_pos c7] at hR
    subst hR
    exact g_retv hx hb hr hlocks hS dX2_add_62 rfl hP
  · rw [if_neg c7] at hR
    refine lv_aload_n hx hb dX2_add_52 rfl (lv_at hl 0 rfl) ?_
    refine lv_dup hx hb dX2_add_53 rfl ?_
    refine g_get (ci := 2) (v := .int ((g 0) 0)) (C := RX2) (T := TX2) (N := 5) hx hb hts hinX2 hown hK hP 0 rfl rfl 0 (by decide) (hts (.fieldLink RX2 9 "ChargeStages$Log" "events" "I") (List.mem_of_getElem? (i := 5) rfl)) rfl dX2_add_54 ?_
    refine lv_iconst (v := 1) hx hb dX2_add_57 (by decide) ?_
    refine lv_iadd hx hb dX2_add_58 ?_
    refine g_put (ci := 2) (v := .int (((g 0) 0) + 1)) (ty := .int) (C := RX2) (T := TX2) (N := 5) (B2 := [LW G a (sF (sF (sF (sF g 0 (upd (upd (g 0) 1 ((((g 0) 1) + 1) - (((g 0) 1) + 1) / 10 * 10)) 0 (((g 0) 0) + 1))) 1 z1) 2 z3) 3 z5)]) hx hb hts hinX2 tyX2 tyX2_ok nmX2 hown hK hP hD hS 0 rfl rfl 0 (by decide) (hts (.fieldLink RX2 9 "ChargeStages$Log" "events" "I") (List.mem_of_getElem? (i := 5) rfl)) rfl (by decide +kernel) rfl rfl (Nat.le_of_ble_eq_true rfl) rfl dX2_add_59 (fun H locs hP hD hS => ?_)
    subst hR
    exact g_retv hx hb hr hlocks hS dX2_add_62 rfl hP
def f_X2_placeOf (g : (Nat → Nat → Int32)) (p1 : Int32) : Int32 := (gL (f_J9_floorMod_7cf53 ((((g 0) 1) - 1) - p1) 10) (fun (R1 : Int32) => R1))
def ok_X2_placeOf  : Prop := (ok_J9_floorMod_7cf53 10) ∧ True
set_option maxHeartbeats 4000000 in
set_option maxRecDepth 100000 in
theorem c_X2_placeOf (l : Launch) (G : gG) (a : Nat → Nat) (g : (Nat → Nat → Int32)) (p1 : Int32) (R : Int32) (hR : R = f_X2_placeOf g p1) (hok : ok_X2_placeOf ) : CT l G yX2_placeOf wsX2_placeOf 1 22 [.ref (a 0), .int p1] [LW G a g] (some (.int R)) [LW G a g] := by
  unfold f_X2_placeOf at hR
  unfold ok_X2_placeOf at hok
  refine CT.of (cc := cX2_placeOf) (maxL := 2) (ret := (some .int)) (plainFor_of_name (by decide +kernel)) rfl rfl (Nat.le_of_ble_eq_true rfl) ?_
  intro p e s m below meth c A ls hx hb hml hr hts hown hlocks hK hP hD hA hS hl
  have hown : s.vm.findClass RX2 = some m.cls := hown
  have hl : lv_has ls 2 [(0, .ref (a 0)), (1, .int p1)] := hl
  have hinX2 : ∀ w ∈ wsX20, w ∈ wsX2_placeOf := fun w h => List.mem_cons_of_mem _ (List.mem_append_right _ h)
  refine lv_aload_n hx hb dX2_placeOf_0 rfl (lv_at hl 0 rfl) ?_
  refine g_get (ci := 2) (v := .int ((g 0) 1)) (C := RX2) (T := TX2) (N := 5) hx hb hts hinX2 hown hK hP 0 rfl rfl 1 (by decide) (hts (.fieldLink RX2 15 "ChargeStages$Log" "next" "I") (List.mem_of_getElem? (i := 1) rfl)) rfl dX2_placeOf_1 ?_
  refine lv_iconst (v := 1) hx hb dX2_placeOf_4 (by decide) ?_
  refine lv_isub hx hb dX2_placeOf_5 ?_
  refine lv_iload_n hx hb dX2_placeOf_6 rfl (lv_at hl 1 rfl) ?_
  refine lv_isub hx hb dX2_placeOf_7 ?_
  refine lv_bipush (v := 10) hx hb dX2_placeOf_8 (by decide) ?_
  obtain ⟨k2, hok⟩ := hok
  obtain ⟨R1, eR1, hR⟩ := g_let hR
  refine g_callS (c_J9_floorMod_7cf53 l G ((((g 0) 1) - 1) - p1) 10 R1 eR1 k2) hx hb hml hown hts hK hP hD hS hA gX2_placeOf_J9_floorMod_7cf53 rfl (n := 2) (by decide +kernel) rfl ⟨Nat.le_of_ble_eq_true rfl, Nat.le_of_ble_eq_true rfl⟩ [] rfl (by decide) hl.1 rfl (Nat.le_of_ble_eq_true rfl) ⟨Nat.zero_le _, Nat.zero_le _⟩ dX2_placeOf_10 (fun H locs hP hD hS => ?_)
  have hP : va_P G.1 vwCl (List.flatten [LW G a g]) H := hP
  have hD : va_D A (List.flatten [LW G a g]) := hD
  subst hR
  exact g_ret hx hb hr hlocks hS dX2_placeOf_13 rfl hP
set_option maxHeartbeats 4000000 in
set_option maxRecDepth 100000 in
theorem c_X2_copyFrom (l : Launch) (G : gG) (a : Nat → Nat) (h : Nat → Nat) (g : (Nat → Nat → Int32)) (g2 : (Nat → Nat → Int32)) : CT l G yX2_copyFrom wsX2_copyFrom 1 18 [.ref (a 0), .ref (h 0)] [LW G a g, LW G h g2] none [LW G a g2, LW G h g2] := by
  refine CT.of (cc := cX2_copyFrom) (maxL := 2) (ret := none) (plainFor_of_name (by decide +kernel)) rfl rfl (Nat.le_of_ble_eq_true rfl) ?_
  intro p e s m below meth c A ls hx hb hml hr hts hown hlocks hK hP hD hA hS hl
  have hown : s.vm.findClass RX2 = some m.cls := hown
  have hl : lv_has ls 2 [(0, .ref (a 0)), (1, .ref (h 0))] := hl
  have hinX2 : ∀ w ∈ wsX20, w ∈ wsX2_copyFrom := fun w h => List.mem_cons_of_mem _ (List.mem_append_right _ h)
  refine lv_aload_n hx hb dX2_copyFrom_0 rfl (lv_at hl 0 rfl) ?_
  refine lv_aload_n hx hb dX2_copyFrom_1 rfl (lv_at hl 1 rfl) ?_
  refine g_get (ci := 2) (v := .int ((g2 0) 0)) (C := RX2) (T := TX2) (N := 5) hx hb hts hinX2 hown hK hP 4 rfl rfl 0 (by decide) (hts (.fieldLink RX2 9 "ChargeStages$Log" "events" "I") (List.mem_of_getElem? (i := 1) rfl)) rfl dX2_copyFrom_2 ?_
  refine g_put (ci := 2) (v := .int ((g2 0) 0)) (ty := .int) (C := RX2) (T := TX2) (N := 5) (B2 := [LW G a (sF g 0 (upd (g 0) 0 ((g2 0) 0))), LW G h g2]) hx hb hts hinX2 tyX2 tyX2_ok nmX2 hown hK hP hD hS 0 rfl rfl 0 (by decide) (hts (.fieldLink RX2 9 "ChargeStages$Log" "events" "I") (List.mem_of_getElem? (i := 1) rfl)) rfl (by decide +kernel) rfl rfl (Nat.le_of_ble_eq_true rfl) rfl dX2_copyFrom_5 (fun H locs hP hD hS => ?_)
  refine lv_aload_n hx hb dX2_copyFrom_8 rfl (lv_at hl 0 rfl) ?_
  refine lv_aload_n hx hb dX2_copyFrom_9 rfl (lv_at hl 1 rfl) ?_
  refine g_get (ci := 2) (v := .int ((g2 0) 1)) (C := RX2) (T := TX2) (N := 5) hx hb hts hinX2 hown hK hP 4 rfl rfl 1 (by decide) (hts (.fieldLink RX2 15 "ChargeStages$Log" "next" "I") (List.mem_of_getElem? (i := 2) rfl)) rfl dX2_copyFrom_10 ?_
  refine g_put (ci := 2) (v := .int ((g2 0) 1)) (ty := .int) (C := RX2) (T := TX2) (N := 5) (B2 := [LW G a (sF g 0 (upd (upd (g 0) 0 ((g2 0) 0)) 1 ((g2 0) 1))), LW G h g2]) hx hb hts hinX2 tyX2 tyX2_ok nmX2 hown hK hP hD hS 0 rfl rfl 1 (by decide) (hts (.fieldLink RX2 15 "ChargeStages$Log" "next" "I") (List.mem_of_getElem? (i := 2) rfl)) rfl (by decide +kernel) rfl rfl (Nat.le_of_ble_eq_true rfl) rfl dX2_copyFrom_13 (fun H locs hP hD hS => ?_)
  refine lv_aload_n hx hb dX2_copyFrom_16 rfl (lv_at hl 1 rfl) ?_
  refine g_get (ci := 2) (v := .ref (h 1)) (C := RX2) (T := TX2) (N := 5) hx hb hts hinX2 hown hK hP 4 rfl rfl 2 (by decide) (hts (.fieldLink RX2 18 "ChargeStages$Log" "kind" "[I") (List.mem_of_getElem? (i := 3) rfl)) rfl dX2_copyFrom_17 ?_
  refine lv_iconst (v := 0) hx hb dX2_copyFrom_20 (by decide) ?_
  refine lv_aload_n hx hb dX2_copyFrom_21 rfl (lv_at hl 0 rfl) ?_
  refine g_get (ci := 2) (v := .ref (a 1)) (C := RX2) (T := TX2) (N := 5) hx hb hts hinX2 hown hK hP 0 rfl rfl 2 (by decide) (hts (.fieldLink RX2 18 "ChargeStages$Log" "kind" "[I") (List.mem_of_getElem? (i := 3) rfl)) rfl dX2_copyFrom_22 ?_
  refine lv_iconst (v := 0) hx hb dX2_copyFrom_25 (by decide) ?_
  refine lv_bipush (v := 10) hx hb dX2_copyFrom_26 (by decide) ?_
  refine g_copy (N := 10) (B2 := [LW G a (sF (sF g 0 (upd (upd (g 0) 0 ((g2 0) 0)) 1 ((g2 0) 1))) 1 (g2 1)), LW G h g2]) hx hb (hml.trans hl.1.symm) hown (hts (.methodLink RX2 34 arraycopyName) (List.mem_of_getElem? (i := 4) rfl)) (hts (.native arraycopyName) (List.mem_of_getElem? (i := 5) rfl)) (hts (.static arraycopyName) (List.mem_of_getElem? (i := 6) rfl)) (hts (.initialized "java/lang/System") (List.mem_of_getElem? (i := 7) rfl)) hK hP hD hS 5 1 rfl rfl (by decide) (by decide) rfl (Nat.le_of_ble_eq_true rfl) (Nat.le_of_ble_eq_true rfl) dX2_copyFrom_28 (fun H locs hP hD hS => ?_)
  refine lv_aload_n hx hb dX2_copyFrom_31 rfl (lv_at hl 1 rfl) ?_
  refine g_get (ci := 2) (v := .ref (h 2)) (C := RX2) (T := TX2) (N := 5) hx hb hts hinX2 hown hK hP 4 rfl rfl 3 (by decide) (hts (.fieldLink RX2 22 "ChargeStages$Log" "tick" "[I") (List.mem_of_getElem? (i := 8) rfl)) rfl dX2_copyFrom_32 ?_
  refine lv_iconst (v := 0) hx hb dX2_copyFrom_35 (by decide) ?_
  refine lv_aload_n hx hb dX2_copyFrom_36 rfl (lv_at hl 0 rfl) ?_
  refine g_get (ci := 2) (v := .ref (a 2)) (C := RX2) (T := TX2) (N := 5) hx hb hts hinX2 hown hK hP 0 rfl rfl 3 (by decide) (hts (.fieldLink RX2 22 "ChargeStages$Log" "tick" "[I") (List.mem_of_getElem? (i := 8) rfl)) rfl dX2_copyFrom_37 ?_
  refine lv_iconst (v := 0) hx hb dX2_copyFrom_40 (by decide) ?_
  refine lv_bipush (v := 10) hx hb dX2_copyFrom_41 (by decide) ?_
  refine g_copy (N := 10) (B2 := [LW G a (sF (sF (sF g 0 (upd (upd (g 0) 0 ((g2 0) 0)) 1 ((g2 0) 1))) 1 (g2 1)) 2 (g2 2)), LW G h g2]) hx hb (hml.trans hl.1.symm) hown (hts (.methodLink RX2 34 arraycopyName) (List.mem_of_getElem? (i := 4) rfl)) (hts (.native arraycopyName) (List.mem_of_getElem? (i := 5) rfl)) (hts (.static arraycopyName) (List.mem_of_getElem? (i := 6) rfl)) (hts (.initialized "java/lang/System") (List.mem_of_getElem? (i := 7) rfl)) hK hP hD hS 6 2 rfl rfl (by decide) (by decide) rfl (Nat.le_of_ble_eq_true rfl) (Nat.le_of_ble_eq_true rfl) dX2_copyFrom_43 (fun H locs hP hD hS => ?_)
  refine lv_aload_n hx hb dX2_copyFrom_46 rfl (lv_at hl 1 rfl) ?_
  refine g_get (ci := 2) (v := .ref (h 3)) (C := RX2) (T := TX2) (N := 5) hx hb hts hinX2 hown hK hP 4 rfl rfl 4 (by decide) (hts (.fieldLink RX2 25 "ChargeStages$Log" "stage" "[I") (List.mem_of_getElem? (i := 9) rfl)) rfl dX2_copyFrom_47 ?_
  refine lv_iconst (v := 0) hx hb dX2_copyFrom_50 (by decide) ?_
  refine lv_aload_n hx hb dX2_copyFrom_51 rfl (lv_at hl 0 rfl) ?_
  refine g_get (ci := 2) (v := .ref (a 3)) (C := RX2) (T := TX2) (N := 5) hx hb hts hinX2 hown hK hP 0 rfl rfl 4 (by decide) (hts (.fieldLink RX2 25 "ChargeStages$Log" "stage" "[I") (List.mem_of_getElem? (i := 9) rfl)) rfl dX2_copyFrom_52 ?_
  refine lv_iconst (v := 0) hx hb dX2_copyFrom_55 (by decide) ?_
  refine lv_bipush (v := 10) hx hb dX2_copyFrom_56 (by decide) ?_
  refine g_copy (N := 10) (B2 := [LW G a (sF (sF (sF (sF g 0 (upd (upd (g 0) 0 ((g2 0) 0)) 1 ((g2 0) 1))) 1 (g2 1)) 2 (g2 2)) 3 (g2 3)), LW G h g2]) hx hb (hml.trans hl.1.symm) hown (hts (.methodLink RX2 34 arraycopyName) (List.mem_of_getElem? (i := 4) rfl)) (hts (.native arraycopyName) (List.mem_of_getElem? (i := 5) rfl)) (hts (.static arraycopyName) (List.mem_of_getElem? (i := 6) rfl)) (hts (.initialized "java/lang/System") (List.mem_of_getElem? (i := 7) rfl)) hK hP hD hS 7 3 rfl rfl (by decide) (by decide) rfl (Nat.le_of_ble_eq_true rfl) (Nat.le_of_ble_eq_true rfl) dX2_copyFrom_58 (fun H locs hP hD hS => ?_)
  exact g_retv hx hb hr hlocks hS dX2_copyFrom_61 rfl hP
def f_X6_isIn (p1 : Int32) (p2 : Int32) (p3 : Int32) : Int32 := (if p1 < p2 then 0 else (if p3 < p1 then 0 else 1))
set_option maxHeartbeats 4000000 in
set_option maxRecDepth 100000 in
theorem c_X6_isIn (l : Launch) (G : gG)  (p1 : Int32) (p2 : Int32) (p3 : Int32) (R : Int32) (hR : R = f_X6_isIn p1 p2 p3) : CT l G yX6_isIn wsX6_isIn 0 0 [.int p1, .int p2, .int p3] [] (some (.int R)) [] := by
  unfold f_X6_isIn at hR
  refine CT.of (cc := cX6_isIn) (maxL := 3) (ret := (some .boolean)) (plainFor_of_name (by decide +kernel)) rfl rfl (Nat.le_of_ble_eq_true rfl) ?_
  intro p e s m below meth c A ls hx hb hml hr hts hown hlocks hK hP hD hA hS hl
  have hown : s.vm.findClass RX6 = some m.cls := hown
  have hl : lv_has ls 3 [(0, .int p1), (1, .int p2), (2, .int p3)] := hl
  refine lv_iload_n hx hb dX6_isIn_0 rfl (lv_at hl 0 rfl) ?_
  refine lv_iload_n hx hb dX6_isIn_1 rfl (lv_at hl 1 rfl) ?_
  refine lv_icmp_lt (tgt := 14) hx hb dX6_isIn_2 (by decide) (fun c1 => ?_) (fun c1 => ?_)
  · rw [if_pos c1] at hR
    refine lv_iconst (v := 0) hx hb dX6_isIn_14 (by decide) ?_
    subst hR
    exact g_retz hx hb hr hlocks hS rfl dX6_isIn_15 rfl hP
  · rw [if_neg c1] at hR
    refine lv_iload_n hx hb dX6_isIn_5 rfl (lv_at hl 0 rfl) ?_
    refine lv_iload_n hx hb dX6_isIn_6 rfl (lv_at hl 2 rfl) ?_
    refine lv_icmp_gt (tgt := 14) hx hb dX6_isIn_7 (by decide) (fun c2 => ?_) (fun c2 => ?_)
    · rw [if_pos c2] at hR
      refine lv_iconst (v := 0) hx hb dX6_isIn_14 (by decide) ?_
      subst hR
      exact g_retz hx hb hr hlocks hS rfl dX6_isIn_15 rfl hP
    · rw [if_neg c2] at hR
      refine lv_iconst (v := 1) hx hb dX6_isIn_10 (by decide) ?_
      refine lv_goto (tgt := 15) hx hb dX6_isIn_11 (by decide) ?_
      subst hR
      exact g_retz hx hb hr hlocks hS rfl dX6_isIn_15 rfl hP
def f_X3_has (pf : (Nat → Nat → Int32)) (p1 : Int32) : Int32 := (if p1 < 0 then 0 else (if ((pf 0) 0) ≤ p1 then 0 else 1))
set_option maxHeartbeats 4000000 in
set_option maxRecDepth 100000 in
theorem c_X3_has (l : Launch) (G : gG) (a : Nat → Nat) (pf : (Nat → Nat → Int32)) (p1 : Int32) (R : Int32) (hR : R = f_X3_has pf p1) : CT l G yX3_has wsX3_has 0 0 [.ref (a 0), .int p1] [PW G a pf] (some (.int R)) [PW G a pf] := by
  unfold f_X3_has at hR
  refine CT.of (cc := cX3_has) (maxL := 2) (ret := (some .boolean)) (plainFor_of_name (by decide +kernel)) rfl rfl (Nat.le_of_ble_eq_true rfl) ?_
  intro p e s m below meth c A ls hx hb hml hr hts hown hlocks hK hP hD hA hS hl
  have hown : s.vm.findClass RX3 = some m.cls := hown
  have hl : lv_has ls 2 [(0, .ref (a 0)), (1, .int p1)] := hl
  have hinX3 : ∀ w ∈ wsX30, w ∈ wsX3_has := fun w h => List.mem_cons_of_mem _ (List.mem_append_right _ h)
  refine lv_iload_n hx hb dX3_has_0 rfl (lv_at hl 1 rfl) ?_
  refine lv_if_lt (tgt := 16) hx hb dX3_has_1 (by decide) (fun c1 => ?_) (fun c1 => ?_)
  · rw [if_pos c1] at hR
    refine lv_iconst (v := 0) hx hb dX3_has_16 (by decide) ?_
    subst hR
    exact g_retz hx hb hr hlocks hS rfl dX3_has_17 rfl hP
  · rw [if_neg c1] at hR
    refine lv_iload_n hx hb dX3_has_4 rfl (lv_at hl 1 rfl) ?_
    refine lv_aload_n hx hb dX3_has_5 rfl (lv_at hl 0 rfl) ?_
    refine g_get (ci := 3) (v := .int ((pf 0) 0)) (C := RX3) (T := TX3) (N := 5) hx hb hts hinX3 hown hK hP 0 rfl rfl 0 (by decide) (hts (.fieldLink RX3 9 "ChargeStages$Profile" "stages" "I") (List.mem_of_getElem? (i := 1) rfl)) rfl dX3_has_6 ?_
    refine lv_icmp_ge (tgt := 16) hx hb dX3_has_9 (by decide) (fun c2 => ?_) (fun c2 => ?_)
    · rw [if_pos c2] at hR
      refine lv_iconst (v := 0) hx hb dX3_has_16 (by decide) ?_
      subst hR
      exact g_retz hx hb hr hlocks hS rfl dX3_has_17 rfl hP
    · rw [if_neg c2] at hR
      refine lv_iconst (v := 1) hx hb dX3_has_12 (by decide) ?_
      refine lv_goto (tgt := 17) hx hb dX3_has_13 (by decide) ?_
      subst hR
      exact g_retz hx hb hr hlocks hS rfl dX3_has_17 rfl hP
def f_X3_addStage (pf : (Nat → Nat → Int32)) (p1 : Int32) : Int32 × (Nat → Nat → Int32) := (if ((pf 0) 0) < 5 then (gL (upd (pf 1) (((pf 0) 0).toNatClampNeg) p1) (fun (z2 : (Nat → Int32)) => (gL (upd (pf 2) (((pf 0) 0).toNatClampNeg) 0) (fun (z4 : (Nat → Int32)) => (gL (upd (pf 3) (((pf 0) 0).toNatClampNeg) 0) (fun (z6 : (Nat → Int32)) => (gL (upd (pf 4) (((pf 0) 0).toNatClampNeg) 0) (fun (z8 : (Nat → Int32)) => (1, (sF (sF (sF (sF (sF pf 0 (upd (pf 0) 0 (((pf 0) 0) + 1))) 1 z2) 2 z4) 3 z6) 4 z8)))))))))) else (0, pf))
def ok_X3_addStage (pf : (Nat → Nat → Int32)) (p1 : Int32) : Prop := ((((pf 0) 0) < 5 → (vp_in ((pf 0) 0) 5) ∧ (gL (upd (pf 1) (((pf 0) 0).toNatClampNeg) p1) (fun (z2 : (Nat → Int32)) => (vp_in ((pf 0) 0) 5) ∧ (gL (upd (pf 2) (((pf 0) 0).toNatClampNeg) 0) (fun (z4 : (Nat → Int32)) => (vp_in ((pf 0) 0) 5) ∧ (gL (upd (pf 3) (((pf 0) 0).toNatClampNeg) 0) (fun (z6 : (Nat → Int32)) => (vp_in ((pf 0) 0) 5) ∧ True))))))) ∧ (¬ ((pf 0) 0) < 5 → True))
set_option maxHeartbeats 4000000 in
set_option maxRecDepth 100000 in
theorem c_X3_addStage (l : Launch) (G : gG) (a : Nat → Nat) (pf : (Nat → Nat → Int32)) (p1 : Int32) (R : Int32 × (Nat → Nat → Int32)) (hR : R = f_X3_addStage pf p1) (hok : ok_X3_addStage pf p1) : CT l G yX3_addStage wsX3_addStage 0 0 [.ref (a 0), .int p1] [PW G a pf] (some (.int R.1)) [PW G a R.2] := by
  unfold f_X3_addStage at hR
  unfold ok_X3_addStage at hok
  refine CT.of (cc := cX3_addStage) (maxL := 2) (ret := (some .boolean)) (plainFor_of_name (by decide +kernel)) rfl rfl (Nat.le_of_ble_eq_true rfl) ?_
  intro p e s m below meth c A ls hx hb hml hr hts hown hlocks hK hP hD hA hS hl
  have hown : s.vm.findClass RX3 = some m.cls := hown
  have hl : lv_has ls 2 [(0, .ref (a 0)), (1, .int p1)] := hl
  have hinX3 : ∀ w ∈ wsX30, w ∈ wsX3_addStage := fun w h => List.mem_cons_of_mem _ (List.mem_append_right _ h)
  refine lv_aload_n hx hb dX3_addStage_0 rfl (lv_at hl 0 rfl) ?_
  refine g_get (ci := 3) (v := .int ((pf 0) 0)) (C := RX3) (T := TX3) (N := 5) hx hb hts hinX3 hown hK hP 0 rfl rfl 0 (by decide) (hts (.fieldLink RX3 9 "ChargeStages$Profile" "stages" "I") (List.mem_of_getElem? (i := 1) rfl)) rfl dX3_addStage_1 ?_
  refine lv_iconst (v := 5) hx hb dX3_addStage_4 (by decide) ?_
  refine lv_icmp_lt (tgt := 10) hx hb dX3_addStage_5 (by decide) (fun c1 => ?_) (fun c1 => ?_)
  · rw [if_pos c1] at hR
    have hok := hok.1 c1
    refine lv_aload_n hx hb dX3_addStage_10 rfl (lv_at hl 0 rfl) ?_
    refine g_get (ci := 3) (v := .ref (a 1)) (C := RX3) (T := TX3) (N := 5) hx hb hts hinX3 hown hK hP 0 rfl rfl 1 (by decide) (hts (.fieldLink RX3 15 "ChargeStages$Profile" "kind" "[I") (List.mem_of_getElem? (i := 2) rfl)) rfl dX3_addStage_11 ?_
    refine lv_aload_n hx hb dX3_addStage_14 rfl (lv_at hl 0 rfl) ?_
    refine g_get (ci := 3) (v := .int ((pf 0) 0)) (C := RX3) (T := TX3) (N := 5) hx hb hts hinX3 hown hK hP 0 rfl rfl 0 (by decide) (hts (.fieldLink RX3 9 "ChargeStages$Profile" "stages" "I") (List.mem_of_getElem? (i := 1) rfl)) rfl dX3_addStage_15 ?_
    refine lv_iload_n hx hb dX3_addStage_18 rfl (lv_at hl 1 rfl) ?_
    obtain ⟨k3, hok⟩ := hok
    obtain ⟨z2, ez2, hR, hok⟩ := g_let2 hR hok
    refine g_st (n := 5) (f := (pf 1)) (k := (((pf 0) 0).toNatClampNeg)) (B2 := [PW G a (sF pf 1 z2)]) hx hb hK hP hD hS 1 rfl rfl k3 (by subst ez2; rfl) dX3_addStage_19 (fun H locs hP hD hS => ?_)
    refine lv_aload_n hx hb dX3_addStage_20 rfl (lv_at hl 0 rfl) ?_
    refine g_get (ci := 3) (v := .ref (a 2)) (C := RX3) (T := TX3) (N := 5) hx hb hts hinX3 hown hK hP 0 rfl rfl 2 (by decide) (hts (.fieldLink RX3 19 "ChargeStages$Profile" "first" "[I") (List.mem_of_getElem? (i := 3) rfl)) rfl dX3_addStage_21 ?_
    refine lv_aload_n hx hb dX3_addStage_24 rfl (lv_at hl 0 rfl) ?_
    refine g_get (ci := 3) (v := .int ((pf 0) 0)) (C := RX3) (T := TX3) (N := 5) hx hb hts hinX3 hown hK hP 0 rfl rfl 0 (by decide) (hts (.fieldLink RX3 9 "ChargeStages$Profile" "stages" "I") (List.mem_of_getElem? (i := 1) rfl)) rfl dX3_addStage_25 ?_
    refine lv_iconst (v := 0) hx hb dX3_addStage_28 (by decide) ?_
    obtain ⟨k5, hok⟩ := hok
    obtain ⟨z4, ez4, hR, hok⟩ := g_let2 hR hok
    refine g_st (n := 5) (f := (pf 2)) (k := (((pf 0) 0).toNatClampNeg)) (B2 := [PW G a (sF (sF pf 1 z2) 2 z4)]) hx hb hK hP hD hS 2 rfl rfl k5 (by subst ez4; rfl) dX3_addStage_29 (fun H locs hP hD hS => ?_)
    refine lv_aload_n hx hb dX3_addStage_30 rfl (lv_at hl 0 rfl) ?_
    refine g_get (ci := 3) (v := .ref (a 3)) (C := RX3) (T := TX3) (N := 5) hx hb hts hinX3 hown hK hP 0 rfl rfl 3 (by decide) (hts (.fieldLink RX3 22 "ChargeStages$Profile" "second" "[I") (List.mem_of_getElem? (i := 4) rfl)) rfl dX3_addStage_31 ?_
    refine lv_aload_n hx hb dX3_addStage_34 rfl (lv_at hl 0 rfl) ?_
    refine g_get (ci := 3) (v := .int ((pf 0) 0)) (C := RX3) (T := TX3) (N := 5) hx hb hts hinX3 hown hK hP 0 rfl rfl 0 (by decide) (hts (.fieldLink RX3 9 "ChargeStages$Profile" "stages" "I") (List.mem_of_getElem? (i := 1) rfl)) rfl dX3_addStage_35 ?_
    refine lv_iconst (v := 0) hx hb dX3_addStage_38 (by decide) ?_
    obtain ⟨k7, hok⟩ := hok
    obtain ⟨z6, ez6, hR, hok⟩ := g_let2 hR hok
    refine g_st (n := 5) (f := (pf 3)) (k := (((pf 0) 0).toNatClampNeg)) (B2 := [PW G a (sF (sF (sF pf 1 z2) 2 z4) 3 z6)]) hx hb hK hP hD hS 3 rfl rfl k7 (by subst ez6; rfl) dX3_addStage_39 (fun H locs hP hD hS => ?_)
    refine lv_aload_n hx hb dX3_addStage_40 rfl (lv_at hl 0 rfl) ?_
    refine g_get (ci := 3) (v := .ref (a 4)) (C := RX3) (T := TX3) (N := 5) hx hb hts hinX3 hown hK hP 0 rfl rfl 4 (by decide) (hts (.fieldLink RX3 25 "ChargeStages$Profile" "timer" "[I") (List.mem_of_getElem? (i := 5) rfl)) rfl dX3_addStage_41 ?_
    refine lv_aload_n hx hb dX3_addStage_44 rfl (lv_at hl 0 rfl) ?_
    refine g_get (ci := 3) (v := .int ((pf 0) 0)) (C := RX3) (T := TX3) (N := 5) hx hb hts hinX3 hown hK hP 0 rfl rfl 0 (by decide) (hts (.fieldLink RX3 9 "ChargeStages$Profile" "stages" "I") (List.mem_of_getElem? (i := 1) rfl)) rfl dX3_addStage_45 ?_
    refine lv_iconst (v := 0) hx hb dX3_addStage_48 (by decide) ?_
    obtain ⟨k9, hok⟩ := hok
    obtain ⟨z8, ez8, hR⟩ := g_let hR
    refine g_st (n := 5) (f := (pf 4)) (k := (((pf 0) 0).toNatClampNeg)) (B2 := [PW G a (sF (sF (sF (sF pf 1 z2) 2 z4) 3 z6) 4 z8)]) hx hb hK hP hD hS 4 rfl rfl k9 (by subst ez8; rfl) dX3_addStage_49 (fun H locs hP hD hS => ?_)
    refine lv_aload_n hx hb dX3_addStage_50 rfl (lv_at hl 0 rfl) ?_
    refine lv_dup hx hb dX3_addStage_51 rfl ?_
    refine g_get (ci := 3) (v := .int ((pf 0) 0)) (C := RX3) (T := TX3) (N := 5) hx hb hts hinX3 hown hK hP 0 rfl rfl 0 (by decide) (hts (.fieldLink RX3 9 "ChargeStages$Profile" "stages" "I") (List.mem_of_getElem? (i := 1) rfl)) rfl dX3_addStage_52 ?_
    refine lv_iconst (v := 1) hx hb dX3_addStage_55 (by decide) ?_
    refine lv_iadd hx hb dX3_addStage_56 ?_
    refine g_put (ci := 3) (v := .int (((pf 0) 0) + 1)) (ty := .int) (C := RX3) (T := TX3) (N := 5) (B2 := [PW G a (sF (sF (sF (sF (sF pf 0 (upd (pf 0) 0 (((pf 0) 0) + 1))) 1 z2) 2 z4) 3 z6) 4 z8)]) hx hb hts hinX3 tyX3 tyX3_ok nmX3 hown hK hP hD hS 0 rfl rfl 0 (by decide) (hts (.fieldLink RX3 9 "ChargeStages$Profile" "stages" "I") (List.mem_of_getElem? (i := 1) rfl)) rfl (by decide +kernel) rfl rfl (Nat.le_of_ble_eq_true rfl) rfl dX3_addStage_57 (fun H locs hP hD hS => ?_)
    refine lv_iconst (v := 1) hx hb dX3_addStage_60 (by decide) ?_
    subst hR
    exact g_retz hx hb hr hlocks hS rfl dX3_addStage_61 rfl hP
  · rw [if_neg c1] at hR
    have hok := hok.2 c1
    refine lv_iconst (v := 0) hx hb dX3_addStage_8 (by decide) ?_
    subst hR
    exact g_retz hx hb hr hlocks hS rfl dX3_addStage_9 rfl hP
set_option maxHeartbeats 4000000 in
set_option maxRecDepth 100000 in
theorem c_X3_copyFrom (l : Launch) (G : gG) (a : Nat → Nat) (h : Nat → Nat) (pf : (Nat → Nat → Int32)) (q : (Nat → Nat → Int32)) : CT l G yX3_copyFrom wsX3_copyFrom 1 18 [.ref (a 0), .ref (h 0)] [PW G a pf, PW G h q] none [PW G a q, PW G h q] := by
  refine CT.of (cc := cX3_copyFrom) (maxL := 2) (ret := none) (plainFor_of_name (by decide +kernel)) rfl rfl (Nat.le_of_ble_eq_true rfl) ?_
  intro p e s m below meth c A ls hx hb hml hr hts hown hlocks hK hP hD hA hS hl
  have hown : s.vm.findClass RX3 = some m.cls := hown
  have hl : lv_has ls 2 [(0, .ref (a 0)), (1, .ref (h 0))] := hl
  have hinX3 : ∀ w ∈ wsX30, w ∈ wsX3_copyFrom := fun w h => List.mem_cons_of_mem _ (List.mem_append_right _ h)
  refine lv_aload_n hx hb dX3_copyFrom_0 rfl (lv_at hl 0 rfl) ?_
  refine lv_aload_n hx hb dX3_copyFrom_1 rfl (lv_at hl 1 rfl) ?_
  refine g_get (ci := 3) (v := .int ((q 0) 0)) (C := RX3) (T := TX3) (N := 5) hx hb hts hinX3 hown hK hP 5 rfl rfl 0 (by decide) (hts (.fieldLink RX3 9 "ChargeStages$Profile" "stages" "I") (List.mem_of_getElem? (i := 1) rfl)) rfl dX3_copyFrom_2 ?_
  refine g_put (ci := 3) (v := .int ((q 0) 0)) (ty := .int) (C := RX3) (T := TX3) (N := 5) (B2 := [PW G a (sF pf 0 (upd (pf 0) 0 ((q 0) 0))), PW G h q]) hx hb hts hinX3 tyX3 tyX3_ok nmX3 hown hK hP hD hS 0 rfl rfl 0 (by decide) (hts (.fieldLink RX3 9 "ChargeStages$Profile" "stages" "I") (List.mem_of_getElem? (i := 1) rfl)) rfl (by decide +kernel) rfl rfl (Nat.le_of_ble_eq_true rfl) rfl dX3_copyFrom_5 (fun H locs hP hD hS => ?_)
  refine lv_aload_n hx hb dX3_copyFrom_8 rfl (lv_at hl 1 rfl) ?_
  refine g_get (ci := 3) (v := .ref (h 1)) (C := RX3) (T := TX3) (N := 5) hx hb hts hinX3 hown hK hP 5 rfl rfl 1 (by decide) (hts (.fieldLink RX3 15 "ChargeStages$Profile" "kind" "[I") (List.mem_of_getElem? (i := 2) rfl)) rfl dX3_copyFrom_9 ?_
  refine lv_iconst (v := 0) hx hb dX3_copyFrom_12 (by decide) ?_
  refine lv_aload_n hx hb dX3_copyFrom_13 rfl (lv_at hl 0 rfl) ?_
  refine g_get (ci := 3) (v := .ref (a 1)) (C := RX3) (T := TX3) (N := 5) hx hb hts hinX3 hown hK hP 0 rfl rfl 1 (by decide) (hts (.fieldLink RX3 15 "ChargeStages$Profile" "kind" "[I") (List.mem_of_getElem? (i := 2) rfl)) rfl dX3_copyFrom_14 ?_
  refine lv_iconst (v := 0) hx hb dX3_copyFrom_17 (by decide) ?_
  refine lv_iconst (v := 5) hx hb dX3_copyFrom_18 (by decide) ?_
  refine g_copy (N := 5) (B2 := [PW G a (sF (sF pf 0 (upd (pf 0) 0 ((q 0) 0))) 1 (q 1)), PW G h q]) hx hb (hml.trans hl.1.symm) hown (hts (.methodLink RX3 28 arraycopyName) (List.mem_of_getElem? (i := 3) rfl)) (hts (.native arraycopyName) (List.mem_of_getElem? (i := 4) rfl)) (hts (.static arraycopyName) (List.mem_of_getElem? (i := 5) rfl)) (hts (.initialized "java/lang/System") (List.mem_of_getElem? (i := 6) rfl)) hK hP hD hS 6 1 rfl rfl (by decide) (by decide) rfl (Nat.le_of_ble_eq_true rfl) (Nat.le_of_ble_eq_true rfl) dX3_copyFrom_19 (fun H locs hP hD hS => ?_)
  refine lv_aload_n hx hb dX3_copyFrom_22 rfl (lv_at hl 1 rfl) ?_
  refine g_get (ci := 3) (v := .ref (h 2)) (C := RX3) (T := TX3) (N := 5) hx hb hts hinX3 hown hK hP 5 rfl rfl 2 (by decide) (hts (.fieldLink RX3 19 "ChargeStages$Profile" "first" "[I") (List.mem_of_getElem? (i := 7) rfl)) rfl dX3_copyFrom_23 ?_
  refine lv_iconst (v := 0) hx hb dX3_copyFrom_26 (by decide) ?_
  refine lv_aload_n hx hb dX3_copyFrom_27 rfl (lv_at hl 0 rfl) ?_
  refine g_get (ci := 3) (v := .ref (a 2)) (C := RX3) (T := TX3) (N := 5) hx hb hts hinX3 hown hK hP 0 rfl rfl 2 (by decide) (hts (.fieldLink RX3 19 "ChargeStages$Profile" "first" "[I") (List.mem_of_getElem? (i := 7) rfl)) rfl dX3_copyFrom_28 ?_
  refine lv_iconst (v := 0) hx hb dX3_copyFrom_31 (by decide) ?_
  refine lv_iconst (v := 5) hx hb dX3_copyFrom_32 (by decide) ?_
  refine g_copy (N := 5) (B2 := [PW G a (sF (sF (sF pf 0 (upd (pf 0) 0 ((q 0) 0))) 1 (q 1)) 2 (q 2)), PW G h q]) hx hb (hml.trans hl.1.symm) hown (hts (.methodLink RX3 28 arraycopyName) (List.mem_of_getElem? (i := 3) rfl)) (hts (.native arraycopyName) (List.mem_of_getElem? (i := 4) rfl)) (hts (.static arraycopyName) (List.mem_of_getElem? (i := 5) rfl)) (hts (.initialized "java/lang/System") (List.mem_of_getElem? (i := 6) rfl)) hK hP hD hS 7 2 rfl rfl (by decide) (by decide) rfl (Nat.le_of_ble_eq_true rfl) (Nat.le_of_ble_eq_true rfl) dX3_copyFrom_33 (fun H locs hP hD hS => ?_)
  refine lv_aload_n hx hb dX3_copyFrom_36 rfl (lv_at hl 1 rfl) ?_
  refine g_get (ci := 3) (v := .ref (h 3)) (C := RX3) (T := TX3) (N := 5) hx hb hts hinX3 hown hK hP 5 rfl rfl 3 (by decide) (hts (.fieldLink RX3 22 "ChargeStages$Profile" "second" "[I") (List.mem_of_getElem? (i := 8) rfl)) rfl dX3_copyFrom_37 ?_
  refine lv_iconst (v := 0) hx hb dX3_copyFrom_40 (by decide) ?_
  refine lv_aload_n hx hb dX3_copyFrom_41 rfl (lv_at hl 0 rfl) ?_
  refine g_get (ci := 3) (v := .ref (a 3)) (C := RX3) (T := TX3) (N := 5) hx hb hts hinX3 hown hK hP 0 rfl rfl 3 (by decide) (hts (.fieldLink RX3 22 "ChargeStages$Profile" "second" "[I") (List.mem_of_getElem? (i := 8) rfl)) rfl dX3_copyFrom_42 ?_
  refine lv_iconst (v := 0) hx hb dX3_copyFrom_45 (by decide) ?_
  refine lv_iconst (v := 5) hx hb dX3_copyFrom_46 (by decide) ?_
  refine g_copy (N := 5) (B2 := [PW G a (sF (sF (sF (sF pf 0 (upd (pf 0) 0 ((q 0) 0))) 1 (q 1)) 2 (q 2)) 3 (q 3)), PW G h q]) hx hb (hml.trans hl.1.symm) hown (hts (.methodLink RX3 28 arraycopyName) (List.mem_of_getElem? (i := 3) rfl)) (hts (.native arraycopyName) (List.mem_of_getElem? (i := 4) rfl)) (hts (.static arraycopyName) (List.mem_of_getElem? (i := 5) rfl)) (hts (.initialized "java/lang/System") (List.mem_of_getElem? (i := 6) rfl)) hK hP hD hS 8 3 rfl rfl (by decide) (by decide) rfl (Nat.le_of_ble_eq_true rfl) (Nat.le_of_ble_eq_true rfl) dX3_copyFrom_47 (fun H locs hP hD hS => ?_)
  refine lv_aload_n hx hb dX3_copyFrom_50 rfl (lv_at hl 1 rfl) ?_
  refine g_get (ci := 3) (v := .ref (h 4)) (C := RX3) (T := TX3) (N := 5) hx hb hts hinX3 hown hK hP 5 rfl rfl 4 (by decide) (hts (.fieldLink RX3 25 "ChargeStages$Profile" "timer" "[I") (List.mem_of_getElem? (i := 9) rfl)) rfl dX3_copyFrom_51 ?_
  refine lv_iconst (v := 0) hx hb dX3_copyFrom_54 (by decide) ?_
  refine lv_aload_n hx hb dX3_copyFrom_55 rfl (lv_at hl 0 rfl) ?_
  refine g_get (ci := 3) (v := .ref (a 4)) (C := RX3) (T := TX3) (N := 5) hx hb hts hinX3 hown hK hP 0 rfl rfl 4 (by decide) (hts (.fieldLink RX3 25 "ChargeStages$Profile" "timer" "[I") (List.mem_of_getElem? (i := 9) rfl)) rfl dX3_copyFrom_56 ?_
  refine lv_iconst (v := 0) hx hb dX3_copyFrom_59 (by decide) ?_
  refine lv_iconst (v := 5) hx hb dX3_copyFrom_60 (by decide) ?_
  refine g_copy (N := 5) (B2 := [PW G a (sF (sF (sF (sF (sF pf 0 (upd (pf 0) 0 ((q 0) 0))) 1 (q 1)) 2 (q 2)) 3 (q 3)) 4 (q 4)), PW G h q]) hx hb (hml.trans hl.1.symm) hown (hts (.methodLink RX3 28 arraycopyName) (List.mem_of_getElem? (i := 3) rfl)) (hts (.native arraycopyName) (List.mem_of_getElem? (i := 4) rfl)) (hts (.static arraycopyName) (List.mem_of_getElem? (i := 5) rfl)) (hts (.initialized "java/lang/System") (List.mem_of_getElem? (i := 6) rfl)) hK hP hD hS 9 4 rfl rfl (by decide) (by decide) rfl (Nat.le_of_ble_eq_true rfl) (Nat.le_of_ble_eq_true rfl) dX3_copyFrom_61 (fun H locs hP hD hS => ?_)
  exact g_retv hx hb hr hlocks hS dX3_copyFrom_64 rfl hP
def f_X3_hasNumbersInRange (pf : (Nat → Nat → Int32)) (p1 : Int32) : Int32 := (if ((pf 1) ((p1).toNatClampNeg)) = 0 then (gL (f_X6_isIn ((pf 2) ((p1).toNatClampNeg)) 1 2000) (fun (R4 : Int32) => (if R4 = 0 then 0 else (gL (f_X6_isIn ((pf 3) ((p1).toNatClampNeg)) 3000 4500) (fun (R8 : Int32) => (if R8 = 0 then 0 else 1)))))) else (if ((pf 1) ((p1).toNatClampNeg)) = 1 then (gL (f_X6_isIn ((pf 2) ((p1).toNatClampNeg)) 3000 4500) (fun (R13 : Int32) => (if R13 = 0 then 0 else (gL (f_X6_isIn ((pf 3) ((p1).toNatClampNeg)) 0 2000) (fun (R17 : Int32) => (if R17 = 0 then 0 else 1)))))) else (gL (f_X6_isIn ((pf 2) ((p1).toNatClampNeg)) 1 999) (fun (R21 : Int32) => R21))))
def ok_X3_hasNumbersInRange (pf : (Nat → Nat → Int32)) (p1 : Int32) : Prop := (vp_in p1 5) ∧ ((((pf 1) ((p1).toNatClampNeg)) = 0 → (vp_in p1 5) ∧ (gL (f_X6_isIn ((pf 2) ((p1).toNatClampNeg)) 1 2000) (fun (R4 : Int32) => ((R4 = 0 → True) ∧ (¬ R4 = 0 → (vp_in p1 5) ∧ True))))) ∧ (¬ ((pf 1) ((p1).toNatClampNeg)) = 0 → ((((pf 1) ((p1).toNatClampNeg)) = 1 → (vp_in p1 5) ∧ (gL (f_X6_isIn ((pf 2) ((p1).toNatClampNeg)) 3000 4500) (fun (R13 : Int32) => ((R13 = 0 → True) ∧ (¬ R13 = 0 → (vp_in p1 5) ∧ True))))) ∧ (¬ ((pf 1) ((p1).toNatClampNeg)) = 1 → (vp_in p1 5) ∧ (gL (f_X6_isIn ((pf 2) ((p1).toNatClampNeg)) 1 999) (fun (R21 : Int32) => (gz R21) ∧ True))))))
set_option maxHeartbeats 4000000 in
set_option maxRecDepth 100000 in
theorem c_X3_hasNumbersInRange (l : Launch) (G : gG) (a : Nat → Nat) (pf : (Nat → Nat → Int32)) (p1 : Int32) (R : Int32) (hR : R = f_X3_hasNumbersInRange pf p1) (hok : ok_X3_hasNumbersInRange pf p1) : CT l G yX3_hasNumbersInRange wsX3_hasNumbersInRange 1 22 [.ref (a 0), .int p1] [PW G a pf] (some (.int R)) [PW G a pf] := by
  unfold f_X3_hasNumbersInRange at hR
  unfold ok_X3_hasNumbersInRange at hok
  refine CT.of (cc := cX3_hasNumbersInRange) (maxL := 2) (ret := (some .boolean)) (plainFor_of_name (by decide +kernel)) rfl rfl (Nat.le_of_ble_eq_true rfl) ?_
  intro p e s m below meth c A ls hx hb hml hr hts hown hlocks hK hP hD hA hS hl
  have hown : s.vm.findClass RX3 = some m.cls := hown
  have hl : lv_has ls 2 [(0, .ref (a 0)), (1, .int p1)] := hl
  have hinX3 : ∀ w ∈ wsX30, w ∈ wsX3_hasNumbersInRange := fun w h => List.mem_cons_of_mem _ (List.mem_append_right _ h)
  refine lv_aload_n hx hb dX3_hasNumbersInRange_0 rfl (lv_at hl 0 rfl) ?_
  refine g_get (ci := 3) (v := .ref (a 1)) (C := RX3) (T := TX3) (N := 5) hx hb hts hinX3 hown hK hP 0 rfl rfl 1 (by decide) (hts (.fieldLink RX3 15 "ChargeStages$Profile" "kind" "[I") (List.mem_of_getElem? (i := 1) rfl)) rfl dX3_hasNumbersInRange_1 ?_
  refine lv_iload_n hx hb dX3_hasNumbersInRange_4 rfl (lv_at hl 1 rfl) ?_
  obtain ⟨k1, hok⟩ := hok
  refine g_ld (n := 5) (f := (pf 1)) (v := (pf 1) ((p1).toNatClampNeg)) (k := ((p1).toNatClampNeg)) hx hb hK hP 1 rfl rfl k1 rfl dX3_hasNumbersInRange_5 ?_
  by_cases c2 : ((pf 1) ((p1).toNatClampNeg)) = 0
  · rw [if_pos c2] at hR
    have hok := hok.1 c2
    refine lv_lookup (tgt := 32) (off := 26) hx hb dX3_hasNumbersInRange_6 (by decide) (by rw [c2]; rfl) (by decide) ?_
    refine lv_aload_n hx hb dX3_hasNumbersInRange_32 rfl (lv_at hl 0 rfl) ?_
    refine g_get (ci := 3) (v := .ref (a 2)) (C := RX3) (T := TX3) (N := 5) hx hb hts hinX3 hown hK hP 0 rfl rfl 2 (by decide) (hts (.fieldLink RX3 19 "ChargeStages$Profile" "first" "[I") (List.mem_of_getElem? (i := 2) rfl)) rfl dX3_hasNumbersInRange_33 ?_
    refine lv_iload_n hx hb dX3_hasNumbersInRange_36 rfl (lv_at hl 1 rfl) ?_
    obtain ⟨k3, hok⟩ := hok
    refine g_ld (n := 5) (f := (pf 2)) (v := (pf 2) ((p1).toNatClampNeg)) (k := ((p1).toNatClampNeg)) hx hb hK hP 2 rfl rfl k3 rfl dX3_hasNumbersInRange_37 ?_
    refine lv_iconst (v := 1) hx hb dX3_hasNumbersInRange_38 (by decide) ?_
    refine lv_sipush (v := 2000) hx hb dX3_hasNumbersInRange_39 (by decide) ?_
    obtain ⟨R4, eR4, hR, hok⟩ := g_let2 hR hok
    refine g_callN (host := RX6) (c_X6_isIn l G ((pf 2) ((p1).toNatClampNeg)) 1 2000 R4 eR4) hx hb hml hown hts hK hP hD hS hA gX3_hasNumbersInRange_X6_isIn_n38 rfl (n := 3) (by decide +kernel) (List.mem_of_getElem? (i := 5) rfl) (List.mem_of_getElem? (i := 4) rfl) (by decide +kernel) rfl ⟨Nat.le_of_ble_eq_true rfl, Nat.le_of_ble_eq_true rfl⟩ [] rfl (by decide) hl.1 rfl (Nat.le_of_ble_eq_true rfl) ⟨Nat.zero_le _, Nat.zero_le _⟩ dX3_hasNumbersInRange_42 (fun H locs hP hD hS => ?_)
    have hP : va_P G.1 vwCl (List.flatten [PW G a pf]) H := hP
    have hD : va_D A (List.flatten [PW G a pf]) := hD
    refine lv_if_eq (tgt := 70) hx hb dX3_hasNumbersInRange_45 (by decide) (fun c6 => ?_) (fun c6 => ?_)
    · rw [if_pos c6] at hR
      have hok := hok.1 c6
      refine lv_iconst (v := 0) hx hb dX3_hasNumbersInRange_70 (by decide) ?_
      subst hR
      exact g_retz hx hb hr hlocks hS rfl dX3_hasNumbersInRange_71 rfl hP
    · rw [if_neg c6] at hR
      have hok := hok.2 c6
      refine lv_aload_n hx hb dX3_hasNumbersInRange_48 rfl (lv_at hl 0 rfl) ?_
      refine g_get (ci := 3) (v := .ref (a 3)) (C := RX3) (T := TX3) (N := 5) hx hb hts hinX3 hown hK hP 0 rfl rfl 3 (by decide) (hts (.fieldLink RX3 22 "ChargeStages$Profile" "second" "[I") (List.mem_of_getElem? (i := 3) rfl)) rfl dX3_hasNumbersInRange_49 ?_
      refine lv_iload_n hx hb dX3_hasNumbersInRange_52 rfl (lv_at hl 1 rfl) ?_
      obtain ⟨k7, hok⟩ := hok
      refine g_ld (n := 5) (f := (pf 3)) (v := (pf 3) ((p1).toNatClampNeg)) (k := ((p1).toNatClampNeg)) hx hb hK hP 3 rfl rfl k7 rfl dX3_hasNumbersInRange_53 ?_
      refine lv_sipush (v := 3000) hx hb dX3_hasNumbersInRange_54 (by decide) ?_
      refine lv_sipush (v := 4500) hx hb dX3_hasNumbersInRange_57 (by decide) ?_
      obtain ⟨R8, eR8, hR⟩ := g_let hR
      refine g_callN (host := RX6) (c_X6_isIn l G ((pf 3) ((p1).toNatClampNeg)) 3000 4500 R8 eR8) hx hb hml hown hts hK hP hD hS hA gX3_hasNumbersInRange_X6_isIn_n38 rfl (n := 3) (by decide +kernel) (List.mem_of_getElem? (i := 5) rfl) (List.mem_of_getElem? (i := 4) rfl) (by decide +kernel) rfl ⟨Nat.le_of_ble_eq_true rfl, Nat.le_of_ble_eq_true rfl⟩ [] rfl (by decide) hl.1 rfl (Nat.le_of_ble_eq_true rfl) ⟨Nat.zero_le _, Nat.zero_le _⟩ dX3_hasNumbersInRange_60 (fun H locs hP hD hS => ?_)
      have hP : va_P G.1 vwCl (List.flatten [PW G a pf]) H := hP
      have hD : va_D A (List.flatten [PW G a pf]) := hD
      refine lv_if_eq (tgt := 70) hx hb dX3_hasNumbersInRange_63 (by decide) (fun c10 => ?_) (fun c10 => ?_)
      · rw [if_pos c10] at hR
        refine lv_iconst (v := 0) hx hb dX3_hasNumbersInRange_70 (by decide) ?_
        subst hR
        exact g_retz hx hb hr hlocks hS rfl dX3_hasNumbersInRange_71 rfl hP
      · rw [if_neg c10] at hR
        refine lv_iconst (v := 1) hx hb dX3_hasNumbersInRange_66 (by decide) ?_
        refine lv_goto (tgt := 71) hx hb dX3_hasNumbersInRange_67 (by decide) ?_
        subst hR
        exact g_retz hx hb hr hlocks hS rfl dX3_hasNumbersInRange_71 rfl hP
  · rw [if_neg c2] at hR
    have hok := hok.2 c2
    by_cases c11 : ((pf 1) ((p1).toNatClampNeg)) = 1
    · rw [if_pos c11] at hR
      have hok := hok.1 c11
      refine lv_lookup (tgt := 72) (off := 66) hx hb dX3_hasNumbersInRange_6 (by decide) (by rw [c11]; rfl) (by decide) ?_
      refine lv_aload_n hx hb dX3_hasNumbersInRange_72 rfl (lv_at hl 0 rfl) ?_
      refine g_get (ci := 3) (v := .ref (a 2)) (C := RX3) (T := TX3) (N := 5) hx hb hts hinX3 hown hK hP 0 rfl rfl 2 (by decide) (hts (.fieldLink RX3 19 "ChargeStages$Profile" "first" "[I") (List.mem_of_getElem? (i := 2) rfl)) rfl dX3_hasNumbersInRange_73 ?_
      refine lv_iload_n hx hb dX3_hasNumbersInRange_76 rfl (lv_at hl 1 rfl) ?_
      obtain ⟨k12, hok⟩ := hok
      refine g_ld (n := 5) (f := (pf 2)) (v := (pf 2) ((p1).toNatClampNeg)) (k := ((p1).toNatClampNeg)) hx hb hK hP 2 rfl rfl k12 rfl dX3_hasNumbersInRange_77 ?_
      refine lv_sipush (v := 3000) hx hb dX3_hasNumbersInRange_78 (by decide) ?_
      refine lv_sipush (v := 4500) hx hb dX3_hasNumbersInRange_81 (by decide) ?_
      obtain ⟨R13, eR13, hR, hok⟩ := g_let2 hR hok
      refine g_callN (host := RX6) (c_X6_isIn l G ((pf 2) ((p1).toNatClampNeg)) 3000 4500 R13 eR13) hx hb hml hown hts hK hP hD hS hA gX3_hasNumbersInRange_X6_isIn_n38 rfl (n := 3) (by decide +kernel) (List.mem_of_getElem? (i := 5) rfl) (List.mem_of_getElem? (i := 4) rfl) (by decide +kernel) rfl ⟨Nat.le_of_ble_eq_true rfl, Nat.le_of_ble_eq_true rfl⟩ [] rfl (by decide) hl.1 rfl (Nat.le_of_ble_eq_true rfl) ⟨Nat.zero_le _, Nat.zero_le _⟩ dX3_hasNumbersInRange_84 (fun H locs hP hD hS => ?_)
      have hP : va_P G.1 vwCl (List.flatten [PW G a pf]) H := hP
      have hD : va_D A (List.flatten [PW G a pf]) := hD
      refine lv_if_eq (tgt := 110) hx hb dX3_hasNumbersInRange_87 (by decide) (fun c15 => ?_) (fun c15 => ?_)
      · rw [if_pos c15] at hR
        have hok := hok.1 c15
        refine lv_iconst (v := 0) hx hb dX3_hasNumbersInRange_110 (by decide) ?_
        subst hR
        exact g_retz hx hb hr hlocks hS rfl dX3_hasNumbersInRange_111 rfl hP
      · rw [if_neg c15] at hR
        have hok := hok.2 c15
        refine lv_aload_n hx hb dX3_hasNumbersInRange_90 rfl (lv_at hl 0 rfl) ?_
        refine g_get (ci := 3) (v := .ref (a 3)) (C := RX3) (T := TX3) (N := 5) hx hb hts hinX3 hown hK hP 0 rfl rfl 3 (by decide) (hts (.fieldLink RX3 22 "ChargeStages$Profile" "second" "[I") (List.mem_of_getElem? (i := 3) rfl)) rfl dX3_hasNumbersInRange_91 ?_
        refine lv_iload_n hx hb dX3_hasNumbersInRange_94 rfl (lv_at hl 1 rfl) ?_
        obtain ⟨k16, hok⟩ := hok
        refine g_ld (n := 5) (f := (pf 3)) (v := (pf 3) ((p1).toNatClampNeg)) (k := ((p1).toNatClampNeg)) hx hb hK hP 3 rfl rfl k16 rfl dX3_hasNumbersInRange_95 ?_
        refine lv_iconst (v := 0) hx hb dX3_hasNumbersInRange_96 (by decide) ?_
        refine lv_sipush (v := 2000) hx hb dX3_hasNumbersInRange_97 (by decide) ?_
        obtain ⟨R17, eR17, hR⟩ := g_let hR
        refine g_callN (host := RX6) (c_X6_isIn l G ((pf 3) ((p1).toNatClampNeg)) 0 2000 R17 eR17) hx hb hml hown hts hK hP hD hS hA gX3_hasNumbersInRange_X6_isIn_n38 rfl (n := 3) (by decide +kernel) (List.mem_of_getElem? (i := 5) rfl) (List.mem_of_getElem? (i := 4) rfl) (by decide +kernel) rfl ⟨Nat.le_of_ble_eq_true rfl, Nat.le_of_ble_eq_true rfl⟩ [] rfl (by decide) hl.1 rfl (Nat.le_of_ble_eq_true rfl) ⟨Nat.zero_le _, Nat.zero_le _⟩ dX3_hasNumbersInRange_100 (fun H locs hP hD hS => ?_)
        have hP : va_P G.1 vwCl (List.flatten [PW G a pf]) H := hP
        have hD : va_D A (List.flatten [PW G a pf]) := hD
        refine lv_if_eq (tgt := 110) hx hb dX3_hasNumbersInRange_103 (by decide) (fun c19 => ?_) (fun c19 => ?_)
        · rw [if_pos c19] at hR
          refine lv_iconst (v := 0) hx hb dX3_hasNumbersInRange_110 (by decide) ?_
          subst hR
          exact g_retz hx hb hr hlocks hS rfl dX3_hasNumbersInRange_111 rfl hP
        · rw [if_neg c19] at hR
          refine lv_iconst (v := 1) hx hb dX3_hasNumbersInRange_106 (by decide) ?_
          refine lv_goto (tgt := 111) hx hb dX3_hasNumbersInRange_107 (by decide) ?_
          subst hR
          exact g_retz hx hb hr hlocks hS rfl dX3_hasNumbersInRange_111 rfl hP
    · rw [if_neg c11] at hR
      have hok := hok.2 c11
      refine lv_lookup (tgt := 112) (off := 106) hx hb dX3_hasNumbersInRange_6 (by decide) (g_lk2 c2 c11) (by decide) ?_
      refine lv_aload_n hx hb dX3_hasNumbersInRange_112 rfl (lv_at hl 0 rfl) ?_
      refine g_get (ci := 3) (v := .ref (a 2)) (C := RX3) (T := TX3) (N := 5) hx hb hts hinX3 hown hK hP 0 rfl rfl 2 (by decide) (hts (.fieldLink RX3 19 "ChargeStages$Profile" "first" "[I") (List.mem_of_getElem? (i := 2) rfl)) rfl dX3_hasNumbersInRange_113 ?_
      refine lv_iload_n hx hb dX3_hasNumbersInRange_116 rfl (lv_at hl 1 rfl) ?_
      obtain ⟨k20, hok⟩ := hok
      refine g_ld (n := 5) (f := (pf 2)) (v := (pf 2) ((p1).toNatClampNeg)) (k := ((p1).toNatClampNeg)) hx hb hK hP 2 rfl rfl k20 rfl dX3_hasNumbersInRange_117 ?_
      refine lv_iconst (v := 1) hx hb dX3_hasNumbersInRange_118 (by decide) ?_
      refine lv_sipush (v := 999) hx hb dX3_hasNumbersInRange_119 (by decide) ?_
      obtain ⟨R21, eR21, hR, hok⟩ := g_let2 hR hok
      refine g_callN (host := RX6) (c_X6_isIn l G ((pf 2) ((p1).toNatClampNeg)) 1 999 R21 eR21) hx hb hml hown hts hK hP hD hS hA gX3_hasNumbersInRange_X6_isIn_n38 rfl (n := 3) (by decide +kernel) (List.mem_of_getElem? (i := 5) rfl) (List.mem_of_getElem? (i := 4) rfl) (by decide +kernel) rfl ⟨Nat.le_of_ble_eq_true rfl, Nat.le_of_ble_eq_true rfl⟩ [] rfl (by decide) hl.1 rfl (Nat.le_of_ble_eq_true rfl) ⟨Nat.zero_le _, Nat.zero_le _⟩ dX3_hasNumbersInRange_122 (fun H locs hP hD hS => ?_)
      have hP : va_P G.1 vwCl (List.flatten [PW G a pf]) H := hP
      have hD : va_D A (List.flatten [PW G a pf]) := hD
      obtain ⟨k23, hok⟩ := hok
      subst hR
      exact g_retz hx hb hr hlocks hS k23.narrow dX3_hasNumbersInRange_125 rfl hP
def fl_X3_isInRange_2 (pf : (Nat → Nat → Int32)) : Nat → Int32 → Int32
  | 0, _ => (0 : Int32)
  | n + 1, x2_1 => (if ((pf 0) 0) ≤ x2_1 then 1 else (gL (f_X3_hasNumbersInRange pf x2_1) (fun (R9 : Int32) => (if R9 = 0 then 0 else (gL (f_X6_isIn ((pf 4) ((x2_1).toNatClampNeg)) 0 999) (fun (R13 : Int32) => (if R13 = 0 then 0 else (gL ((x2_1 + 1)) (fun (v16 : Int32) => (fl_X3_isInRange_2 pf n v16))))))))))
def okl_X3_isInRange_2 (pf : (Nat → Nat → Int32)) : Nat → Int32 → Prop
  | 0, _ => False
  | n + 1, x2_1 => ((((pf 0) 0) ≤ x2_1 → True) ∧ (¬ ((pf 0) 0) ≤ x2_1 → (ok_X3_hasNumbersInRange pf x2_1) ∧ (gL (f_X3_hasNumbersInRange pf x2_1) (fun (R9 : Int32) => ((R9 = 0 → True) ∧ (¬ R9 = 0 → (vp_in x2_1 5) ∧ (gL (f_X6_isIn ((pf 4) ((x2_1).toNatClampNeg)) 0 999) (fun (R13 : Int32) => ((R13 = 0 → True) ∧ (¬ R13 = 0 → (gL ((x2_1 + 1)) (fun (v16 : Int32) => (okl_X3_isInRange_2 pf n v16)))))))))))))
def f_X3_isInRange (pf : (Nat → Nat → Int32)) : Int32 := (fl_X3_isInRange_2 pf 6 0)
def ok_X3_isInRange (pf : (Nat → Nat → Int32)) : Prop := (okl_X3_isInRange_2 pf 6 0)
set_option maxHeartbeats 4000000 in
set_option maxRecDepth 100000 in
theorem c_X3_isInRange (l : Launch) (G : gG) (a : Nat → Nat) (pf : (Nat → Nat → Int32)) (R : Int32) (hR : R = f_X3_isInRange pf) (hok : ok_X3_isInRange pf) : CT l G yX3_isInRange wsX3_isInRange 2 43 [.ref (a 0)] [PW G a pf] (some (.int R)) [PW G a pf] := by
  unfold f_X3_isInRange at hR
  unfold ok_X3_isInRange at hok
  refine CT.of (cc := cX3_isInRange) (maxL := 2) (ret := (some .boolean)) (plainFor_of_name (by decide +kernel)) rfl rfl (Nat.le_of_ble_eq_true rfl) ?_
  intro p e s m below meth c A ls hx hb hml hr hts hown hlocks hK hP hD hA hS hl
  have hown : s.vm.findClass RX3 = some m.cls := hown
  have hl : lv_has ls 2 [(0, .ref (a 0))] := hl
  have hinX3 : ∀ w ∈ wsX30, w ∈ wsX3_isInRange := fun w h => List.mem_cons_of_mem _ (List.mem_append_right _ h)
  refine lv_iconst (v := 0) hx hb dX3_isInRange_0 (by decide) ?_
  refine lv_istore_n (lv' := [(1, .int 0), (0, .ref (a 0))]) hx hb dX3_isInRange_1 rfl hl (by decide) rfl (fun ls hl => ?_)
  have lp2 : ∀ (n : Nat) (x2_1 : Int32) (H : Heap) (locs : List Loc) (ls : Array Slot), R = fl_X3_isInRange_2 pf n x2_1 → okl_X3_isInRange_2 pf n x2_1 → va_P G.1 vwCl (List.flatten [PW G a pf]) H → va_D A (List.flatten [PW G a pf]) → va_S A s.heap H locs → lv_has ls 2 [(0, .ref (a 0)), (1, .int x2_1)] → W p l e { frames := 2, cells := 0, slots := 0, locals := 43 } s m (List.toArray [.ref (a 0)]) below meth c H locs 0 0 (gQ G below (List.toArray [.ref (a 0)]) s (some (.int R)) [PW G a pf] A) (F0 m 2 ls []) := by
    intro n
    induction n with
    | zero =>
      intro x2_1 H locs ls hR hok hP hD hS hl
      rw [okl_X3_isInRange_2] at hok
      exact hok.elim
    | succ n ih =>
      intro x2_1 H locs ls hR hok hP hD hS hl
      rw [fl_X3_isInRange_2] at hR
      rw [okl_X3_isInRange_2] at hok
      refine lv_iload_n hx hb dX3_isInRange_2 rfl (lv_at hl 1 rfl) ?_
      refine lv_aload_n hx hb dX3_isInRange_3 rfl (lv_at hl 0 rfl) ?_
      refine g_get (ci := 3) (v := .int ((pf 0) 0)) (C := RX3) (T := TX3) (N := 5) hx hb hts hinX3 hown hK hP 0 rfl rfl 0 (by decide) (hts (.fieldLink RX3 9 "ChargeStages$Profile" "stages" "I") (List.mem_of_getElem? (i := 1) rfl)) rfl dX3_isInRange_4 ?_
      refine lv_icmp_ge (tgt := 42) hx hb dX3_isInRange_7 (by decide) (fun c8 => ?_) (fun c8 => ?_)
      · rw [if_pos c8] at hR
        have hok := hok.1 c8
        refine lv_iconst (v := 1) hx hb dX3_isInRange_42 (by decide) ?_
        subst hR
        exact g_retz hx hb hr hlocks hS rfl dX3_isInRange_43 rfl hP
      · rw [if_neg c8] at hR
        have hok := hok.2 c8
        refine lv_aload_n hx hb dX3_isInRange_10 rfl (lv_at hl 0 rfl) ?_
        refine lv_iload_n hx hb dX3_isInRange_11 rfl (lv_at hl 1 rfl) ?_
        obtain ⟨k10, hok⟩ := hok
        obtain ⟨R9, eR9, hR, hok⟩ := g_let2 hR hok
        refine g_callV (c_X3_hasNumbersInRange l G a pf x2_1 R9 eR9 k10) hx hb hml hown hts hK hP hD hS hA gX3_isInRange_X3_hasNumbersInRange rfl (n := 1) (by decide +kernel) rfl ⟨Nat.le_of_ble_eq_true rfl, Nat.le_of_ble_eq_true rfl⟩ [0] rfl (by decide) 0 rfl (ci := 3) rfl hl.1 rfl (Nat.le_of_ble_eq_true rfl) ⟨Nat.zero_le _, Nat.zero_le _⟩ dX3_isInRange_12 (fun H locs hP hD hS => ?_)
        have hP : va_P G.1 vwCl (List.flatten [PW G a pf]) H := hP
        have hD : va_D A (List.flatten [PW G a pf]) := hD
        refine lv_if_eq (tgt := 34) hx hb dX3_isInRange_15 (by decide) (fun c11 => ?_) (fun c11 => ?_)
        · rw [if_pos c11] at hR
          have hok := hok.1 c11
          refine lv_iconst (v := 0) hx hb dX3_isInRange_34 (by decide) ?_
          subst hR
          exact g_retz hx hb hr hlocks hS rfl dX3_isInRange_35 rfl hP
        · rw [if_neg c11] at hR
          have hok := hok.2 c11
          refine lv_aload_n hx hb dX3_isInRange_18 rfl (lv_at hl 0 rfl) ?_
          refine g_get (ci := 3) (v := .ref (a 4)) (C := RX3) (T := TX3) (N := 5) hx hb hts hinX3 hown hK hP 0 rfl rfl 4 (by decide) (hts (.fieldLink RX3 25 "ChargeStages$Profile" "timer" "[I") (List.mem_of_getElem? (i := 2) rfl)) rfl dX3_isInRange_19 ?_
          refine lv_iload_n hx hb dX3_isInRange_22 rfl (lv_at hl 1 rfl) ?_
          obtain ⟨k12, hok⟩ := hok
          refine g_ld (n := 5) (f := (pf 4)) (v := (pf 4) ((x2_1).toNatClampNeg)) (k := ((x2_1).toNatClampNeg)) hx hb hK hP 4 rfl rfl k12 rfl dX3_isInRange_23 ?_
          refine lv_iconst (v := 0) hx hb dX3_isInRange_24 (by decide) ?_
          refine lv_sipush (v := 999) hx hb dX3_isInRange_25 (by decide) ?_
          obtain ⟨R13, eR13, hR, hok⟩ := g_let2 hR hok
          refine g_callN (host := RX6) (c_X6_isIn l G ((pf 4) ((x2_1).toNatClampNeg)) 0 999 R13 eR13) hx hb hml hown hts hK hP hD hS hA gX3_isInRange_X6_isIn_n38 rfl (n := 3) (by decide +kernel) (List.mem_of_getElem? (i := 12) rfl) (List.mem_of_getElem? (i := 11) rfl) (by decide +kernel) rfl ⟨Nat.le_of_ble_eq_true rfl, Nat.le_of_ble_eq_true rfl⟩ [] rfl (by decide) hl.1 rfl (Nat.le_of_ble_eq_true rfl) ⟨Nat.zero_le _, Nat.zero_le _⟩ dX3_isInRange_28 (fun H locs hP hD hS => ?_)
          have hP : va_P G.1 vwCl (List.flatten [PW G a pf]) H := hP
          have hD : va_D A (List.flatten [PW G a pf]) := hD
          refine lv_if_ne (tgt := 36) hx hb dX3_isInRange_31 (by decide) (fun c15 => ?_) (fun c15 => ?_)
          · rw [if_neg c15] at hR
            have hok := hok.2 c15
            obtain ⟨v16, ev16, hR, hok⟩ := g_let2 hR hok
            refine lv_iinc (v := v16) (lv' := [(1, .int v16), (0, .ref (a 0))]) hx hb dX3_isInRange_36 hl (k := 1) rfl (by subst ev16; rfl) (by decide) rfl (fun ls hl => ?_)
            refine lv_goto (tgt := 2) hx hb dX3_isInRange_39 (by decide) ?_
            exact ih v16 _ _ _ hR hok hP hD hS (lv_sub hl [1, 0] rfl)
          · rw [if_pos c15] at hR
            have hok := hok.1 c15
            refine lv_iconst (v := 0) hx hb dX3_isInRange_34 (by decide) ?_
            subst hR
            exact g_retz hx hb hr hlocks hS rfl dX3_isInRange_35 rfl hP
  exact lp2 6 0 _ _ _ hR hok hP hD hS (lv_sub hl [1, 0] rfl)
def f_X3_limitOf (pf : (Nat → Nat → Int32)) (p1 : Int32) : Int32 := (if ((pf 1) ((p1).toNatClampNeg)) = 1 then (pf 2) ((p1).toNatClampNeg) else (pf 3) ((p1).toNatClampNeg))
def ok_X3_limitOf (pf : (Nat → Nat → Int32)) (p1 : Int32) : Prop := (vp_in p1 5) ∧ ((((pf 1) ((p1).toNatClampNeg)) = 1 → (vp_in p1 5) ∧ True) ∧ (¬ ((pf 1) ((p1).toNatClampNeg)) = 1 → (vp_in p1 5) ∧ True))
set_option maxHeartbeats 4000000 in
set_option maxRecDepth 100000 in
theorem c_X3_limitOf (l : Launch) (G : gG) (a : Nat → Nat) (pf : (Nat → Nat → Int32)) (p1 : Int32) (R : Int32) (hR : R = f_X3_limitOf pf p1) (hok : ok_X3_limitOf pf p1) : CT l G yX3_limitOf wsX3_limitOf 0 0 [.ref (a 0), .int p1] [PW G a pf] (some (.int R)) [PW G a pf] := by
  unfold f_X3_limitOf at hR
  unfold ok_X3_limitOf at hok
  refine CT.of (cc := cX3_limitOf) (maxL := 2) (ret := (some .int)) (plainFor_of_name (by decide +kernel)) rfl rfl (Nat.le_of_ble_eq_true rfl) ?_
  intro p e s m below meth c A ls hx hb hml hr hts hown hlocks hK hP hD hA hS hl
  have hown : s.vm.findClass RX3 = some m.cls := hown
  have hl : lv_has ls 2 [(0, .ref (a 0)), (1, .int p1)] := hl
  have hinX3 : ∀ w ∈ wsX30, w ∈ wsX3_limitOf := fun w h => List.mem_cons_of_mem _ (List.mem_append_right _ h)
  refine lv_aload_n hx hb dX3_limitOf_0 rfl (lv_at hl 0 rfl) ?_
  refine g_get (ci := 3) (v := .ref (a 1)) (C := RX3) (T := TX3) (N := 5) hx hb hts hinX3 hown hK hP 0 rfl rfl 1 (by decide) (hts (.fieldLink RX3 15 "ChargeStages$Profile" "kind" "[I") (List.mem_of_getElem? (i := 1) rfl)) rfl dX3_limitOf_1 ?_
  refine lv_iload_n hx hb dX3_limitOf_4 rfl (lv_at hl 1 rfl) ?_
  obtain ⟨k1, hok⟩ := hok
  refine g_ld (n := 5) (f := (pf 1)) (v := (pf 1) ((p1).toNatClampNeg)) (k := ((p1).toNatClampNeg)) hx hb hK hP 1 rfl rfl k1 rfl dX3_limitOf_5 ?_
  refine lv_iconst (v := 1) hx hb dX3_limitOf_6 (by decide) ?_
  refine lv_icmp_ne (tgt := 19) hx hb dX3_limitOf_7 (by decide) (fun c2 => ?_) (fun c2 => ?_)
  · rw [if_neg c2] at hR
    have hok := hok.2 c2
    refine lv_aload_n hx hb dX3_limitOf_19 rfl (lv_at hl 0 rfl) ?_
    refine g_get (ci := 3) (v := .ref (a 3)) (C := RX3) (T := TX3) (N := 5) hx hb hts hinX3 hown hK hP 0 rfl rfl 3 (by decide) (hts (.fieldLink RX3 22 "ChargeStages$Profile" "second" "[I") (List.mem_of_getElem? (i := 3) rfl)) rfl dX3_limitOf_20 ?_
    refine lv_iload_n hx hb dX3_limitOf_23 rfl (lv_at hl 1 rfl) ?_
    obtain ⟨k3, hok⟩ := hok
    refine g_ld (n := 5) (f := (pf 3)) (v := (pf 3) ((p1).toNatClampNeg)) (k := ((p1).toNatClampNeg)) hx hb hK hP 3 rfl rfl k3 rfl dX3_limitOf_24 ?_
    subst hR
    exact g_ret hx hb hr hlocks hS dX3_limitOf_25 rfl hP
  · rw [if_pos c2] at hR
    have hok := hok.1 c2
    refine lv_aload_n hx hb dX3_limitOf_10 rfl (lv_at hl 0 rfl) ?_
    refine g_get (ci := 3) (v := .ref (a 2)) (C := RX3) (T := TX3) (N := 5) hx hb hts hinX3 hown hK hP 0 rfl rfl 2 (by decide) (hts (.fieldLink RX3 19 "ChargeStages$Profile" "first" "[I") (List.mem_of_getElem? (i := 2) rfl)) rfl dX3_limitOf_11 ?_
    refine lv_iload_n hx hb dX3_limitOf_14 rfl (lv_at hl 1 rfl) ?_
    obtain ⟨k4, hok⟩ := hok
    refine g_ld (n := 5) (f := (pf 2)) (v := (pf 2) ((p1).toNatClampNeg)) (k := ((p1).toNatClampNeg)) hx hb hK hP 2 rfl rfl k4 rfl dX3_limitOf_15 ?_
    refine lv_goto (tgt := 25) hx hb dX3_limitOf_16 (by decide) ?_
    subst hR
    exact g_ret hx hb hr hlocks hS dX3_limitOf_25 rfl hP
end
section
theorem i_vc : Claimed_1_1 ∧ Claimed_1_2 := sorry
end
