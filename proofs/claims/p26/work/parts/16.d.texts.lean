theorem tx_1 : rd 0 0 = (-100) := by decide +kernel
theorem tx_2 : rd 99 0 = (-101) := by decide +kernel
theorem tx_3 : rd 25393 0 = (-102) := by decide +kernel
theorem tx_4 : rd 6500666 0 = (-103) := by decide +kernel
theorem tx_5 : rd 27920148731015216 0 = 1 := by decide +kernel
theorem tx_6 : rd 7147558075139895343 0 = (-108) := by decide +kernel
theorem tx_7 : rd 7147558075139895343 48 = (-108) := by decide +kernel
theorem tx_8 : rd 7147558075139895343 53 = 1 := by decide +kernel
theorem tx_9 : rd 27919049219387440 0 = (-2) := by decide +kernel
theorem tx_10 : rd 7147828542132859696 12336 = (-2) := by decide +kernel
theorem tx_11 : rd 27920148714830137 0 = (-2) := by decide +kernel
theorem tx_12 : rd 27920148748120113 0 = (-2) := by decide +kernel
theorem tx_13 : rd 33270329311771184 0 = 1 := by decide +kernel
theorem tx_14 : rd 8517204303813423664 12337 = (-2) := by decide +kernel
theorem tx_15 : rd 29232 0 = (-2) := by decide +kernel
theorem tx_16 : rd 1916352825 0 = 1 := by decide +kernel
theorem tx_17 : rd 490451513392 0 = (-2) := by decide +kernel
theorem tx_18 : rd 125555587428400 0 = (-105) := by decide +kernel
theorem tx_19 : rd 7483441 0 = (-102) := by decide +kernel
theorem tx_20 : rd 32142226103480368 0 = (-2) := by decide +kernel
theorem tx_21 : rd 125555571243321 0 = 1 := by decide +kernel
theorem tx_22 : rd 120 0 = (-100) := by decide +kernel
theorem tx_23 : rd 7483707 0 = (-103) := by decide +kernel
theorem tx_24 : rd 1915829051 0 = (-103) := by decide +kernel
theorem tx_25 : rd 8228423355820896817 65361638289969 = 5 := by decide +kernel
theorem tx_26 : rd 8228423355820896817 16732579402232123 = (-114) := by decide +kernel
theorem tx_27 : rd 1915828789 0 = (-102) := by decide +kernel
theorem tx_28 : rd 507664937008 0 = (-105) := by decide +kernel
set_option maxHeartbeats 8000000 in
set_option maxRecDepth 100000 in
theorem c_L_texts (l : Launch) (G : gG) (z : Nat × Nat × Nat) : CN z l G yL_texts wsL_texts 8 179 4004 28504 [] 1 := by
  refine CN.of (cc := cL_texts) (maxL := 0) (ret := (some .boolean)) (plainFor_of_name (by decide +kernel)) rfl (Nat.le_of_ble_eq_true rfl) ?_
  intro p e s m below meth c ls hx hb hml hr hts hown hlocks hK hAO hZ hl
  have hown : s.vm.findClass RL = some m.cls := hown
  have hA : ∀ q : Nat, s.heap.size ≤ q → (fun q : Nat => s.heap.size ≤ q) q := fun _ h => h
  have hS : va_S (fun q : Nat => s.heap.size ≤ q) s.heap s.heap [] := va_S.rf
  have hP : va_P G.1 vwCl (List.flatten []) s.heap := fun k q h => by simp at h
  have hD : va_D (fun q : Nat => s.heap.size ≤ q) (List.flatten []) := ⟨fun i j p q h => by simp at h, fun k q h => by simp at h⟩
  refine lv_lconst (v := 0) hx hb dL_texts_0 (by decide) ?_
  refine lv_lconst (v := 0) hx hb dL_texts_1 (by decide) ?_
  refine g_callC (As := [.long 0, .long 0]) (c_L_readOf l G z 0 0) hx hb hml hown hts hK hAO hZ hP hD hS hA gL_texts_L_readOf rfl (n := 2) (by decide +kernel) rfl ⟨Nat.le_of_ble_eq_true rfl, Nat.le_of_ble_eq_true rfl⟩ hl.1 rfl (Nat.le_of_ble_eq_true rfl) ⟨Nat.le_of_ble_eq_true rfl, Nat.le_of_ble_eq_true rfl⟩ dL_texts_2 (fun H locs hP hS => ?_)
  refine g_topE tx_1 ?_
  refine lv_bipush (v := (-100)) hx hb dL_texts_5 (by decide) ?_
  refine lv_icmp_ne (tgt := 146) hx hb dL_texts_7 (by decide) (fun c => absurd c (by decide)) (fun _ => ?_)
  refine lv_ldc2 (v := 99) hx hb hown (hts (.constantLong RL 97 (99)) (List.mem_of_getElem? (i := 1) rfl)) dL_texts_10 ?_
  refine lv_lconst (v := 0) hx hb dL_texts_13 (by decide) ?_
  refine g_callC (As := [.long 99, .long 0]) (c_L_readOf l G z 99 0) hx hb hml hown hts hK hAO hZ hP hD hS hA gL_texts_L_readOf rfl (n := 2) (by decide +kernel) rfl ⟨Nat.le_of_ble_eq_true rfl, Nat.le_of_ble_eq_true rfl⟩ hl.1 rfl (Nat.le_of_ble_eq_true rfl) ⟨Nat.le_of_ble_eq_true rfl, Nat.le_of_ble_eq_true rfl⟩ dL_texts_14 (fun H locs hP hS => ?_)
  refine g_topE tx_2 ?_
  refine lv_bipush (v := (-101)) hx hb dL_texts_17 (by decide) ?_
  refine lv_icmp_ne (tgt := 146) hx hb dL_texts_19 (by decide) (fun c => absurd c (by decide)) (fun _ => ?_)
  refine lv_ldc2 (v := 25393) hx hb hown (hts (.constantLong RL 99 (25393)) (List.mem_of_getElem? (i := 2) rfl)) dL_texts_22 ?_
  refine lv_lconst (v := 0) hx hb dL_texts_25 (by decide) ?_
  refine g_callC (As := [.long 25393, .long 0]) (c_L_readOf l G z 25393 0) hx hb hml hown hts hK hAO hZ hP hD hS hA gL_texts_L_readOf rfl (n := 2) (by decide +kernel) rfl ⟨Nat.le_of_ble_eq_true rfl, Nat.le_of_ble_eq_true rfl⟩ hl.1 rfl (Nat.le_of_ble_eq_true rfl) ⟨Nat.le_of_ble_eq_true rfl, Nat.le_of_ble_eq_true rfl⟩ dL_texts_26 (fun H locs hP hS => ?_)
  refine g_topE tx_3 ?_
  refine lv_bipush (v := (-102)) hx hb dL_texts_29 (by decide) ?_
  refine lv_icmp_ne (tgt := 146) hx hb dL_texts_31 (by decide) (fun c => absurd c (by decide)) (fun _ => ?_)
  refine lv_ldc2 (v := 6500666) hx hb hown (hts (.constantLong RL 101 (6500666)) (List.mem_of_getElem? (i := 3) rfl)) dL_texts_34 ?_
  refine lv_lconst (v := 0) hx hb dL_texts_37 (by decide) ?_
  refine g_callC (As := [.long 6500666, .long 0]) (c_L_readOf l G z 6500666 0) hx hb hml hown hts hK hAO hZ hP hD hS hA gL_texts_L_readOf rfl (n := 2) (by decide +kernel) rfl ⟨Nat.le_of_ble_eq_true rfl, Nat.le_of_ble_eq_true rfl⟩ hl.1 rfl (Nat.le_of_ble_eq_true rfl) ⟨Nat.le_of_ble_eq_true rfl, Nat.le_of_ble_eq_true rfl⟩ dL_texts_38 (fun H locs hP hS => ?_)
  refine g_topE tx_4 ?_
  refine lv_bipush (v := (-103)) hx hb dL_texts_41 (by decide) ?_
  refine lv_icmp_ne (tgt := 146) hx hb dL_texts_43 (by decide) (fun c => absurd c (by decide)) (fun _ => ?_)
  refine lv_ldc2 (v := 27920148731015216) hx hb hown (hts (.constantLong RL 103 (27920148731015216)) (List.mem_of_getElem? (i := 4) rfl)) dL_texts_46 ?_
  refine lv_lconst (v := 0) hx hb dL_texts_49 (by decide) ?_
  refine g_callC (As := [.long 27920148731015216, .long 0]) (c_L_readOf l G z 27920148731015216 0) hx hb hml hown hts hK hAO hZ hP hD hS hA gL_texts_L_readOf rfl (n := 2) (by decide +kernel) rfl ⟨Nat.le_of_ble_eq_true rfl, Nat.le_of_ble_eq_true rfl⟩ hl.1 rfl (Nat.le_of_ble_eq_true rfl) ⟨Nat.le_of_ble_eq_true rfl, Nat.le_of_ble_eq_true rfl⟩ dL_texts_50 (fun H locs hP hS => ?_)
  refine g_topE tx_5 ?_
  refine lv_iconst (v := 1) hx hb dL_texts_53 (by decide) ?_
  refine lv_icmp_ne (tgt := 146) hx hb dL_texts_54 (by decide) (fun c => absurd c (by decide)) (fun _ => ?_)
  refine lv_ldc2 (v := 7147558075139895343) hx hb hown (hts (.constantLong RL 105 (7147558075139895343)) (List.mem_of_getElem? (i := 5) rfl)) dL_texts_57 ?_
  refine lv_lconst (v := 0) hx hb dL_texts_60 (by decide) ?_
  refine g_callC (As := [.long 7147558075139895343, .long 0]) (c_L_readOf l G z 7147558075139895343 0) hx hb hml hown hts hK hAO hZ hP hD hS hA gL_texts_L_readOf rfl (n := 2) (by decide +kernel) rfl ⟨Nat.le_of_ble_eq_true rfl, Nat.le_of_ble_eq_true rfl⟩ hl.1 rfl (Nat.le_of_ble_eq_true rfl) ⟨Nat.le_of_ble_eq_true rfl, Nat.le_of_ble_eq_true rfl⟩ dL_texts_61 (fun H locs hP hS => ?_)
  refine g_topE tx_6 ?_
  refine lv_bipush (v := (-108)) hx hb dL_texts_64 (by decide) ?_
  refine lv_icmp_ne (tgt := 146) hx hb dL_texts_66 (by decide) (fun c => absurd c (by decide)) (fun _ => ?_)
  refine lv_ldc2 (v := 7147558075139895343) hx hb hown (hts (.constantLong RL 105 (7147558075139895343)) (List.mem_of_getElem? (i := 5) rfl)) dL_texts_69 ?_
  refine lv_ldc2 (v := 48) hx hb hown (hts (.constantLong RL 107 (48)) (List.mem_of_getElem? (i := 6) rfl)) dL_texts_72 ?_
  refine g_callC (As := [.long 7147558075139895343, .long 48]) (c_L_readOf l G z 7147558075139895343 48) hx hb hml hown hts hK hAO hZ hP hD hS hA gL_texts_L_readOf rfl (n := 2) (by decide +kernel) rfl ⟨Nat.le_of_ble_eq_true rfl, Nat.le_of_ble_eq_true rfl⟩ hl.1 rfl (Nat.le_of_ble_eq_true rfl) ⟨Nat.le_of_ble_eq_true rfl, Nat.le_of_ble_eq_true rfl⟩ dL_texts_75 (fun H locs hP hS => ?_)
  refine g_topE tx_7 ?_
  refine lv_bipush (v := (-108)) hx hb dL_texts_78 (by decide) ?_
  refine lv_icmp_ne (tgt := 146) hx hb dL_texts_80 (by decide) (fun c => absurd c (by decide)) (fun _ => ?_)
  refine lv_ldc2 (v := 7147558075139895343) hx hb hown (hts (.constantLong RL 105 (7147558075139895343)) (List.mem_of_getElem? (i := 5) rfl)) dL_texts_83 ?_
  refine lv_ldc2 (v := 53) hx hb hown (hts (.constantLong RL 109 (53)) (List.mem_of_getElem? (i := 7) rfl)) dL_texts_86 ?_
  refine g_callC (As := [.long 7147558075139895343, .long 53]) (c_L_readOf l G z 7147558075139895343 53) hx hb hml hown hts hK hAO hZ hP hD hS hA gL_texts_L_readOf rfl (n := 2) (by decide +kernel) rfl ⟨Nat.le_of_ble_eq_true rfl, Nat.le_of_ble_eq_true rfl⟩ hl.1 rfl (Nat.le_of_ble_eq_true rfl) ⟨Nat.le_of_ble_eq_true rfl, Nat.le_of_ble_eq_true rfl⟩ dL_texts_89 (fun H locs hP hS => ?_)
  refine g_topE tx_8 ?_
  refine lv_iconst (v := 1) hx hb dL_texts_92 (by decide) ?_
  refine lv_icmp_ne (tgt := 146) hx hb dL_texts_93 (by decide) (fun c => absurd c (by decide)) (fun _ => ?_)
  refine lv_ldc2 (v := 27919049219387440) hx hb hown (hts (.constantLong RL 111 (27919049219387440)) (List.mem_of_getElem? (i := 8) rfl)) dL_texts_96 ?_
  refine lv_lconst (v := 0) hx hb dL_texts_99 (by decide) ?_
  refine g_callC (As := [.long 27919049219387440, .long 0]) (c_L_readOf l G z 27919049219387440 0) hx hb hml hown hts hK hAO hZ hP hD hS hA gL_texts_L_readOf rfl (n := 2) (by decide +kernel) rfl ⟨Nat.le_of_ble_eq_true rfl, Nat.le_of_ble_eq_true rfl⟩ hl.1 rfl (Nat.le_of_ble_eq_true rfl) ⟨Nat.le_of_ble_eq_true rfl, Nat.le_of_ble_eq_true rfl⟩ dL_texts_100 (fun H locs hP hS => ?_)
  refine g_topE tx_9 ?_
  refine lv_bipush (v := (-2)) hx hb dL_texts_103 (by decide) ?_
  refine lv_icmp_ne (tgt := 146) hx hb dL_texts_105 (by decide) (fun c => absurd c (by decide)) (fun _ => ?_)
  refine lv_ldc2 (v := 7147828542132859696) hx hb hown (hts (.constantLong RL 113 (7147828542132859696)) (List.mem_of_getElem? (i := 9) rfl)) dL_texts_108 ?_
  refine lv_ldc2 (v := 12336) hx hb hown (hts (.constantLong RL 115 (12336)) (List.mem_of_getElem? (i := 10) rfl)) dL_texts_111 ?_
  refine g_callC (As := [.long 7147828542132859696, .long 12336]) (c_L_readOf l G z 7147828542132859696 12336) hx hb hml hown hts hK hAO hZ hP hD hS hA gL_texts_L_readOf rfl (n := 2) (by decide +kernel) rfl ⟨Nat.le_of_ble_eq_true rfl, Nat.le_of_ble_eq_true rfl⟩ hl.1 rfl (Nat.le_of_ble_eq_true rfl) ⟨Nat.le_of_ble_eq_true rfl, Nat.le_of_ble_eq_true rfl⟩ dL_texts_114 (fun H locs hP hS => ?_)
  refine g_topE tx_10 ?_
  refine lv_bipush (v := (-2)) hx hb dL_texts_117 (by decide) ?_
  refine lv_icmp_ne (tgt := 146) hx hb dL_texts_119 (by decide) (fun c => absurd c (by decide)) (fun _ => ?_)
  refine lv_ldc2 (v := 27920148714830137) hx hb hown (hts (.constantLong RL 117 (27920148714830137)) (List.mem_of_getElem? (i := 11) rfl)) dL_texts_122 ?_
  refine lv_lconst (v := 0) hx hb dL_texts_125 (by decide) ?_
  refine g_callC (As := [.long 27920148714830137, .long 0]) (c_L_readOf l G z 27920148714830137 0) hx hb hml hown hts hK hAO hZ hP hD hS hA gL_texts_L_readOf rfl (n := 2) (by decide +kernel) rfl ⟨Nat.le_of_ble_eq_true rfl, Nat.le_of_ble_eq_true rfl⟩ hl.1 rfl (Nat.le_of_ble_eq_true rfl) ⟨Nat.le_of_ble_eq_true rfl, Nat.le_of_ble_eq_true rfl⟩ dL_texts_126 (fun H locs hP hS => ?_)
  refine g_topE tx_11 ?_
  refine lv_bipush (v := (-2)) hx hb dL_texts_129 (by decide) ?_
  refine lv_icmp_ne (tgt := 146) hx hb dL_texts_131 (by decide) (fun c => absurd c (by decide)) (fun _ => ?_)
  refine lv_ldc2 (v := 27920148748120113) hx hb hown (hts (.constantLong RL 119 (27920148748120113)) (List.mem_of_getElem? (i := 12) rfl)) dL_texts_134 ?_
  refine lv_lconst (v := 0) hx hb dL_texts_137 (by decide) ?_
  refine g_callC (As := [.long 27920148748120113, .long 0]) (c_L_readOf l G z 27920148748120113 0) hx hb hml hown hts hK hAO hZ hP hD hS hA gL_texts_L_readOf rfl (n := 2) (by decide +kernel) rfl ⟨Nat.le_of_ble_eq_true rfl, Nat.le_of_ble_eq_true rfl⟩ hl.1 rfl (Nat.le_of_ble_eq_true rfl) ⟨Nat.le_of_ble_eq_true rfl, Nat.le_of_ble_eq_true rfl⟩ dL_texts_138 (fun H locs hP hS => ?_)
  refine g_topE tx_12 ?_
  refine lv_bipush (v := (-2)) hx hb dL_texts_141 (by decide) ?_
  refine lv_icmp_eq (tgt := 148) hx hb dL_texts_143 (by decide) (fun _ => ?_) (fun c => absurd c (by decide))
  refine lv_ldc2 (v := 33270329311771184) hx hb hown (hts (.constantLong RL 121 (33270329311771184)) (List.mem_of_getElem? (i := 13) rfl)) dL_texts_148 ?_
  refine lv_lconst (v := 0) hx hb dL_texts_151 (by decide) ?_
  refine g_callC (As := [.long 33270329311771184, .long 0]) (c_L_readOf l G z 33270329311771184 0) hx hb hml hown hts hK hAO hZ hP hD hS hA gL_texts_L_readOf rfl (n := 2) (by decide +kernel) rfl ⟨Nat.le_of_ble_eq_true rfl, Nat.le_of_ble_eq_true rfl⟩ hl.1 rfl (Nat.le_of_ble_eq_true rfl) ⟨Nat.le_of_ble_eq_true rfl, Nat.le_of_ble_eq_true rfl⟩ dL_texts_152 (fun H locs hP hS => ?_)
  refine g_topE tx_13 ?_
  refine lv_iconst (v := 1) hx hb dL_texts_155 (by decide) ?_
  refine lv_icmp_ne (tgt := 291) hx hb dL_texts_156 (by decide) (fun c => absurd c (by decide)) (fun _ => ?_)
  refine lv_ldc2 (v := 8517204303813423664) hx hb hown (hts (.constantLong RL 123 (8517204303813423664)) (List.mem_of_getElem? (i := 14) rfl)) dL_texts_159 ?_
  refine lv_ldc2 (v := 12337) hx hb hown (hts (.constantLong RL 125 (12337)) (List.mem_of_getElem? (i := 15) rfl)) dL_texts_162 ?_
  refine g_callC (As := [.long 8517204303813423664, .long 12337]) (c_L_readOf l G z 8517204303813423664 12337) hx hb hml hown hts hK hAO hZ hP hD hS hA gL_texts_L_readOf rfl (n := 2) (by decide +kernel) rfl ⟨Nat.le_of_ble_eq_true rfl, Nat.le_of_ble_eq_true rfl⟩ hl.1 rfl (Nat.le_of_ble_eq_true rfl) ⟨Nat.le_of_ble_eq_true rfl, Nat.le_of_ble_eq_true rfl⟩ dL_texts_165 (fun H locs hP hS => ?_)
  refine g_topE tx_14 ?_
  refine lv_bipush (v := (-2)) hx hb dL_texts_168 (by decide) ?_
  refine lv_icmp_ne (tgt := 291) hx hb dL_texts_170 (by decide) (fun c => absurd c (by decide)) (fun _ => ?_)
  refine lv_ldc2 (v := 29232) hx hb hown (hts (.constantLong RL 127 (29232)) (List.mem_of_getElem? (i := 16) rfl)) dL_texts_173 ?_
  refine lv_lconst (v := 0) hx hb dL_texts_176 (by decide) ?_
  refine g_callC (As := [.long 29232, .long 0]) (c_L_readOf l G z 29232 0) hx hb hml hown hts hK hAO hZ hP hD hS hA gL_texts_L_readOf rfl (n := 2) (by decide +kernel) rfl ⟨Nat.le_of_ble_eq_true rfl, Nat.le_of_ble_eq_true rfl⟩ hl.1 rfl (Nat.le_of_ble_eq_true rfl) ⟨Nat.le_of_ble_eq_true rfl, Nat.le_of_ble_eq_true rfl⟩ dL_texts_177 (fun H locs hP hS => ?_)
  refine g_topE tx_15 ?_
  refine lv_bipush (v := (-2)) hx hb dL_texts_180 (by decide) ?_
  refine lv_icmp_ne (tgt := 291) hx hb dL_texts_182 (by decide) (fun c => absurd c (by decide)) (fun _ => ?_)
  refine lv_ldc2 (v := 1916352825) hx hb hown (hts (.constantLong RL 129 (1916352825)) (List.mem_of_getElem? (i := 17) rfl)) dL_texts_185 ?_
  refine lv_lconst (v := 0) hx hb dL_texts_188 (by decide) ?_
  refine g_callC (As := [.long 1916352825, .long 0]) (c_L_readOf l G z 1916352825 0) hx hb hml hown hts hK hAO hZ hP hD hS hA gL_texts_L_readOf rfl (n := 2) (by decide +kernel) rfl ⟨Nat.le_of_ble_eq_true rfl, Nat.le_of_ble_eq_true rfl⟩ hl.1 rfl (Nat.le_of_ble_eq_true rfl) ⟨Nat.le_of_ble_eq_true rfl, Nat.le_of_ble_eq_true rfl⟩ dL_texts_189 (fun H locs hP hS => ?_)
  refine g_topE tx_16 ?_
  refine lv_iconst (v := 1) hx hb dL_texts_192 (by decide) ?_
  refine lv_icmp_ne (tgt := 291) hx hb dL_texts_193 (by decide) (fun c => absurd c (by decide)) (fun _ => ?_)
  refine lv_ldc2 (v := 490451513392) hx hb hown (hts (.constantLong RL 131 (490451513392)) (List.mem_of_getElem? (i := 18) rfl)) dL_texts_196 ?_
  refine lv_lconst (v := 0) hx hb dL_texts_199 (by decide) ?_
  refine g_callC (As := [.long 490451513392, .long 0]) (c_L_readOf l G z 490451513392 0) hx hb hml hown hts hK hAO hZ hP hD hS hA gL_texts_L_readOf rfl (n := 2) (by decide +kernel) rfl ⟨Nat.le_of_ble_eq_true rfl, Nat.le_of_ble_eq_true rfl⟩ hl.1 rfl (Nat.le_of_ble_eq_true rfl) ⟨Nat.le_of_ble_eq_true rfl, Nat.le_of_ble_eq_true rfl⟩ dL_texts_200 (fun H locs hP hS => ?_)
  refine g_topE tx_17 ?_
  refine lv_bipush (v := (-2)) hx hb dL_texts_203 (by decide) ?_
  refine lv_icmp_ne (tgt := 291) hx hb dL_texts_205 (by decide) (fun c => absurd c (by decide)) (fun _ => ?_)
  refine lv_ldc2 (v := 125555587428400) hx hb hown (hts (.constantLong RL 133 (125555587428400)) (List.mem_of_getElem? (i := 19) rfl)) dL_texts_208 ?_
  refine lv_lconst (v := 0) hx hb dL_texts_211 (by decide) ?_
  refine g_callC (As := [.long 125555587428400, .long 0]) (c_L_readOf l G z 125555587428400 0) hx hb hml hown hts hK hAO hZ hP hD hS hA gL_texts_L_readOf rfl (n := 2) (by decide +kernel) rfl ⟨Nat.le_of_ble_eq_true rfl, Nat.le_of_ble_eq_true rfl⟩ hl.1 rfl (Nat.le_of_ble_eq_true rfl) ⟨Nat.le_of_ble_eq_true rfl, Nat.le_of_ble_eq_true rfl⟩ dL_texts_212 (fun H locs hP hS => ?_)
  refine g_topE tx_18 ?_
  refine lv_bipush (v := (-105)) hx hb dL_texts_215 (by decide) ?_
  refine lv_icmp_ne (tgt := 291) hx hb dL_texts_217 (by decide) (fun c => absurd c (by decide)) (fun _ => ?_)
  refine lv_ldc2 (v := 7483441) hx hb hown (hts (.constantLong RL 135 (7483441)) (List.mem_of_getElem? (i := 20) rfl)) dL_texts_220 ?_
  refine lv_lconst (v := 0) hx hb dL_texts_223 (by decide) ?_
  refine g_callC (As := [.long 7483441, .long 0]) (c_L_readOf l G z 7483441 0) hx hb hml hown hts hK hAO hZ hP hD hS hA gL_texts_L_readOf rfl (n := 2) (by decide +kernel) rfl ⟨Nat.le_of_ble_eq_true rfl, Nat.le_of_ble_eq_true rfl⟩ hl.1 rfl (Nat.le_of_ble_eq_true rfl) ⟨Nat.le_of_ble_eq_true rfl, Nat.le_of_ble_eq_true rfl⟩ dL_texts_224 (fun H locs hP hS => ?_)
  refine g_topE tx_19 ?_
  refine lv_bipush (v := (-102)) hx hb dL_texts_227 (by decide) ?_
  refine lv_icmp_ne (tgt := 291) hx hb dL_texts_229 (by decide) (fun c => absurd c (by decide)) (fun _ => ?_)
  refine lv_ldc2 (v := 32142226103480368) hx hb hown (hts (.constantLong RL 137 (32142226103480368)) (List.mem_of_getElem? (i := 21) rfl)) dL_texts_232 ?_
  refine lv_lconst (v := 0) hx hb dL_texts_235 (by decide) ?_
  refine g_callC (As := [.long 32142226103480368, .long 0]) (c_L_readOf l G z 32142226103480368 0) hx hb hml hown hts hK hAO hZ hP hD hS hA gL_texts_L_readOf rfl (n := 2) (by decide +kernel) rfl ⟨Nat.le_of_ble_eq_true rfl, Nat.le_of_ble_eq_true rfl⟩ hl.1 rfl (Nat.le_of_ble_eq_true rfl) ⟨Nat.le_of_ble_eq_true rfl, Nat.le_of_ble_eq_true rfl⟩ dL_texts_236 (fun H locs hP hS => ?_)
  refine g_topE tx_20 ?_
  refine lv_bipush (v := (-2)) hx hb dL_texts_239 (by decide) ?_
  refine lv_icmp_ne (tgt := 291) hx hb dL_texts_241 (by decide) (fun c => absurd c (by decide)) (fun _ => ?_)
  refine lv_ldc2 (v := 125555571243321) hx hb hown (hts (.constantLong RL 139 (125555571243321)) (List.mem_of_getElem? (i := 22) rfl)) dL_texts_244 ?_
  refine lv_lconst (v := 0) hx hb dL_texts_247 (by decide) ?_
  refine g_callC (As := [.long 125555571243321, .long 0]) (c_L_readOf l G z 125555571243321 0) hx hb hml hown hts hK hAO hZ hP hD hS hA gL_texts_L_readOf rfl (n := 2) (by decide +kernel) rfl ⟨Nat.le_of_ble_eq_true rfl, Nat.le_of_ble_eq_true rfl⟩ hl.1 rfl (Nat.le_of_ble_eq_true rfl) ⟨Nat.le_of_ble_eq_true rfl, Nat.le_of_ble_eq_true rfl⟩ dL_texts_248 (fun H locs hP hS => ?_)
  refine g_topE tx_21 ?_
  refine lv_iconst (v := 1) hx hb dL_texts_251 (by decide) ?_
  refine lv_icmp_ne (tgt := 291) hx hb dL_texts_252 (by decide) (fun c => absurd c (by decide)) (fun _ => ?_)
  refine lv_ldc2 (v := 120) hx hb hown (hts (.constantLong RL 141 (120)) (List.mem_of_getElem? (i := 23) rfl)) dL_texts_255 ?_
  refine lv_lconst (v := 0) hx hb dL_texts_258 (by decide) ?_
  refine g_callC (As := [.long 120, .long 0]) (c_L_readOf l G z 120 0) hx hb hml hown hts hK hAO hZ hP hD hS hA gL_texts_L_readOf rfl (n := 2) (by decide +kernel) rfl ⟨Nat.le_of_ble_eq_true rfl, Nat.le_of_ble_eq_true rfl⟩ hl.1 rfl (Nat.le_of_ble_eq_true rfl) ⟨Nat.le_of_ble_eq_true rfl, Nat.le_of_ble_eq_true rfl⟩ dL_texts_259 (fun H locs hP hS => ?_)
  refine g_topE tx_22 ?_
  refine lv_bipush (v := (-100)) hx hb dL_texts_262 (by decide) ?_
  refine lv_icmp_ne (tgt := 291) hx hb dL_texts_264 (by decide) (fun c => absurd c (by decide)) (fun _ => ?_)
  refine lv_ldc2 (v := 7483707) hx hb hown (hts (.constantLong RL 143 (7483707)) (List.mem_of_getElem? (i := 24) rfl)) dL_texts_267 ?_
  refine lv_lconst (v := 0) hx hb dL_texts_270 (by decide) ?_
  refine g_callC (As := [.long 7483707, .long 0]) (c_L_readOf l G z 7483707 0) hx hb hml hown hts hK hAO hZ hP hD hS hA gL_texts_L_readOf rfl (n := 2) (by decide +kernel) rfl ⟨Nat.le_of_ble_eq_true rfl, Nat.le_of_ble_eq_true rfl⟩ hl.1 rfl (Nat.le_of_ble_eq_true rfl) ⟨Nat.le_of_ble_eq_true rfl, Nat.le_of_ble_eq_true rfl⟩ dL_texts_271 (fun H locs hP hS => ?_)
  refine g_topE tx_23 ?_
  refine lv_bipush (v := (-103)) hx hb dL_texts_274 (by decide) ?_
  refine lv_icmp_ne (tgt := 291) hx hb dL_texts_276 (by decide) (fun c => absurd c (by decide)) (fun _ => ?_)
  refine lv_ldc2 (v := 1915829051) hx hb hown (hts (.constantLong RL 145 (1915829051)) (List.mem_of_getElem? (i := 25) rfl)) dL_texts_279 ?_
  refine lv_lconst (v := 0) hx hb dL_texts_282 (by decide) ?_
  refine g_callC (As := [.long 1915829051, .long 0]) (c_L_readOf l G z 1915829051 0) hx hb hml hown hts hK hAO hZ hP hD hS hA gL_texts_L_readOf rfl (n := 2) (by decide +kernel) rfl ⟨Nat.le_of_ble_eq_true rfl, Nat.le_of_ble_eq_true rfl⟩ hl.1 rfl (Nat.le_of_ble_eq_true rfl) ⟨Nat.le_of_ble_eq_true rfl, Nat.le_of_ble_eq_true rfl⟩ dL_texts_283 (fun H locs hP hS => ?_)
  refine g_topE tx_24 ?_
  refine lv_bipush (v := (-103)) hx hb dL_texts_286 (by decide) ?_
  refine lv_icmp_eq (tgt := 293) hx hb dL_texts_288 (by decide) (fun _ => ?_) (fun c => absurd c (by decide))
  refine lv_ldc2 (v := 8228423355820896817) hx hb hown (hts (.constantLong RL 147 (8228423355820896817)) (List.mem_of_getElem? (i := 26) rfl)) dL_texts_293 ?_
  refine lv_ldc2 (v := 65361638289969) hx hb hown (hts (.constantLong RL 149 (65361638289969)) (List.mem_of_getElem? (i := 27) rfl)) dL_texts_296 ?_
  refine g_callC (As := [.long 8228423355820896817, .long 65361638289969]) (c_L_readOf l G z 8228423355820896817 65361638289969) hx hb hml hown hts hK hAO hZ hP hD hS hA gL_texts_L_readOf rfl (n := 2) (by decide +kernel) rfl ⟨Nat.le_of_ble_eq_true rfl, Nat.le_of_ble_eq_true rfl⟩ hl.1 rfl (Nat.le_of_ble_eq_true rfl) ⟨Nat.le_of_ble_eq_true rfl, Nat.le_of_ble_eq_true rfl⟩ dL_texts_299 (fun H locs hP hS => ?_)
  refine g_topE tx_25 ?_
  refine lv_iconst (v := 5) hx hb dL_texts_302 (by decide) ?_
  refine lv_icmp_ne (tgt := 348) hx hb dL_texts_303 (by decide) (fun c => absurd c (by decide)) (fun _ => ?_)
  refine lv_ldc2 (v := 8228423355820896817) hx hb hown (hts (.constantLong RL 147 (8228423355820896817)) (List.mem_of_getElem? (i := 26) rfl)) dL_texts_306 ?_
  refine lv_ldc2 (v := 16732579402232123) hx hb hown (hts (.constantLong RL 151 (16732579402232123)) (List.mem_of_getElem? (i := 28) rfl)) dL_texts_309 ?_
  refine g_callC (As := [.long 8228423355820896817, .long 16732579402232123]) (c_L_readOf l G z 8228423355820896817 16732579402232123) hx hb hml hown hts hK hAO hZ hP hD hS hA gL_texts_L_readOf rfl (n := 2) (by decide +kernel) rfl ⟨Nat.le_of_ble_eq_true rfl, Nat.le_of_ble_eq_true rfl⟩ hl.1 rfl (Nat.le_of_ble_eq_true rfl) ⟨Nat.le_of_ble_eq_true rfl, Nat.le_of_ble_eq_true rfl⟩ dL_texts_312 (fun H locs hP hS => ?_)
  refine g_topE tx_26 ?_
  refine lv_bipush (v := (-114)) hx hb dL_texts_315 (by decide) ?_
  refine lv_icmp_ne (tgt := 348) hx hb dL_texts_317 (by decide) (fun c => absurd c (by decide)) (fun _ => ?_)
  refine lv_ldc2 (v := 1915828789) hx hb hown (hts (.constantLong RL 153 (1915828789)) (List.mem_of_getElem? (i := 29) rfl)) dL_texts_320 ?_
  refine lv_lconst (v := 0) hx hb dL_texts_323 (by decide) ?_
  refine g_callC (As := [.long 1915828789, .long 0]) (c_L_readOf l G z 1915828789 0) hx hb hml hown hts hK hAO hZ hP hD hS hA gL_texts_L_readOf rfl (n := 2) (by decide +kernel) rfl ⟨Nat.le_of_ble_eq_true rfl, Nat.le_of_ble_eq_true rfl⟩ hl.1 rfl (Nat.le_of_ble_eq_true rfl) ⟨Nat.le_of_ble_eq_true rfl, Nat.le_of_ble_eq_true rfl⟩ dL_texts_324 (fun H locs hP hS => ?_)
  refine g_topE tx_27 ?_
  refine lv_bipush (v := (-102)) hx hb dL_texts_327 (by decide) ?_
  refine lv_icmp_ne (tgt := 348) hx hb dL_texts_329 (by decide) (fun c => absurd c (by decide)) (fun _ => ?_)
  refine lv_ldc2 (v := 507664937008) hx hb hown (hts (.constantLong RL 155 (507664937008)) (List.mem_of_getElem? (i := 30) rfl)) dL_texts_332 ?_
  refine lv_lconst (v := 0) hx hb dL_texts_335 (by decide) ?_
  refine g_callC (As := [.long 507664937008, .long 0]) (c_L_readOf l G z 507664937008 0) hx hb hml hown hts hK hAO hZ hP hD hS hA gL_texts_L_readOf rfl (n := 2) (by decide +kernel) rfl ⟨Nat.le_of_ble_eq_true rfl, Nat.le_of_ble_eq_true rfl⟩ hl.1 rfl (Nat.le_of_ble_eq_true rfl) ⟨Nat.le_of_ble_eq_true rfl, Nat.le_of_ble_eq_true rfl⟩ dL_texts_336 (fun H locs hP hS => ?_)
  refine g_topE tx_28 ?_
  refine lv_bipush (v := (-105)) hx hb dL_texts_339 (by decide) ?_
  refine lv_icmp_ne (tgt := 348) hx hb dL_texts_341 (by decide) (fun c => absurd c (by decide)) (fun _ => ?_)
  refine lv_iconst (v := 1) hx hb dL_texts_344 (by decide) ?_
  refine lv_goto (tgt := 349) hx hb dL_texts_345 (by decide) ?_
  refine W.widen (k := 4004) (n := 28504) (Nat.le_of_ble_eq_true rfl) (Nat.le_of_ble_eq_true rfl) ?_
  exact g_retN hx hb hr hlocks hS rfl dL_texts_349
