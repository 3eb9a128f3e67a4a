section
/-! ===== the constructors ===== -/
def s0 : St := fun k i => bif Nat.beq k 0 && Nat.beq i 8 then nI 4 else bif Nat.beq k 22 && Nat.beq i 4 then nI 1 else bif Nat.beq k 33 && Nat.beq i 5 then nI 4 else bif Nat.beq k 33 && Nat.beq i 29 then -1 else 0
theorem wAI : Cond.arrayClass .int ∈ lw_big := big_1 (i := 33) rfl rfl
theorem wAZ : Cond.arrayClass .boolean ∈ lw_big := big_1 (i := 76) rfl rfl
theorem wO2 : Cond.instanceMethod objectInit ∈ lw_big := big_1 (i := 17) rfl rfl
theorem wO3 : Cond.code objectInit ⟨#[0xb1]⟩ 1 none ∈ lw_big := big_1 (i := 18) rfl rfl
theorem dfX3 : ∀ j, j < 2 → defaultValue (tyX3 j) = vp_V [.null, .null] j := by
  intro j hj
  rcases (show j = 0 ∨ j = 1 by omega) with rfl | rfl <;> rfl
theorem wiX3 : Cond.instanceMethod yX3_init ∈ lw_big := big_1 (i := 22) rfl rfl
set_option maxRecDepth 100000 in
set_option maxHeartbeats 4000000 in
theorem ci_X3 (D : va_G) (C : ClassId × ClassId) : CI D C yX3_init cX3_init 1 12 2 584 3 [.null, .null] (fun h0 w => ∃ u : Nat → Nat, w = [(h0, .inr (3, [.ref (u 0), .ref (u 1)])), (u 0, .inl (C.1, 8, .inl (fun _ => 0))), (u 1, .inl (C.1, 576, .inl (fun _ => 0)))]) := by
  refine CI.of rfl rfl (fun h0 => ?_)
  refine rc_aload (q := 1) 0 dX3_init_0 rfl rfl ?_
  refine rc_obj (q := 4) (big_1 (i := 24) rfl rfl) wO2 wO3 dX3_init_1 rfl (by decide) (by decide) ?_
  refine rc_aload (q := 5) 0 dX3_init_4 rfl rfl ?_
  refine rc_bipush (q := 7) (v := nI 8) dX3_init_5 rfl (by decide) ?_
  refine rc_mkI (q := 9) (N := 8) dX3_init_7 rfl (by decide) wAI (Nat.le_of_ble_eq_true rfl) (Nat.le_of_ble_eq_true rfl) (fun x7 => ?_)
  refine rc_putF (q := 12) (fs' := [.ref x7, .null]) fX3_9 (fun r h => by cases h; rfl) ⟨rfl, rfl⟩ dX3_init_9 rfl rfl rfl ?_
  refine rc_aload (q := 13) 0 dX3_init_12 rfl rfl ?_
  refine rc_sipush (q := 16) (v := nI 576) dX3_init_13 rfl (by decide) ?_
  refine rc_mkI (q := 18) (N := 576) dX3_init_16 rfl (by decide) wAI (Nat.le_of_ble_eq_true rfl) (Nat.le_of_ble_eq_true rfl) (fun x16 => ?_)
  refine rc_putF (q := 21) (fs' := [.ref x7, .ref x16]) fX3_15 (fun r h => by cases h; rfl) ⟨rfl, rfl⟩ dX3_init_18 rfl rfl rfl ?_
  refine rc_ret dX3_init_21 rfl rfl ⟨fun k => [x7, x16].getD k 0, ?_⟩
  simp only [List.nil_append, List.cons_append]
  rfl
theorem dfX1 : ∀ j, j < 8 → defaultValue (tyX1 j) = vp_V [.int 0, .null, .null, .null, .null, .null, .null, .null] j := by
  intro j hj
  rcases (show j = 0 ∨ j = 1 ∨ j = 2 ∨ j = 3 ∨ j = 4 ∨ j = 5 ∨ j = 6 ∨ j = 7 by omega) with rfl | rfl | rfl | rfl | rfl | rfl | rfl | rfl <;> rfl
theorem wiX1 : Cond.instanceMethod yX1_init ∈ lw_big := big_1 (i := 37) rfl rfl
set_option maxRecDepth 100000 in
set_option maxHeartbeats 4000000 in
theorem ci_X1 (D : va_G) (C : ClassId × ClassId) : CI D C yX1_init cX1_init 1 12 7 720 1 [.int 0, .null, .null, .null, .null, .null, .null, .null] (fun h0 w => ∃ u : Nat → Nat, w = [(h0, .inr (1, [.int (0), .ref (u 0), .ref (u 1), .ref (u 2), .ref (u 3), .ref (u 4), .ref (u 5), .ref (u 6)])), (u 0, .inl (C.1, 40, .inl (fun _ => 0))), (u 1, .inl (C.1, 120, .inl (fun _ => 0))), (u 2, .inl (C.1, 120, .inl (fun _ => 0))), (u 3, .inl (C.1, 40, .inl (fun _ => 0))), (u 4, .inl (C.1, 320, .inl (fun _ => 0))), (u 5, .inl (C.2, 40, .inl (fun _ => 0))), (u 6, .inl (C.2, 40, .inl (fun _ => 0)))]) := by
  refine CI.of rfl rfl (fun h0 => ?_)
  refine rc_aload (q := 1) 0 dX1_init_0 rfl rfl ?_
  refine rc_obj (q := 4) (big_1 (i := 39) rfl rfl) wO2 wO3 dX1_init_1 rfl (by decide) (by decide) ?_
  refine rc_aload (q := 5) 0 dX1_init_4 rfl rfl ?_
  refine rc_iconst (q := 6) (v := nI 0) dX1_init_5 rfl (by decide) ?_
  refine rc_putI (q := 9) (fs' := [.int (nI 0), .null, .null, .null, .null, .null, .null, .null]) fX1_9 dX1_init_6 rfl rfl rfl ?_
  refine rc_aload (q := 10) 0 dX1_init_9 rfl rfl ?_
  refine rc_bipush (q := 12) (v := nI 40) dX1_init_10 rfl (by decide) ?_
  refine rc_mkI (q := 14) (N := 40) dX1_init_12 rfl (by decide) wAI (Nat.le_of_ble_eq_true rfl) (Nat.le_of_ble_eq_true rfl) (fun x12 => ?_)
  refine rc_putF (q := 17) (fs' := [.int (nI 0), .ref x12, .null, .null, .null, .null, .null, .null]) fX1_15 (fun r h => by cases h; rfl) ⟨rfl, rfl⟩ dX1_init_14 rfl rfl rfl ?_
  refine rc_aload (q := 18) 0 dX1_init_17 rfl rfl ?_
  refine rc_bipush (q := 20) (v := nI 120) dX1_init_18 rfl (by decide) ?_
  refine rc_mkI (q := 22) (N := 120) dX1_init_20 rfl (by decide) wAI (Nat.le_of_ble_eq_true rfl) (Nat.le_of_ble_eq_true rfl) (fun x20 => ?_)
  refine rc_putF (q := 25) (fs' := [.int (nI 0), .ref x12, .ref x20, .null, .null, .null, .null, .null]) fX1_19 (fun r h => by cases h; rfl) ⟨rfl, rfl⟩ dX1_init_22 rfl rfl rfl ?_
  refine rc_aload (q := 26) 0 dX1_init_25 rfl rfl ?_
  refine rc_bipush (q := 28) (v := nI 120) dX1_init_26 rfl (by decide) ?_
  refine rc_mkI (q := 30) (N := 120) dX1_init_28 rfl (by decide) wAI (Nat.le_of_ble_eq_true rfl) (Nat.le_of_ble_eq_true rfl) (fun x28 => ?_)
  refine rc_putF (q := 33) (fs' := [.int (nI 0), .ref x12, .ref x20, .ref x28, .null, .null, .null, .null]) fX1_22 (fun r h => by cases h; rfl) ⟨rfl, rfl⟩ dX1_init_30 rfl rfl rfl ?_
  refine rc_aload (q := 34) 0 dX1_init_33 rfl rfl ?_
  refine rc_bipush (q := 36) (v := nI 40) dX1_init_34 rfl (by decide) ?_
  refine rc_mkI (q := 38) (N := 40) dX1_init_36 rfl (by decide) wAI (Nat.le_of_ble_eq_true rfl) (Nat.le_of_ble_eq_true rfl) (fun x36 => ?_)
  refine rc_putF (q := 41) (fs' := [.int (nI 0), .ref x12, .ref x20, .ref x28, .ref x36, .null, .null, .null]) fX1_25 (fun r h => by cases h; rfl) ⟨rfl, rfl⟩ dX1_init_38 rfl rfl rfl ?_
  refine rc_aload (q := 42) 0 dX1_init_41 rfl rfl ?_
  refine rc_sipush (q := 45) (v := nI 320) dX1_init_42 rfl (by decide) ?_
  refine rc_mkI (q := 47) (N := 320) dX1_init_45 rfl (by decide) wAI (Nat.le_of_ble_eq_true rfl) (Nat.le_of_ble_eq_true rfl) (fun x45 => ?_)
  refine rc_putF (q := 50) (fs' := [.int (nI 0), .ref x12, .ref x20, .ref x28, .ref x36, .ref x45, .null, .null]) fX1_28 (fun r h => by cases h; rfl) ⟨rfl, rfl⟩ dX1_init_47 rfl rfl rfl ?_
  refine rc_aload (q := 51) 0 dX1_init_50 rfl rfl ?_
  refine rc_bipush (q := 53) (v := nI 40) dX1_init_51 rfl (by decide) ?_
  refine rc_mkZ (q := 55) (N := 40) dX1_init_53 rfl (by decide) wAZ (Nat.le_of_ble_eq_true rfl) (Nat.le_of_ble_eq_true rfl) (fun x53 => ?_)
  refine rc_putF (q := 58) (fs' := [.int (nI 0), .ref x12, .ref x20, .ref x28, .ref x36, .ref x45, .ref x53, .null]) fX1_31 (fun r h => by cases h; rfl) ⟨rfl, rfl⟩ dX1_init_55 rfl rfl rfl ?_
  refine rc_aload (q := 59) 0 dX1_init_58 rfl rfl ?_
  refine rc_bipush (q := 61) (v := nI 40) dX1_init_59 rfl (by decide) ?_
  refine rc_mkZ (q := 63) (N := 40) dX1_init_61 rfl (by decide) wAZ (Nat.le_of_ble_eq_true rfl) (Nat.le_of_ble_eq_true rfl) (fun x61 => ?_)
  refine rc_putF (q := 66) (fs' := [.int (nI 0), .ref x12, .ref x20, .ref x28, .ref x36, .ref x45, .ref x53, .ref x61]) fX1_35 (fun r h => by cases h; rfl) ⟨rfl, rfl⟩ dX1_init_63 rfl rfl rfl ?_
  refine rc_ret dX1_init_66 rfl rfl ⟨fun k => [x12, x20, x28, x36, x45, x53, x61].getD k 0, ?_⟩
  simp only [List.nil_append, List.cons_append]
  rfl
theorem dfX4 : ∀ j, j < 10 → defaultValue (tyX4 j) = vp_V [.int 0, .null, .null, .null, .null, .null, .null, .null, .null, .null] j := by
  intro j hj
  rcases (show j = 0 ∨ j = 1 ∨ j = 2 ∨ j = 3 ∨ j = 4 ∨ j = 5 ∨ j = 6 ∨ j = 7 ∨ j = 8 ∨ j = 9 by omega) with rfl | rfl | rfl | rfl | rfl | rfl | rfl | rfl | rfl | rfl <;> rfl
theorem wiX4 : Cond.instanceMethod yX4_init ∈ lw_big := big_1 (i := 80) rfl rfl
set_option maxRecDepth 100000 in
set_option maxHeartbeats 4000000 in
theorem ci_X4 (D : va_G) (C : ClassId × ClassId) : CI D C yX4_init cX4_init 1 12 9 180 4 [.int 0, .null, .null, .null, .null, .null, .null, .null, .null, .null] (fun h0 w => ∃ u : Nat → Nat, w = [(h0, .inr (4, [.int (0), .ref (u 0), .ref (u 1), .ref (u 2), .ref (u 3), .ref (u 4), .ref (u 5), .ref (u 6), .ref (u 7), .ref (u 8)])), (u 0, .inl (C.1, 20, .inl (fun _ => 0))), (u 1, .inl (C.1, 20, .inl (fun _ => 0))), (u 2, .inl (C.1, 20, .inl (fun _ => 0))), (u 3, .inl (C.1, 20, .inl (fun _ => 0))), (u 4, .inl (C.1, 20, .inl (fun _ => 0))), (u 5, .inl (C.1, 20, .inl (fun _ => 0))), (u 6, .inl (C.1, 20, .inl (fun _ => 0))), (u 7, .inl (C.1, 20, .inl (fun _ => 0))), (u 8, .inl (C.2, 20, .inl (fun _ => 0)))]) := by
  refine CI.of rfl rfl (fun h0 => ?_)
  refine rc_aload (q := 1) 0 dX4_init_0 rfl rfl ?_
  refine rc_obj (q := 4) (big_1 (i := 82) rfl rfl) wO2 wO3 dX4_init_1 rfl (by decide) (by decide) ?_
  refine rc_aload (q := 5) 0 dX4_init_4 rfl rfl ?_
  refine rc_iconst (q := 6) (v := nI 0) dX4_init_5 rfl (by decide) ?_
  refine rc_putI (q := 9) (fs' := [.int (nI 0), .null, .null, .null, .null, .null, .null, .null, .null, .null]) fX4_9 dX4_init_6 rfl rfl rfl ?_
  refine rc_aload (q := 10) 0 dX4_init_9 rfl rfl ?_
  refine rc_bipush (q := 12) (v := nI 20) dX4_init_10 rfl (by decide) ?_
  refine rc_mkI (q := 14) (N := 20) dX4_init_12 rfl (by decide) wAI (Nat.le_of_ble_eq_true rfl) (Nat.le_of_ble_eq_true rfl) (fun x12 => ?_)
  refine rc_putF (q := 17) (fs' := [.int (nI 0), .ref x12, .null, .null, .null, .null, .null, .null, .null, .null]) fX4_15 (fun r h => by cases h; rfl) ⟨rfl, rfl⟩ dX4_init_14 rfl rfl rfl ?_
  refine rc_aload (q := 18) 0 dX4_init_17 rfl rfl ?_
  refine rc_bipush (q := 20) (v := nI 20) dX4_init_18 rfl (by decide) ?_
  refine rc_mkI (q := 22) (N := 20) dX4_init_20 rfl (by decide) wAI (Nat.le_of_ble_eq_true rfl) (Nat.le_of_ble_eq_true rfl) (fun x20 => ?_)
  refine rc_putF (q := 25) (fs' := [.int (nI 0), .ref x12, .ref x20, .null, .null, .null, .null, .null, .null, .null]) fX4_19 (fun r h => by cases h; rfl) ⟨rfl, rfl⟩ dX4_init_22 rfl rfl rfl ?_
  refine rc_aload (q := 26) 0 dX4_init_25 rfl rfl ?_
  refine rc_bipush (q := 28) (v := nI 20) dX4_init_26 rfl (by decide) ?_
  refine rc_mkI (q := 30) (N := 20) dX4_init_28 rfl (by decide) wAI (Nat.le_of_ble_eq_true rfl) (Nat.le_of_ble_eq_true rfl) (fun x28 => ?_)
  refine rc_putF (q := 33) (fs' := [.int (nI 0), .ref x12, .ref x20, .ref x28, .null, .null, .null, .null, .null, .null]) fX4_22 (fun r h => by cases h; rfl) ⟨rfl, rfl⟩ dX4_init_30 rfl rfl rfl ?_
  refine rc_aload (q := 34) 0 dX4_init_33 rfl rfl ?_
  refine rc_bipush (q := 36) (v := nI 20) dX4_init_34 rfl (by decide) ?_
  refine rc_mkI (q := 38) (N := 20) dX4_init_36 rfl (by decide) wAI (Nat.le_of_ble_eq_true rfl) (Nat.le_of_ble_eq_true rfl) (fun x36 => ?_)
  refine rc_putF (q := 41) (fs' := [.int (nI 0), .ref x12, .ref x20, .ref x28, .ref x36, .null, .null, .null, .null, .null]) fX4_25 (fun r h => by cases h; rfl) ⟨rfl, rfl⟩ dX4_init_38 rfl rfl rfl ?_
  refine rc_aload (q := 42) 0 dX4_init_41 rfl rfl ?_
  refine rc_bipush (q := 44) (v := nI 20) dX4_init_42 rfl (by decide) ?_
  refine rc_mkI (q := 46) (N := 20) dX4_init_44 rfl (by decide) wAI (Nat.le_of_ble_eq_true rfl) (Nat.le_of_ble_eq_true rfl) (fun x44 => ?_)
  refine rc_putF (q := 49) (fs' := [.int (nI 0), .ref x12, .ref x20, .ref x28, .ref x36, .ref x44, .null, .null, .null, .null]) fX4_28 (fun r h => by cases h; rfl) ⟨rfl, rfl⟩ dX4_init_46 rfl rfl rfl ?_
  refine rc_aload (q := 50) 0 dX4_init_49 rfl rfl ?_
  refine rc_bipush (q := 52) (v := nI 20) dX4_init_50 rfl (by decide) ?_
  refine rc_mkI (q := 54) (N := 20) dX4_init_52 rfl (by decide) wAI (Nat.le_of_ble_eq_true rfl) (Nat.le_of_ble_eq_true rfl) (fun x52 => ?_)
  refine rc_putF (q := 57) (fs' := [.int (nI 0), .ref x12, .ref x20, .ref x28, .ref x36, .ref x44, .ref x52, .null, .null, .null]) fX4_31 (fun r h => by cases h; rfl) ⟨rfl, rfl⟩ dX4_init_54 rfl rfl rfl ?_
  refine rc_aload (q := 58) 0 dX4_init_57 rfl rfl ?_
  refine rc_bipush (q := 60) (v := nI 20) dX4_init_58 rfl (by decide) ?_
  refine rc_mkI (q := 62) (N := 20) dX4_init_60 rfl (by decide) wAI (Nat.le_of_ble_eq_true rfl) (Nat.le_of_ble_eq_true rfl) (fun x60 => ?_)
  refine rc_putF (q := 65) (fs' := [.int (nI 0), .ref x12, .ref x20, .ref x28, .ref x36, .ref x44, .ref x52, .ref x60, .null, .null]) fX4_34 (fun r h => by cases h; rfl) ⟨rfl, rfl⟩ dX4_init_62 rfl rfl rfl ?_
  refine rc_aload (q := 66) 0 dX4_init_65 rfl rfl ?_
  refine rc_bipush (q := 68) (v := nI 20) dX4_init_66 rfl (by decide) ?_
  refine rc_mkI (q := 70) (N := 20) dX4_init_68 rfl (by decide) wAI (Nat.le_of_ble_eq_true rfl) (Nat.le_of_ble_eq_true rfl) (fun x68 => ?_)
  refine rc_putF (q := 73) (fs' := [.int (nI 0), .ref x12, .ref x20, .ref x28, .ref x36, .ref x44, .ref x52, .ref x60, .ref x68, .null]) fX4_37 (fun r h => by cases h; rfl) ⟨rfl, rfl⟩ dX4_init_70 rfl rfl rfl ?_
  refine rc_aload (q := 74) 0 dX4_init_73 rfl rfl ?_
  refine rc_bipush (q := 76) (v := nI 20) dX4_init_74 rfl (by decide) ?_
  refine rc_mkZ (q := 78) (N := 20) dX4_init_76 rfl (by decide) wAZ (Nat.le_of_ble_eq_true rfl) (Nat.le_of_ble_eq_true rfl) (fun x76 => ?_)
  refine rc_putF (q := 81) (fs' := [.int (nI 0), .ref x12, .ref x20, .ref x28, .ref x36, .ref x44, .ref x52, .ref x60, .ref x68, .ref x76]) fX4_40 (fun r h => by cases h; rfl) ⟨rfl, rfl⟩ dX4_init_78 rfl rfl rfl ?_
  refine rc_ret dX4_init_81 rfl rfl ⟨fun k => [x12, x20, x28, x36, x44, x52, x60, x68, x76].getD k 0, ?_⟩
  simp only [List.nil_append, List.cons_append]
  rfl
theorem dfX0 : ∀ j, j < 5 → defaultValue (tyX0 j) = vp_V [.null, .null, .null, .int 0, .int 0] j := by
  intro j hj
  rcases (show j = 0 ∨ j = 1 ∨ j = 2 ∨ j = 3 ∨ j = 4 by omega) with rfl | rfl | rfl | rfl | rfl <;> rfl
theorem wiX0 : Cond.instanceMethod yX0_init ∈ lw_big := big_1 (i := 121) rfl rfl
set_option maxRecDepth 100000 in
set_option maxHeartbeats 4000000 in
theorem ci_X0 (D : va_G) (C : ClassId × ClassId) : CI D C yX0_init cX0_init 1 12 3 9 0 [.null, .null, .null, .int 0, .int 0] (fun h0 w => ∃ u : Nat → Nat, w = [(h0, .inr (0, [.ref (u 0), .ref (u 1), .ref (u 2), .int (0), .int (nI 1)])), (u 0, .inl (C.1, 3, .inl (fun _ => 0))), (u 1, .inl (C.1, 3, .inl (fun _ => 0))), (u 2, .inl (C.1, 3, .inl (fun _ => 0)))]) := by
  refine CI.of rfl rfl (fun h0 => ?_)
  refine rc_aload (q := 1) 0 dX0_init_0 rfl rfl ?_
  refine rc_obj (q := 4) (big_1 (i := 123) rfl rfl) wO2 wO3 dX0_init_1 rfl (by decide) (by decide) ?_
  refine rc_aload (q := 5) 0 dX0_init_4 rfl rfl ?_
  refine rc_iconst (q := 6) (v := nI 3) dX0_init_5 rfl (by decide) ?_
  refine rc_mkI (q := 8) (N := 3) dX0_init_6 rfl (by decide) wAI (Nat.le_of_ble_eq_true rfl) (Nat.le_of_ble_eq_true rfl) (fun x6 => ?_)
  refine rc_putF (q := 11) (fs' := [.ref x6, .null, .null, .int 0, .int 0]) fX0_9 (fun r h => by cases h; rfl) ⟨rfl, rfl⟩ dX0_init_8 rfl rfl rfl ?_
  refine rc_aload (q := 12) 0 dX0_init_11 rfl rfl ?_
  refine rc_iconst (q := 13) (v := nI 3) dX0_init_12 rfl (by decide) ?_
  refine rc_mkI (q := 15) (N := 3) dX0_init_13 rfl (by decide) wAI (Nat.le_of_ble_eq_true rfl) (Nat.le_of_ble_eq_true rfl) (fun x13 => ?_)
  refine rc_putF (q := 18) (fs' := [.ref x6, .ref x13, .null, .int 0, .int 0]) fX0_15 (fun r h => by cases h; rfl) ⟨rfl, rfl⟩ dX0_init_15 rfl rfl rfl ?_
  refine rc_aload (q := 19) 0 dX0_init_18 rfl rfl ?_
  refine rc_iconst (q := 20) (v := nI 3) dX0_init_19 rfl (by decide) ?_
  refine rc_mkI (q := 22) (N := 3) dX0_init_20 rfl (by decide) wAI (Nat.le_of_ble_eq_true rfl) (Nat.le_of_ble_eq_true rfl) (fun x20 => ?_)
  refine rc_putF (q := 25) (fs' := [.ref x6, .ref x13, .ref x20, .int 0, .int 0]) fX0_18 (fun r h => by cases h; rfl) ⟨rfl, rfl⟩ dX0_init_22 rfl rfl rfl ?_
  refine rc_aload (q := 26) 0 dX0_init_25 rfl rfl ?_
  refine rc_iconst (q := 27) (v := nI 0) dX0_init_26 rfl (by decide) ?_
  refine rc_putI (q := 30) (fs' := [.ref x6, .ref x13, .ref x20, .int (nI 0), .int 0]) fX0_21 dX0_init_27 rfl rfl rfl ?_
  refine rc_aload (q := 31) 0 dX0_init_30 rfl rfl ?_
  refine rc_iconst (q := 32) (v := nI 1) dX0_init_31 rfl (by decide) ?_
  refine rc_putI (q := 35) (fs' := [.ref x6, .ref x13, .ref x20, .int (nI 0), .int (nI 1)]) fX0_25 dX0_init_32 rfl rfl rfl ?_
  refine rc_ret dX0_init_35 rfl rfl ⟨fun k => [x6, x13, x20].getD k 0, ?_⟩
  simp only [List.nil_append, List.cons_append]
  rfl
theorem dfX2 : ∀ j, j < 4 → defaultValue (tyX2 j) = vp_V [.int 0, .null, .null, .null] j := by
  intro j hj
  rcases (show j = 0 ∨ j = 1 ∨ j = 2 ∨ j = 3 by omega) with rfl | rfl | rfl | rfl <;> rfl
theorem wiX2 : Cond.instanceMethod yX2_init ∈ lw_big := big_1 (i := 147) rfl rfl
set_option maxRecDepth 100000 in
set_option maxHeartbeats 4000000 in
theorem ci_X2 (D : va_G) (C : ClassId × ClassId) : CI D C yX2_init cX2_init 1 12 3 120 2 [.int 0, .null, .null, .null] (fun h0 w => ∃ u : Nat → Nat, w = [(h0, .inr (2, [.int (0), .ref (u 0), .ref (u 1), .ref (u 2)])), (u 0, .inl (C.1, 40, .inl (fun _ => 0))), (u 1, .inl (C.1, 40, .inl (fun _ => 0))), (u 2, .inl (C.1, 40, .inl (fun _ => 0)))]) := by
  refine CI.of rfl rfl (fun h0 => ?_)
  refine rc_aload (q := 1) 0 dX2_init_0 rfl rfl ?_
  refine rc_obj (q := 4) (big_1 (i := 149) rfl rfl) wO2 wO3 dX2_init_1 rfl (by decide) (by decide) ?_
  refine rc_aload (q := 5) 0 dX2_init_4 rfl rfl ?_
  refine rc_iconst (q := 6) (v := nI 0) dX2_init_5 rfl (by decide) ?_
  refine rc_putI (q := 9) (fs' := [.int (nI 0), .null, .null, .null]) fX2_9 dX2_init_6 rfl rfl rfl ?_
  refine rc_aload (q := 10) 0 dX2_init_9 rfl rfl ?_
  refine rc_bipush (q := 12) (v := nI 40) dX2_init_10 rfl (by decide) ?_
  refine rc_mkI (q := 14) (N := 40) dX2_init_12 rfl (by decide) wAI (Nat.le_of_ble_eq_true rfl) (Nat.le_of_ble_eq_true rfl) (fun x12 => ?_)
  refine rc_putF (q := 17) (fs' := [.int (nI 0), .ref x12, .null, .null]) fX2_15 (fun r h => by cases h; rfl) ⟨rfl, rfl⟩ dX2_init_14 rfl rfl rfl ?_
  refine rc_aload (q := 18) 0 dX2_init_17 rfl rfl ?_
  refine rc_bipush (q := 20) (v := nI 40) dX2_init_18 rfl (by decide) ?_
  refine rc_mkI (q := 22) (N := 40) dX2_init_20 rfl (by decide) wAI (Nat.le_of_ble_eq_true rfl) (Nat.le_of_ble_eq_true rfl) (fun x20 => ?_)
  refine rc_putF (q := 25) (fs' := [.int (nI 0), .ref x12, .ref x20, .null]) fX2_19 (fun r h => by cases h; rfl) ⟨rfl, rfl⟩ dX2_init_22 rfl rfl rfl ?_
  refine rc_aload (q := 26) 0 dX2_init_25 rfl rfl ?_
  refine rc_bipush (q := 28) (v := nI 40) dX2_init_26 rfl (by decide) ?_
  refine rc_mkI (q := 30) (N := 40) dX2_init_28 rfl (by decide) wAI (Nat.le_of_ble_eq_true rfl) (Nat.le_of_ble_eq_true rfl) (fun x28 => ?_)
  refine rc_putF (q := 33) (fs' := [.int (nI 0), .ref x12, .ref x20, .ref x28]) fX2_22 (fun r h => by cases h; rfl) ⟨rfl, rfl⟩ dX2_init_30 rfl rfl rfl ?_
  refine rc_ret dX2_init_33 rfl rfl ⟨fun k => [x12, x20, x28].getD k 0, ?_⟩
  simp only [List.nil_append, List.cons_append]
  rfl
theorem dfX6 : ∀ j, j < 43 → defaultValue (tyX6 j) = vp_V [.null, .null, .null, .null, .null, .int 0, .int 0, .int 0, .null, .null, .null, .null, .null, .null, .null, .null, .null, .null, .null, .int 0, .null, .null, .null, .null, .null, .null, .null, .null, .null, .int 0, .int 0, .int 0, .int 0, .int 0, .int 0, .int 0, .int 0, .int 0, .int 0, .int 0, .int 0, .int 0, .null] j := by
  intro j hj
  rcases (show j = 0 ∨ j = 1 ∨ j = 2 ∨ j = 3 ∨ j = 4 ∨ j = 5 ∨ j = 6 ∨ j = 7 ∨ j = 8 ∨ j = 9 ∨ j = 10 ∨ j = 11 ∨ j = 12 ∨ j = 13 ∨ j = 14 ∨ j = 15 ∨ j = 16 ∨ j = 17 ∨ j = 18 ∨ j = 19 ∨ j = 20 ∨ j = 21 ∨ j = 22 ∨ j = 23 ∨ j = 24 ∨ j = 25 ∨ j = 26 ∨ j = 27 ∨ j = 28 ∨ j = 29 ∨ j = 30 ∨ j = 31 ∨ j = 32 ∨ j = 33 ∨ j = 34 ∨ j = 35 ∨ j = 36 ∨ j = 37 ∨ j = 38 ∨ j = 39 ∨ j = 40 ∨ j = 41 ∨ j = 42 by omega) with rfl | rfl | rfl | rfl | rfl | rfl | rfl | rfl | rfl | rfl | rfl | rfl | rfl | rfl | rfl | rfl | rfl | rfl | rfl | rfl | rfl | rfl | rfl | rfl | rfl | rfl | rfl | rfl | rfl | rfl | rfl | rfl | rfl | rfl | rfl | rfl | rfl | rfl | rfl | rfl | rfl | rfl | rfl <;> rfl
theorem wiX6 : Cond.instanceMethod yX6_init ∈ lw_big := big_3 (i := 9) rfl rfl
set_option maxRecDepth 100000 in
set_option maxHeartbeats 4000000 in
theorem ci_X6 (D : va_G) (C : ClassId × ClassId) : CI D C yX6_init cX6_init 1 12 26 1499 6 [.null, .null, .null, .null, .null, .int 0, .int 0, .int 0, .null, .null, .null, .null, .null, .null, .null, .null, .null, .null, .null, .int 0, .null, .null, .null, .null, .null, .null, .null, .null, .null, .int 0, .int 0, .int 0, .int 0, .int 0, .int 0, .int 0, .int 0, .int 0, .int 0, .int 0, .int 0, .int 0, .null] (fun h0 w => ∃ u : Nat → Nat, w = [(h0, .inr (6, [.ref (u 0), .ref (u 1), .ref (u 2), .ref (u 3), .ref (u 4), .int (nI 4), .int (0), .int (0), .ref (u 5), .ref (u 6), .ref (u 7), .ref (u 8), .ref (u 9), .ref (u 10), .ref (u 11), .ref (u 12), .ref (u 13), .ref (u 14), .ref (u 15), .int (0), .ref (u 16), .ref (u 17), .ref (u 18), .ref (u 19), .ref (u 20), .ref (u 21), .ref (u 22), .ref (u 23), .ref (u 24), .int (-1), .int (0), .int (0), .int (0), .int (0), .int (0), .int (0), .int (0), .int (0), .int (0), .int (0), .int (0), .int (0), .ref (u 25)])), (u 0, .inl (C.1, 8, .inl (fun _ => 0))), (u 1, .inl (C.1, 192, .inl (fun _ => 0))), (u 2, .inl (C.1, 192, .inl (fun _ => 0))), (u 3, .inl (C.1, 192, .inl (fun _ => 0))), (u 4, .inl (C.1, 8, .inl (fun _ => 0))), (u 5, .inl (C.1, 40, .inl (fun _ => 0))), (u 6, .inl (C.1, 40, .inl (fun _ => 0))), (u 7, .inl (C.1, 40, .inl (fun _ => 0))), (u 8, .inl (C.1, 40, .inl (fun _ => 0))), (u 9, .inl (C.1, 40, .inl (fun _ => 0))), (u 10, .inl (C.1, 40, .inl (fun _ => 0))), (u 11, .inl (C.1, 40, .inl (fun _ => 0))), (u 12, .inl (C.1, 40, .inl (fun _ => 0))), (u 13, .inl (C.1, 320, .inl (fun _ => 0))), (u 14, .inl (C.2, 40, .inl (fun _ => 0))), (u 15, .inl (C.2, 40, .inl (fun _ => 0))), (u 16, .inl (C.1, 20, .inl (fun _ => 0))), (u 17, .inl (C.1, 20, .inl (fun _ => 0))), (u 18, .inl (C.1, 20, .inl (fun _ => 0))), (u 19, .inl (C.1, 20, .inl (fun _ => 0))), (u 20, .inl (C.1, 20, .inl (fun _ => 0))), (u 21, .inl (C.1, 20, .inl (fun _ => 0))), (u 22, .inl (C.1, 20, .inl (fun _ => 0))), (u 23, .inl (C.2, 20, .inl (fun _ => 0))), (u 24, .inl (C.1, 7, .inl (fun _ => 0))), (u 25, .inl (C.2, 20, .inl (fun _ => 0)))]) := by
  refine CI.of rfl rfl (fun h0 => ?_)
  refine rc_aload (q := 1) 0 dX6_init_0 rfl rfl ?_
  refine rc_obj (q := 4) (big_3 (i := 11) rfl rfl) wO2 wO3 dX6_init_1 rfl (by decide) (by decide) ?_
  refine rc_aload (q := 5) 0 dX6_init_4 rfl rfl ?_
  refine rc_bipush (q := 7) (v := nI 8) dX6_init_5 rfl (by decide) ?_
  refine rc_mkI (q := 9) (N := 8) dX6_init_7 rfl (by decide) wAI (Nat.le_of_ble_eq_true rfl) (Nat.le_of_ble_eq_true rfl) (fun x7 => ?_)
  refine rc_putF (q := 12) (fs' := [.ref x7, .null, .null, .null, .null, .int 0, .int 0, .int 0, .null, .null, .null, .null, .null, .null, .null, .null, .null, .null, .null, .int 0, .null, .null, .null, .null, .null, .null, .null, .null, .null, .int 0, .int 0, .int 0, .int 0, .int 0, .int 0, .int 0, .int 0, .int 0, .int 0, .int 0, .int 0, .int 0, .null]) fX6_7 (fun r h => by cases h; rfl) ⟨rfl, rfl⟩ dX6_init_9 rfl rfl rfl ?_
  refine rc_aload (q := 13) 0 dX6_init_12 rfl rfl ?_
  refine rc_sipush (q := 16) (v := nI 192) dX6_init_13 rfl (by decide) ?_
  refine rc_mkI (q := 18) (N := 192) dX6_init_16 rfl (by decide) wAI (Nat.le_of_ble_eq_true rfl) (Nat.le_of_ble_eq_true rfl) (fun x16 => ?_)
  refine rc_putF (q := 21) (fs' := [.ref x7, .ref x16, .null, .null, .null, .int 0, .int 0, .int 0, .null, .null, .null, .null, .null, .null, .null, .null, .null, .null, .null, .int 0, .null, .null, .null, .null, .null, .null, .null, .null, .null, .int 0, .int 0, .int 0, .int 0, .int 0, .int 0, .int 0, .int 0, .int 0, .int 0, .int 0, .int 0, .int 0, .null]) fX6_13 (fun r h => by cases h; rfl) ⟨rfl, rfl⟩ dX6_init_18 rfl rfl rfl ?_
  refine rc_aload (q := 22) 0 dX6_init_21 rfl rfl ?_
  refine rc_sipush (q := 25) (v := nI 192) dX6_init_22 rfl (by decide) ?_
  refine rc_mkI (q := 27) (N := 192) dX6_init_25 rfl (by decide) wAI (Nat.le_of_ble_eq_true rfl) (Nat.le_of_ble_eq_true rfl) (fun x25 => ?_)
  refine rc_putF (q := 30) (fs' := [.ref x7, .ref x16, .ref x25, .null, .null, .int 0, .int 0, .int 0, .null, .null, .null, .null, .null, .null, .null, .null, .null, .null, .null, .int 0, .null, .null, .null, .null, .null, .null, .null, .null, .null, .int 0, .int 0, .int 0, .int 0, .int 0, .int 0, .int 0, .int 0, .int 0, .int 0, .int 0, .int 0, .int 0, .null]) fX6_16 (fun r h => by cases h; rfl) ⟨rfl, rfl⟩ dX6_init_27 rfl rfl rfl ?_
  refine rc_aload (q := 31) 0 dX6_init_30 rfl rfl ?_
  refine rc_sipush (q := 34) (v := nI 192) dX6_init_31 rfl (by decide) ?_
  refine rc_mkI (q := 36) (N := 192) dX6_init_34 rfl (by decide) wAI (Nat.le_of_ble_eq_true rfl) (Nat.le_of_ble_eq_true rfl) (fun x34 => ?_)
  refine rc_putF (q := 39) (fs' := [.ref x7, .ref x16, .ref x25, .ref x34, .null, .int 0, .int 0, .int 0, .null, .null, .null, .null, .null, .null, .null, .null, .null, .null, .null, .int 0, .null, .null, .null, .null, .null, .null, .null, .null, .null, .int 0, .int 0, .int 0, .int 0, .int 0, .int 0, .int 0, .int 0, .int 0, .int 0, .int 0, .int 0, .int 0, .null]) fX6_19 (fun r h => by cases h; rfl) ⟨rfl, rfl⟩ dX6_init_36 rfl rfl rfl ?_
  refine rc_aload (q := 40) 0 dX6_init_39 rfl rfl ?_
  refine rc_bipush (q := 42) (v := nI 8) dX6_init_40 rfl (by decide) ?_
  refine rc_mkI (q := 44) (N := 8) dX6_init_42 rfl (by decide) wAI (Nat.le_of_ble_eq_true rfl) (Nat.le_of_ble_eq_true rfl) (fun x42 => ?_)
  refine rc_putF (q := 47) (fs' := [.ref x7, .ref x16, .ref x25, .ref x34, .ref x42, .int 0, .int 0, .int 0, .null, .null, .null, .null, .null, .null, .null, .null, .null, .null, .null, .int 0, .null, .null, .null, .null, .null, .null, .null, .null, .null, .int 0, .int 0, .int 0, .int 0, .int 0, .int 0, .int 0, .int 0, .int 0, .int 0, .int 0, .int 0, .int 0, .null]) fX6_22 (fun r h => by cases h; rfl) ⟨rfl, rfl⟩ dX6_init_44 rfl rfl rfl ?_
  refine rc_aload (q := 48) 0 dX6_init_47 rfl rfl ?_
  refine rc_iconst (q := 49) (v := nI 4) dX6_init_48 rfl (by decide) ?_
  refine rc_putI (q := 52) (fs' := [.ref x7, .ref x16, .ref x25, .ref x34, .ref x42, .int (nI 4), .int 0, .int 0, .null, .null, .null, .null, .null, .null, .null, .null, .null, .null, .null, .int 0, .null, .null, .null, .null, .null, .null, .null, .null, .null, .int 0, .int 0, .int 0, .int 0, .int 0, .int 0, .int 0, .int 0, .int 0, .int 0, .int 0, .int 0, .int 0, .null]) fX6_25 dX6_init_49 rfl rfl rfl ?_
  refine rc_aload (q := 53) 0 dX6_init_52 rfl rfl ?_
  refine rc_bipush (q := 55) (v := nI 40) dX6_init_53 rfl (by decide) ?_
  refine rc_mkI (q := 57) (N := 40) dX6_init_55 rfl (by decide) wAI (Nat.le_of_ble_eq_true rfl) (Nat.le_of_ble_eq_true rfl) (fun x55 => ?_)
  refine rc_putF (q := 60) (fs' := [.ref x7, .ref x16, .ref x25, .ref x34, .ref x42, .int (nI 4), .int 0, .int 0, .ref x55, .null, .null, .null, .null, .null, .null, .null, .null, .null, .null, .int 0, .null, .null, .null, .null, .null, .null, .null, .null, .null, .int 0, .int 0, .int 0, .int 0, .int 0, .int 0, .int 0, .int 0, .int 0, .int 0, .int 0, .int 0, .int 0, .null]) fX6_29 (fun r h => by cases h; rfl) ⟨rfl, rfl⟩ dX6_init_57 rfl rfl rfl ?_
  refine rc_aload (q := 61) 0 dX6_init_60 rfl rfl ?_
  refine rc_bipush (q := 63) (v := nI 40) dX6_init_61 rfl (by decide) ?_
  refine rc_mkI (q := 65) (N := 40) dX6_init_63 rfl (by decide) wAI (Nat.le_of_ble_eq_true rfl) (Nat.le_of_ble_eq_true rfl) (fun x63 => ?_)
  refine rc_putF (q := 68) (fs' := [.ref x7, .ref x16, .ref x25, .ref x34, .ref x42, .int (nI 4), .int 0, .int 0, .ref x55, .ref x63, .null, .null, .null, .null, .null, .null, .null, .null, .null, .int 0, .null, .null, .null, .null, .null, .null, .null, .null, .null, .int 0, .int 0, .int 0, .int 0, .int 0, .int 0, .int 0, .int 0, .int 0, .int 0, .int 0, .int 0, .int 0, .null]) fX6_32 (fun r h => by cases h; rfl) ⟨rfl, rfl⟩ dX6_init_65 rfl rfl rfl ?_
  refine rc_aload (q := 69) 0 dX6_init_68 rfl rfl ?_
  refine rc_bipush (q := 71) (v := nI 40) dX6_init_69 rfl (by decide) ?_
  refine rc_mkI (q := 73) (N := 40) dX6_init_71 rfl (by decide) wAI (Nat.le_of_ble_eq_true rfl) (Nat.le_of_ble_eq_true rfl) (fun x71 => ?_)
  refine rc_putF (q := 76) (fs' := [.ref x7, .ref x16, .ref x25, .ref x34, .ref x42, .int (nI 4), .int 0, .int 0, .ref x55, .ref x63, .ref x71, .null, .null, .null, .null, .null, .null, .null, .null, .int 0, .null, .null, .null, .null, .null, .null, .null, .null, .null, .int 0, .int 0, .int 0, .int 0, .int 0, .int 0, .int 0, .int 0, .int 0, .int 0, .int 0, .int 0, .int 0, .null]) fX6_35 (fun r h => by cases h; rfl) ⟨rfl, rfl⟩ dX6_init_73 rfl rfl rfl ?_
  refine rc_aload (q := 77) 0 dX6_init_76 rfl rfl ?_
  refine rc_bipush (q := 79) (v := nI 40) dX6_init_77 rfl (by decide) ?_
  refine rc_mkI (q := 81) (N := 40) dX6_init_79 rfl (by decide) wAI (Nat.le_of_ble_eq_true rfl) (Nat.le_of_ble_eq_true rfl) (fun x79 => ?_)
  refine rc_putF (q := 84) (fs' := [.ref x7, .ref x16, .ref x25, .ref x34, .ref x42, .int (nI 4), .int 0, .int 0, .ref x55, .ref x63, .ref x71, .ref x79, .null, .null, .null, .null, .null, .null, .null, .int 0, .null, .null, .null, .null, .null, .null, .null, .null, .null, .int 0, .int 0, .int 0, .int 0, .int 0, .int 0, .int 0, .int 0, .int 0, .int 0, .int 0, .int 0, .int 0, .null]) fX6_38 (fun r h => by cases h; rfl) ⟨rfl, rfl⟩ dX6_init_81 rfl rfl rfl ?_
  refine rc_aload (q := 85) 0 dX6_init_84 rfl rfl ?_
  refine rc_bipush (q := 87) (v := nI 40) dX6_init_85 rfl (by decide) ?_
  refine rc_mkI (q := 89) (N := 40) dX6_init_87 rfl (by decide) wAI (Nat.le_of_ble_eq_true rfl) (Nat.le_of_ble_eq_true rfl) (fun x87 => ?_)
  refine rc_putF (q := 92) (fs' := [.ref x7, .ref x16, .ref x25, .ref x34, .ref x42, .int (nI 4), .int 0, .int 0, .ref x55, .ref x63, .ref x71, .ref x79, .ref x87, .null, .null, .null, .null, .null, .null, .int 0, .null, .null, .null, .null, .null, .null, .null, .null, .null, .int 0, .int 0, .int 0, .int 0, .int 0, .int 0, .int 0, .int 0, .int 0, .int 0, .int 0, .int 0, .int 0, .null]) fX6_41 (fun r h => by cases h; rfl) ⟨rfl, rfl⟩ dX6_init_89 rfl rfl rfl ?_
  refine rc_aload (q := 93) 0 dX6_init_92 rfl rfl ?_
  refine rc_bipush (q := 95) (v := nI 40) dX6_init_93 rfl (by decide) ?_
  refine rc_mkI (q := 97) (N := 40) dX6_init_95 rfl (by decide) wAI (Nat.le_of_ble_eq_true rfl) (Nat.le_of_ble_eq_true rfl) (fun x95 => ?_)
  refine rc_putF (q := 100) (fs' := [.ref x7, .ref x16, .ref x25, .ref x34, .ref x42, .int (nI 4), .int 0, .int 0, .ref x55, .ref x63, .ref x71, .ref x79, .ref x87, .ref x95, .null, .null, .null, .null, .null, .int 0, .null, .null, .null, .null, .null, .null, .null, .null, .null, .int 0, .int 0, .int 0, .int 0, .int 0, .int 0, .int 0, .int 0, .int 0, .int 0, .int 0, .int 0, .int 0, .null]) fX6_44 (fun r h => by cases h; rfl) ⟨rfl, rfl⟩ dX6_init_97 rfl rfl rfl ?_
  refine rc_aload (q := 101) 0 dX6_init_100 rfl rfl ?_
  refine rc_bipush (q := 103) (v := nI 40) dX6_init_101 rfl (by decide) ?_
  refine rc_mkI (q := 105) (N := 40) dX6_init_103 rfl (by decide) wAI (Nat.le_of_ble_eq_true rfl) (Nat.le_of_ble_eq_true rfl) (fun x103 => ?_)
  refine rc_putF (q := 108) (fs' := [.ref x7, .ref x16, .ref x25, .ref x34, .ref x42, .int (nI 4), .int 0, .int 0, .ref x55, .ref x63, .ref x71, .ref x79, .ref x87, .ref x95, .ref x103, .null, .null, .null, .null, .int 0, .null, .null, .null, .null, .null, .null, .null, .null, .null, .int 0, .int 0, .int 0, .int 0, .int 0, .int 0, .int 0, .int 0, .int 0, .int 0, .int 0, .int 0, .int 0, .null]) fX6_47 (fun r h => by cases h; rfl) ⟨rfl, rfl⟩ dX6_init_105 rfl rfl rfl ?_
  refine rc_aload (q := 109) 0 dX6_init_108 rfl rfl ?_
  refine rc_bipush (q := 111) (v := nI 40) dX6_init_109 rfl (by decide) ?_
  refine rc_mkI (q := 113) (N := 40) dX6_init_111 rfl (by decide) wAI (Nat.le_of_ble_eq_true rfl) (Nat.le_of_ble_eq_true rfl) (fun x111 => ?_)
  refine rc_putF (q := 116) (fs' := [.ref x7, .ref x16, .ref x25, .ref x34, .ref x42, .int (nI 4), .int 0, .int 0, .ref x55, .ref x63, .ref x71, .ref x79, .ref x87, .ref x95, .ref x103, .ref x111, .null, .null, .null, .int 0, .null, .null, .null, .null, .null, .null, .null, .null, .null, .int 0, .int 0, .int 0, .int 0, .int 0, .int 0, .int 0, .int 0, .int 0, .int 0, .int 0, .int 0, .int 0, .null]) fX6_50 (fun r h => by cases h; rfl) ⟨rfl, rfl⟩ dX6_init_113 rfl rfl rfl ?_
  refine rc_aload (q := 117) 0 dX6_init_116 rfl rfl ?_
  refine rc_sipush (q := 120) (v := nI 320) dX6_init_117 rfl (by decide) ?_
  refine rc_mkI (q := 122) (N := 320) dX6_init_120 rfl (by decide) wAI (Nat.le_of_ble_eq_true rfl) (Nat.le_of_ble_eq_true rfl) (fun x120 => ?_)
  refine rc_putF (q := 125) (fs' := [.ref x7, .ref x16, .ref x25, .ref x34, .ref x42, .int (nI 4), .int 0, .int 0, .ref x55, .ref x63, .ref x71, .ref x79, .ref x87, .ref x95, .ref x103, .ref x111, .ref x120, .null, .null, .int 0, .null, .null, .null, .null, .null, .null, .null, .null, .null, .int 0, .int 0, .int 0, .int 0, .int 0, .int 0, .int 0, .int 0, .int 0, .int 0, .int 0, .int 0, .int 0, .null]) fX6_53 (fun r h => by cases h; rfl) ⟨rfl, rfl⟩ dX6_init_122 rfl rfl rfl ?_
  refine rc_aload (q := 126) 0 dX6_init_125 rfl rfl ?_
  refine rc_bipush (q := 128) (v := nI 40) dX6_init_126 rfl (by decide) ?_
  refine rc_mkZ (q := 130) (N := 40) dX6_init_128 rfl (by decide) wAZ (Nat.le_of_ble_eq_true rfl) (Nat.le_of_ble_eq_true rfl) (fun x128 => ?_)
  refine rc_putF (q := 133) (fs' := [.ref x7, .ref x16, .ref x25, .ref x34, .ref x42, .int (nI 4), .int 0, .int 0, .ref x55, .ref x63, .ref x71, .ref x79, .ref x87, .ref x95, .ref x103, .ref x111, .ref x120, .ref x128, .null, .int 0, .null, .null, .null, .null, .null, .null, .null, .null, .null, .int 0, .int 0, .int 0, .int 0, .int 0, .int 0, .int 0, .int 0, .int 0, .int 0, .int 0, .int 0, .int 0, .null]) fX6_56 (fun r h => by cases h; rfl) ⟨rfl, rfl⟩ dX6_init_130 rfl rfl rfl ?_
  refine rc_aload (q := 134) 0 dX6_init_133 rfl rfl ?_
  refine rc_bipush (q := 136) (v := nI 40) dX6_init_134 rfl (by decide) ?_
  refine rc_mkZ (q := 138) (N := 40) dX6_init_136 rfl (by decide) wAZ (Nat.le_of_ble_eq_true rfl) (Nat.le_of_ble_eq_true rfl) (fun x136 => ?_)
  refine rc_putF (q := 141) (fs' := [.ref x7, .ref x16, .ref x25, .ref x34, .ref x42, .int (nI 4), .int 0, .int 0, .ref x55, .ref x63, .ref x71, .ref x79, .ref x87, .ref x95, .ref x103, .ref x111, .ref x120, .ref x128, .ref x136, .int 0, .null, .null, .null, .null, .null, .null, .null, .null, .null, .int 0, .int 0, .int 0, .int 0, .int 0, .int 0, .int 0, .int 0, .int 0, .int 0, .int 0, .int 0, .int 0, .null]) fX6_60 (fun r h => by cases h; rfl) ⟨rfl, rfl⟩ dX6_init_138 rfl rfl rfl ?_
  refine rc_aload (q := 142) 0 dX6_init_141 rfl rfl ?_
  refine rc_bipush (q := 144) (v := nI 20) dX6_init_142 rfl (by decide) ?_
  refine rc_mkI (q := 146) (N := 20) dX6_init_144 rfl (by decide) wAI (Nat.le_of_ble_eq_true rfl) (Nat.le_of_ble_eq_true rfl) (fun x144 => ?_)
  refine rc_putF (q := 149) (fs' := [.ref x7, .ref x16, .ref x25, .ref x34, .ref x42, .int (nI 4), .int 0, .int 0, .ref x55, .ref x63, .ref x71, .ref x79, .ref x87, .ref x95, .ref x103, .ref x111, .ref x120, .ref x128, .ref x136, .int 0, .ref x144, .null, .null, .null, .null, .null, .null, .null, .null, .int 0, .int 0, .int 0, .int 0, .int 0, .int 0, .int 0, .int 0, .int 0, .int 0, .int 0, .int 0, .int 0, .null]) fX6_63 (fun r h => by cases h; rfl) ⟨rfl, rfl⟩ dX6_init_146 rfl rfl rfl ?_
  refine rc_aload (q := 150) 0 dX6_init_149 rfl rfl ?_
  refine rc_bipush (q := 152) (v := nI 20) dX6_init_150 rfl (by decide) ?_
  refine rc_mkI (q := 154) (N := 20) dX6_init_152 rfl (by decide) wAI (Nat.le_of_ble_eq_true rfl) (Nat.le_of_ble_eq_true rfl) (fun x152 => ?_)
  refine rc_putF (q := 157) (fs' := [.ref x7, .ref x16, .ref x25, .ref x34, .ref x42, .int (nI 4), .int 0, .int 0, .ref x55, .ref x63, .ref x71, .ref x79, .ref x87, .ref x95, .ref x103, .ref x111, .ref x120, .ref x128, .ref x136, .int 0, .ref x144, .ref x152, .null, .null, .null, .null, .null, .null, .null, .int 0, .int 0, .int 0, .int 0, .int 0, .int 0, .int 0, .int 0, .int 0, .int 0, .int 0, .int 0, .int 0, .null]) fX6_66 (fun r h => by cases h; rfl) ⟨rfl, rfl⟩ dX6_init_154 rfl rfl rfl ?_
  refine rc_aload (q := 158) 0 dX6_init_157 rfl rfl ?_
  refine rc_bipush (q := 160) (v := nI 20) dX6_init_158 rfl (by decide) ?_
  refine rc_mkI (q := 162) (N := 20) dX6_init_160 rfl (by decide) wAI (Nat.le_of_ble_eq_true rfl) (Nat.le_of_ble_eq_true rfl) (fun x160 => ?_)
  refine rc_putF (q := 165) (fs' := [.ref x7, .ref x16, .ref x25, .ref x34, .ref x42, .int (nI 4), .int 0, .int 0, .ref x55, .ref x63, .ref x71, .ref x79, .ref x87, .ref x95, .ref x103, .ref x111, .ref x120, .ref x128, .ref x136, .int 0, .ref x144, .ref x152, .ref x160, .null, .null, .null, .null, .null, .null, .int 0, .int 0, .int 0, .int 0, .int 0, .int 0, .int 0, .int 0, .int 0, .int 0, .int 0, .int 0, .int 0, .null]) fX6_69 (fun r h => by cases h; rfl) ⟨rfl, rfl⟩ dX6_init_162 rfl rfl rfl ?_
  refine rc_aload (q := 166) 0 dX6_init_165 rfl rfl ?_
  refine rc_bipush (q := 168) (v := nI 20) dX6_init_166 rfl (by decide) ?_
  refine rc_mkI (q := 170) (N := 20) dX6_init_168 rfl (by decide) wAI (Nat.le_of_ble_eq_true rfl) (Nat.le_of_ble_eq_true rfl) (fun x168 => ?_)
  refine rc_putF (q := 173) (fs' := [.ref x7, .ref x16, .ref x25, .ref x34, .ref x42, .int (nI 4), .int 0, .int 0, .ref x55, .ref x63, .ref x71, .ref x79, .ref x87, .ref x95, .ref x103, .ref x111, .ref x120, .ref x128, .ref x136, .int 0, .ref x144, .ref x152, .ref x160, .ref x168, .null, .null, .null, .null, .null, .int 0, .int 0, .int 0, .int 0, .int 0, .int 0, .int 0, .int 0, .int 0, .int 0, .int 0, .int 0, .int 0, .null]) fX6_72 (fun r h => by cases h; rfl) ⟨rfl, rfl⟩ dX6_init_170 rfl rfl rfl ?_
  refine rc_aload (q := 174) 0 dX6_init_173 rfl rfl ?_
  refine rc_bipush (q := 176) (v := nI 20) dX6_init_174 rfl (by decide) ?_
  refine rc_mkI (q := 178) (N := 20) dX6_init_176 rfl (by decide) wAI (Nat.le_of_ble_eq_true rfl) (Nat.le_of_ble_eq_true rfl) (fun x176 => ?_)
  refine rc_putF (q := 181) (fs' := [.ref x7, .ref x16, .ref x25, .ref x34, .ref x42, .int (nI 4), .int 0, .int 0, .ref x55, .ref x63, .ref x71, .ref x79, .ref x87, .ref x95, .ref x103, .ref x111, .ref x120, .ref x128, .ref x136, .int 0, .ref x144, .ref x152, .ref x160, .ref x168, .ref x176, .null, .null, .null, .null, .int 0, .int 0, .int 0, .int 0, .int 0, .int 0, .int 0, .int 0, .int 0, .int 0, .int 0, .int 0, .int 0, .null]) fX6_75 (fun r h => by cases h; rfl) ⟨rfl, rfl⟩ dX6_init_178 rfl rfl rfl ?_
  refine rc_aload (q := 182) 0 dX6_init_181 rfl rfl ?_
  refine rc_bipush (q := 184) (v := nI 20) dX6_init_182 rfl (by decide) ?_
  refine rc_mkI (q := 186) (N := 20) dX6_init_184 rfl (by decide) wAI (Nat.le_of_ble_eq_true rfl) (Nat.le_of_ble_eq_true rfl) (fun x184 => ?_)
  refine rc_putF (q := 189) (fs' := [.ref x7, .ref x16, .ref x25, .ref x34, .ref x42, .int (nI 4), .int 0, .int 0, .ref x55, .ref x63, .ref x71, .ref x79, .ref x87, .ref x95, .ref x103, .ref x111, .ref x120, .ref x128, .ref x136, .int 0, .ref x144, .ref x152, .ref x160, .ref x168, .ref x176, .ref x184, .null, .null, .null, .int 0, .int 0, .int 0, .int 0, .int 0, .int 0, .int 0, .int 0, .int 0, .int 0, .int 0, .int 0, .int 0, .null]) fX6_78 (fun r h => by cases h; rfl) ⟨rfl, rfl⟩ dX6_init_186 rfl rfl rfl ?_
  refine rc_aload (q := 190) 0 dX6_init_189 rfl rfl ?_
  refine rc_bipush (q := 192) (v := nI 20) dX6_init_190 rfl (by decide) ?_
  refine rc_mkI (q := 194) (N := 20) dX6_init_192 rfl (by decide) wAI (Nat.le_of_ble_eq_true rfl) (Nat.le_of_ble_eq_true rfl) (fun x192 => ?_)
  refine rc_putF (q := 197) (fs' := [.ref x7, .ref x16, .ref x25, .ref x34, .ref x42, .int (nI 4), .int 0, .int 0, .ref x55, .ref x63, .ref x71, .ref x79, .ref x87, .ref x95, .ref x103, .ref x111, .ref x120, .ref x128, .ref x136, .int 0, .ref x144, .ref x152, .ref x160, .ref x168, .ref x176, .ref x184, .ref x192, .null, .null, .int 0, .int 0, .int 0, .int 0, .int 0, .int 0, .int 0, .int 0, .int 0, .int 0, .int 0, .int 0, .int 0, .null]) fX6_81 (fun r h => by cases h; rfl) ⟨rfl, rfl⟩ dX6_init_194 rfl rfl rfl ?_
  refine rc_aload (q := 198) 0 dX6_init_197 rfl rfl ?_
  refine rc_bipush (q := 200) (v := nI 20) dX6_init_198 rfl (by decide) ?_
  refine rc_mkZ (q := 202) (N := 20) dX6_init_200 rfl (by decide) wAZ (Nat.le_of_ble_eq_true rfl) (Nat.le_of_ble_eq_true rfl) (fun x200 => ?_)
  refine rc_putF (q := 205) (fs' := [.ref x7, .ref x16, .ref x25, .ref x34, .ref x42, .int (nI 4), .int 0, .int 0, .ref x55, .ref x63, .ref x71, .ref x79, .ref x87, .ref x95, .ref x103, .ref x111, .ref x120, .ref x128, .ref x136, .int 0, .ref x144, .ref x152, .ref x160, .ref x168, .ref x176, .ref x184, .ref x192, .ref x200, .null, .int 0, .int 0, .int 0, .int 0, .int 0, .int 0, .int 0, .int 0, .int 0, .int 0, .int 0, .int 0, .int 0, .null]) fX6_84 (fun r h => by cases h; rfl) ⟨rfl, rfl⟩ dX6_init_202 rfl rfl rfl ?_
  refine rc_aload (q := 206) 0 dX6_init_205 rfl rfl ?_
  refine rc_bipush (q := 208) (v := nI 7) dX6_init_206 rfl (by decide) ?_
  refine rc_mkI (q := 210) (N := 7) dX6_init_208 rfl (by decide) wAI (Nat.le_of_ble_eq_true rfl) (Nat.le_of_ble_eq_true rfl) (fun x208 => ?_)
  refine rc_putF (q := 213) (fs' := [.ref x7, .ref x16, .ref x25, .ref x34, .ref x42, .int (nI 4), .int 0, .int 0, .ref x55, .ref x63, .ref x71, .ref x79, .ref x87, .ref x95, .ref x103, .ref x111, .ref x120, .ref x128, .ref x136, .int 0, .ref x144, .ref x152, .ref x160, .ref x168, .ref x176, .ref x184, .ref x192, .ref x200, .ref x208, .int 0, .int 0, .int 0, .int 0, .int 0, .int 0, .int 0, .int 0, .int 0, .int 0, .int 0, .int 0, .int 0, .null]) fX6_87 (fun r h => by cases h; rfl) ⟨rfl, rfl⟩ dX6_init_210 rfl rfl rfl ?_
  refine rc_aload (q := 214) 0 dX6_init_213 rfl rfl ?_
  refine rc_iconst (q := 215) (v := -1) dX6_init_214 rfl (by decide) ?_
  refine rc_putI (q := 218) (fs' := [.ref x7, .ref x16, .ref x25, .ref x34, .ref x42, .int (nI 4), .int 0, .int 0, .ref x55, .ref x63, .ref x71, .ref x79, .ref x87, .ref x95, .ref x103, .ref x111, .ref x120, .ref x128, .ref x136, .int 0, .ref x144, .ref x152, .ref x160, .ref x168, .ref x176, .ref x184, .ref x192, .ref x200, .ref x208, .int (-1), .int 0, .int 0, .int 0, .int 0, .int 0, .int 0, .int 0, .int 0, .int 0, .int 0, .int 0, .int 0, .null]) fX6_90 dX6_init_215 rfl rfl rfl ?_
  refine rc_aload (q := 219) 0 dX6_init_218 rfl rfl ?_
  refine rc_bipush (q := 221) (v := nI 20) dX6_init_219 rfl (by decide) ?_
  refine rc_mkZ (q := 223) (N := 20) dX6_init_221 rfl (by decide) wAZ (Nat.le_of_ble_eq_true rfl) (Nat.le_of_ble_eq_true rfl) (fun x221 => ?_)
  refine rc_putF (q := 226) (fs' := [.ref x7, .ref x16, .ref x25, .ref x34, .ref x42, .int (nI 4), .int 0, .int 0, .ref x55, .ref x63, .ref x71, .ref x79, .ref x87, .ref x95, .ref x103, .ref x111, .ref x120, .ref x128, .ref x136, .int 0, .ref x144, .ref x152, .ref x160, .ref x168, .ref x176, .ref x184, .ref x192, .ref x200, .ref x208, .int (-1), .int 0, .int 0, .int 0, .int 0, .int 0, .int 0, .int 0, .int 0, .int 0, .int 0, .int 0, .int 0, .ref x221]) fX6_93 (fun r h => by cases h; rfl) ⟨rfl, rfl⟩ dX6_init_223 rfl rfl rfl ?_
  refine rc_ret dX6_init_226 rfl rfl ⟨fun k => [x7, x16, x25, x34, x42, x55, x63, x71, x79, x87, x95, x103, x111, x120, x128, x136, x144, x152, x160, x168, x176, x184, x192, x200, x208, x221].getD k 0, ?_⟩
  simp only [List.nil_append, List.cons_append]
  rfl
end
