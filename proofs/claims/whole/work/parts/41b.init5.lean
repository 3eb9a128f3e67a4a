section
theorem niX5_9 : CwN RX5 9 yX3_init cX3_init 1 none 0 := ⟨big_1 (i := 23) rfl rfl, big_1 (i := 2) rfl rfl, by simp [nestW, RX5], by decide +kernel⟩
theorem niX5_18 : CwN RX5 18 yX1_init cX1_init 1 none 0 := ⟨big_1 (i := 38) rfl rfl, big_1 (i := 3) rfl rfl, by simp [nestW, RX5], by decide +kernel⟩
theorem niX5_25 : CwN RX5 25 yX4_init cX4_init 1 none 0 := ⟨big_1 (i := 81) rfl rfl, big_1 (i := 4) rfl rfl, by simp [nestW, RX5], by decide +kernel⟩
theorem niX5_32 : CwN RX5 32 yX0_init cX0_init 1 none 0 := ⟨big_1 (i := 122) rfl rfl, big_1 (i := 5) rfl rfl, by simp [nestW, RX5], by decide +kernel⟩
theorem niX5_39 : CwN RX5 39 yX2_init cX2_init 1 none 0 := ⟨big_1 (i := 148) rfl rfl, big_1 (i := 6) rfl rfl, by simp [nestW, RX5], by decide +kernel⟩
def mi {α β : Type} (f : Nat → α → β) : Nat → List α → List β
  | _, [] => []
  | k, a :: l => f k a :: mi f (k + 1) l
theorem mi_eq {α β : Type} (f : Nat → α → β) : ∀ (l : List α) (k : Nat), l.mapIdx (fun i => f (i + k)) = mi f k l := by
  intro l
  induction l with
  | nil => intro k; rfl
  | cons a l ih =>
    intro k
    rw [List.mapIdx_cons, mi, ← ih (k + 1)]
    simp only [Nat.zero_add]
    congr 1
    apply congrArg (fun g => List.mapIdx g l)
    funext i
    rw [Nat.add_assoc, Nat.add_comm 1 k]
theorem mi_0 {α β : Type} (f : Nat → α → β) (l : List α) : l.mapIdx f = mi f 0 l := mi_eq f l 0
def en2 (C : ClassId × ClassId) (ad : Nat → Nat) (σ : St) (k : Nat) (e : LyE) : Nat × va_E := (ad k, match e with
  | .inl a => .inl (if a.1 = 0 then C.1 else C.2, a.2, .inl (σ k))
  | .inr o => .inr (o.1, mi (fv ad (σ k)) 0 o.2))
theorem wd_mi (C : ClassId × ClassId) (ad : Nat → Nat) (ly : List LyE) (σ : St) : wd C ad ly σ = mi (en2 C ad σ) 0 ly := by
  have e : en C ad σ = en2 C ad σ := by
    funext k e
    unfold en en2
    cases e with
    | inl a => rfl
    | inr o =>
      show ((ad k, Sum.inr (o.1, List.mapIdx (fv ad (σ k)) o.2)) : Nat × va_E) = (ad k, Sum.inr (o.1, mi (fv ad (σ k)) 0 o.2))
      rw [mi_0]
  rw [wd, e, mi_0]
def adL (l : List Nat) : Nat → Nat := fun k => l.getD k 0
theorem wdC_eq (C : ClassId × ClassId) (ad : Nat → Nat) (σ : St) : wd C ad LAYC σ = [(ad 0, .inr (5, [.ref (ad 1), .ref (ad 4), .ref (ad 12), .ref (ad 22), .ref (ad 26), .ref (ad 30), .ref (ad 31), .ref (ad 32), .int ((σ 0) 8), .int ((σ 0) 9)])), (ad 1, .inr (3, [.ref (ad 2), .ref (ad 3)])), (ad 2, .inl (C.1, 8, .inl (σ 2))), (ad 3, .inl (C.1, 576, .inl (σ 3))), (ad 4, .inr (1, [.int ((σ 4) 0), .ref (ad 5), .ref (ad 6), .ref (ad 7), .ref (ad 8), .ref (ad 9), .ref (ad 10), .ref (ad 11)])), (ad 5, .inl (C.1, 40, .inl (σ 5))), (ad 6, .inl (C.1, 120, .inl (σ 6))), (ad 7, .inl (C.1, 120, .inl (σ 7))), (ad 8, .inl (C.1, 40, .inl (σ 8))), (ad 9, .inl (C.1, 320, .inl (σ 9))), (ad 10, .inl (C.2, 40, .inl (σ 10))), (ad 11, .inl (C.2, 40, .inl (σ 11))), (ad 12, .inr (4, [.int ((σ 12) 0), .ref (ad 13), .ref (ad 14), .ref (ad 15), .ref (ad 16), .ref (ad 17), .ref (ad 18), .ref (ad 19), .ref (ad 20), .ref (ad 21)])), (ad 13, .inl (C.1, 20, .inl (σ 13))), (ad 14, .inl (C.1, 20, .inl (σ 14))), (ad 15, .inl (C.1, 20, .inl (σ 15))), (ad 16, .inl (C.1, 20, .inl (σ 16))), (ad 17, .inl (C.1, 20, .inl (σ 17))), (ad 18, .inl (C.1, 20, .inl (σ 18))), (ad 19, .inl (C.1, 20, .inl (σ 19))), (ad 20, .inl (C.1, 20, .inl (σ 20))), (ad 21, .inl (C.2, 20, .inl (σ 21))), (ad 22, .inr (0, [.ref (ad 23), .ref (ad 24), .ref (ad 25), .int ((σ 22) 3), .int ((σ 22) 4)])), (ad 23, .inl (C.1, 3, .inl (σ 23))), (ad 24, .inl (C.1, 3, .inl (σ 24))), (ad 25, .inl (C.1, 3, .inl (σ 25))), (ad 26, .inr (2, [.int ((σ 26) 0), .ref (ad 27), .ref (ad 28), .ref (ad 29)])), (ad 27, .inl (C.1, 40, .inl (σ 27))), (ad 28, .inl (C.1, 40, .inl (σ 28))), (ad 29, .inl (C.1, 40, .inl (σ 29))), (ad 30, .inl (C.1, 8, .inl (σ 30))), (ad 31, .inl (C.1, 7, .inl (σ 31))), (ad 32, .inl (C.1, 160, .inl (σ 32)))] := by rw [wd_mi]; rfl
theorem dfX5 : ∀ j, j < 10 → defaultValue (tyX5 j) = vp_V [.null, .null, .null, .null, .null, .null, .null, .null, .int 0, .int 0] j := by
  intro j hj
  rcases (show j = 0 ∨ j = 1 ∨ j = 2 ∨ j = 3 ∨ j = 4 ∨ j = 5 ∨ j = 6 ∨ j = 7 ∨ j = 8 ∨ j = 9 by omega) with rfl | rfl | rfl | rfl | rfl | rfl | rfl | rfl | rfl | rfl <;> rfl
theorem wiX5 : Cond.instanceMethod yX5_init ∈ lw_big := big_1 (i := 14) rfl rfl
set_option maxRecDepth 100000 in
set_option maxHeartbeats 4000000 in
theorem ci_X5 (D : va_G) (C : ClassId × ClassId) : CI D C yX5_init cX5_init 2 32 32 1817 5 [.null, .null, .null, .null, .null, .null, .null, .null, .int 0, .int 0] (fun h0 w => ∃ ad : Nat → Nat, ad 0 = h0 ∧ w = wd C ad LAYC (fillR s0 (-1) 160)) := by
  refine CI.of rfl rfl (fun h0 => ?_)
  refine rc_aload (q := 1) 0 dX5_init_0 rfl rfl ?_
  refine rc_obj (q := 4) (big_1 (i := 16) rfl rfl) wO2 wO3 dX5_init_1 rfl (by decide) (by decide) ?_
  refine rc_aload (q := 5) 0 dX5_init_4 rfl rfl ?_
  refine rc_mk (q := 8) (ci := 3) (T := TX3) (N := 2) (tf := tyX3) (fs0 := [.null, .null]) (big_1 (i := 19) rfl rfl) (big_1 (i := 20) rfl rfl) (big_1 (i := 2) rfl rfl) inlX3 tyX3_ok rfl dfX3 dX5_init_5 rfl (Nat.le_of_ble_eq_true rfl) (Nat.le_of_ble_eq_true rfl) (fun x5 => ?_)
  refine rc_dup (q := 9) dX5_init_8 rfl ?_
  refine rc_mkN (q := 12) (ci_X3 D C) niX5_9 wiX3 rfl dX5_init_9 rfl (Nat.le_of_ble_eq_true rfl) (by decide) (by decide) (Nat.le_of_ble_eq_true rfl) (Nat.le_of_ble_eq_true rfl) (fun w9 hw9 => ?_)
  obtain ⟨uX3, rfl⟩ := hw9
  refine rc_putF (q := 15) (fs' := [.ref x5, .null, .null, .null, .null, .null, .null, .null, .int 0, .int 0]) fX5_10 (fun r h => by cases h; rfl) ⟨rfl, rfl⟩ dX5_init_12 rfl rfl rfl ?_
  refine rc_aload (q := 16) 0 dX5_init_15 rfl rfl ?_
  refine rc_mk (q := 19) (ci := 1) (T := TX1) (N := 8) (tf := tyX1) (fs0 := [.int 0, .null, .null, .null, .null, .null, .null, .null]) (big_1 (i := 34) rfl rfl) (big_1 (i := 35) rfl rfl) (big_1 (i := 3) rfl rfl) inlX1 tyX1_ok rfl dfX1 dX5_init_16 rfl (Nat.le_of_ble_eq_true rfl) (Nat.le_of_ble_eq_true rfl) (fun x16 => ?_)
  refine rc_dup (q := 20) dX5_init_19 rfl ?_
  refine rc_mkN (q := 23) (ci_X1 D C) niX5_18 wiX1 rfl dX5_init_20 rfl (Nat.le_of_ble_eq_true rfl) (by decide) (by decide) (Nat.le_of_ble_eq_true rfl) (Nat.le_of_ble_eq_true rfl) (fun w20 hw20 => ?_)
  obtain ⟨uX1, rfl⟩ := hw20
  refine rc_putF (q := 26) (fs' := [.ref x5, .ref x16, .null, .null, .null, .null, .null, .null, .int 0, .int 0]) fX5_19 (fun r h => by cases h; rfl) ⟨rfl, rfl⟩ dX5_init_23 rfl rfl rfl ?_
  refine rc_aload (q := 27) 0 dX5_init_26 rfl rfl ?_
  refine rc_mk (q := 30) (ci := 4) (T := TX4) (N := 10) (tf := tyX4) (fs0 := [.int 0, .null, .null, .null, .null, .null, .null, .null, .null, .null]) (big_1 (i := 77) rfl rfl) (big_1 (i := 78) rfl rfl) (big_1 (i := 4) rfl rfl) inlX4 tyX4_ok rfl dfX4 dX5_init_27 rfl (Nat.le_of_ble_eq_true rfl) (Nat.le_of_ble_eq_true rfl) (fun x27 => ?_)
  refine rc_dup (q := 31) dX5_init_30 rfl ?_
  refine rc_mkN (q := 34) (ci_X4 D C) niX5_25 wiX4 rfl dX5_init_31 rfl (Nat.le_of_ble_eq_true rfl) (by decide) (by decide) (Nat.le_of_ble_eq_true rfl) (Nat.le_of_ble_eq_true rfl) (fun w31 hw31 => ?_)
  obtain ⟨uX4, rfl⟩ := hw31
  refine rc_putF (q := 37) (fs' := [.ref x5, .ref x16, .ref x27, .null, .null, .null, .null, .null, .int 0, .int 0]) fX5_26 (fun r h => by cases h; rfl) ⟨rfl, rfl⟩ dX5_init_34 rfl rfl rfl ?_
  refine rc_aload (q := 38) 0 dX5_init_37 rfl rfl ?_
  refine rc_mk (q := 41) (ci := 0) (T := TX0) (N := 5) (tf := tyX0) (fs0 := [.null, .null, .null, .int 0, .int 0]) (big_1 (i := 118) rfl rfl) (big_1 (i := 119) rfl rfl) (big_1 (i := 5) rfl rfl) inlX0 tyX0_ok rfl dfX0 dX5_init_38 rfl (Nat.le_of_ble_eq_true rfl) (Nat.le_of_ble_eq_true rfl) (fun x38 => ?_)
  refine rc_dup (q := 42) dX5_init_41 rfl ?_
  refine rc_mkN (q := 45) (ci_X0 D C) niX5_32 wiX0 rfl dX5_init_42 rfl (Nat.le_of_ble_eq_true rfl) (by decide) (by decide) (Nat.le_of_ble_eq_true rfl) (Nat.le_of_ble_eq_true rfl) (fun w42 hw42 => ?_)
  obtain ⟨uX0, rfl⟩ := hw42
  refine rc_putF (q := 48) (fs' := [.ref x5, .ref x16, .ref x27, .ref x38, .null, .null, .null, .null, .int 0, .int 0]) fX5_33 (fun r h => by cases h; rfl) ⟨rfl, rfl⟩ dX5_init_45 rfl rfl rfl ?_
  refine rc_aload (q := 49) 0 dX5_init_48 rfl rfl ?_
  refine rc_mk (q := 52) (ci := 2) (T := TX2) (N := 4) (tf := tyX2) (fs0 := [.int 0, .null, .null, .null]) (big_1 (i := 144) rfl rfl) (big_1 (i := 145) rfl rfl) (big_1 (i := 6) rfl rfl) inlX2 tyX2_ok rfl dfX2 dX5_init_49 rfl (Nat.le_of_ble_eq_true rfl) (Nat.le_of_ble_eq_true rfl) (fun x49 => ?_)
  refine rc_dup (q := 53) dX5_init_52 rfl ?_
  refine rc_mkN (q := 56) (ci_X2 D C) niX5_39 wiX2 rfl dX5_init_53 rfl (Nat.le_of_ble_eq_true rfl) (by decide) (by decide) (Nat.le_of_ble_eq_true rfl) (Nat.le_of_ble_eq_true rfl) (fun w53 hw53 => ?_)
  obtain ⟨uX2, rfl⟩ := hw53
  refine rc_putF (q := 59) (fs' := [.ref x5, .ref x16, .ref x27, .ref x38, .ref x49, .null, .null, .null, .int 0, .int 0]) fX5_40 (fun r h => by cases h; rfl) ⟨rfl, rfl⟩ dX5_init_56 rfl rfl rfl ?_
  refine rc_aload (q := 60) 0 dX5_init_59 rfl rfl ?_
  refine rc_bipush (q := 62) (v := nI 8) dX5_init_60 rfl (by decide) ?_
  refine rc_mkI (q := 64) (N := 8) dX5_init_62 rfl (by decide) wAI (Nat.le_of_ble_eq_true rfl) (Nat.le_of_ble_eq_true rfl) (fun x62 => ?_)
  refine rc_putF (q := 67) (fs' := [.ref x5, .ref x16, .ref x27, .ref x38, .ref x49, .ref x62, .null, .null, .int 0, .int 0]) fX5_44 (fun r h => by cases h; rfl) ⟨rfl, rfl⟩ dX5_init_64 rfl rfl rfl ?_
  refine rc_aload (q := 68) 0 dX5_init_67 rfl rfl ?_
  refine rc_bipush (q := 70) (v := nI 7) dX5_init_68 rfl (by decide) ?_
  refine rc_mkI (q := 72) (N := 7) dX5_init_70 rfl (by decide) wAI (Nat.le_of_ble_eq_true rfl) (Nat.le_of_ble_eq_true rfl) (fun x70 => ?_)
  refine rc_putF (q := 75) (fs' := [.ref x5, .ref x16, .ref x27, .ref x38, .ref x49, .ref x62, .ref x70, .null, .int 0, .int 0]) fX5_48 (fun r h => by cases h; rfl) ⟨rfl, rfl⟩ dX5_init_72 rfl rfl rfl ?_
  refine rc_aload (q := 76) 0 dX5_init_75 rfl rfl ?_
  refine rc_sipush (q := 79) (v := nI 160) dX5_init_76 rfl (by decide) ?_
  refine rc_mkI (q := 81) (N := 160) dX5_init_79 rfl (by decide) wAI (Nat.le_of_ble_eq_true rfl) (Nat.le_of_ble_eq_true rfl) (fun x79 => ?_)
  refine rc_putF (q := 84) (fs' := [.ref x5, .ref x16, .ref x27, .ref x38, .ref x49, .ref x62, .ref x70, .ref x79, .int 0, .int 0]) fX5_51 (fun r h => by cases h; rfl) ⟨rfl, rfl⟩ dX5_init_81 rfl rfl rfl ?_
  refine rc_aload (q := 85) 0 dX5_init_84 rfl rfl ?_
  refine rc_iconst (q := 86) (v := nI 4) dX5_init_85 rfl (by decide) ?_
  refine rc_putI (q := 89) (fs' := [.ref x5, .ref x16, .ref x27, .ref x38, .ref x49, .ref x62, .ref x70, .ref x79, .int (nI 4), .int 0]) fX5_54 dX5_init_86 rfl rfl rfl ?_
  refine rc_aload (q := 90) 0 dX5_init_89 rfl rfl ?_
  refine rc_iconst (q := 91) (v := nI 0) dX5_init_90 rfl (by decide) ?_
  refine rc_putI (q := 94) (fs' := [.ref x5, .ref x16, .ref x27, .ref x38, .ref x49, .ref x62, .ref x70, .ref x79, .int (nI 4), .int (nI 0)]) fX5_58 dX5_init_91 rfl rfl rfl ?_
  refine rc_rn (ad := adL (h0 :: x5 :: uX3 0 :: uX3 1 :: x16 :: uX1 0 :: uX1 1 :: uX1 2 :: uX1 3 :: uX1 4 :: uX1 5 :: uX1 6 :: x27 :: uX4 0 :: uX4 1 :: uX4 2 :: uX4 3 :: uX4 4 :: uX4 5 :: uX4 6 :: uX4 7 :: uX4 8 :: x38 :: uX0 0 :: uX0 1 :: uX0 2 :: x49 :: uX2 0 :: uX2 1 :: uX2 2 :: x62 :: x70 :: x79 :: [])) (ly := LAYC) (σ := s0) (P := fun τ => τ = fillR s0 (-1) 160) (by rw [wdC_eq]; simp only [List.nil_append, List.cons_append]; rfl) rfl rfl rfl ?_ (fun τ h => ⟨adL (h0 :: x5 :: uX3 0 :: uX3 1 :: x16 :: uX1 0 :: uX1 1 :: uX1 2 :: uX1 3 :: uX1 4 :: uX1 5 :: uX1 6 :: x27 :: uX4 0 :: uX4 1 :: uX4 2 :: uX4 3 :: uX4 4 :: uX4 5 :: uX4 6 :: uX4 7 :: uX4 8 :: x38 :: uX0 0 :: uX0 1 :: uX0 2 :: x49 :: uX2 0 :: uX2 1 :: uX2 2 :: x62 :: x70 :: x79 :: []), rfl, congrArg (wd C _ LAYC) h⟩)
  refine r_aload_n (q := 95) dX5_init_94 rfl rfl ?_
  refine gX5_51 (q := 98) dX5_init_95 rfl ?_
  refine r_iconst (q := 99) (v := -1) dX5_init_98 rfl (by decide) ?_
  refine r_sV2 (q := 102) vX5_61 dX5_init_99 rfl (Nat.le_of_ble_eq_true rfl) (by decide) (by decide) (c_fill rfl _ _) ?_
  rintro τ h
  exact r_retV dX5_init_102 h
end
