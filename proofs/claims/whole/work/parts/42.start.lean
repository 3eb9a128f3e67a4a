section
/-! ===== the start ===== -/
theorem bq {k i a b : Nat} (h : ¬ (k = a ∧ i = b)) : (Nat.beq k a && Nat.beq i b) = false := by
  cases h1 : Nat.beq k a with
  | false => rfl
  | true =>
    cases h2 : Nat.beq i b with
    | false => rfl
    | true => exact absurd ⟨Nat.eq_of_beq_eq_true h1, Nat.eq_of_beq_eq_true h2⟩ h
theorem s0_at (k i : Nat) (h1 : ¬ (k = 0 ∧ i = 8)) (h2 : ¬ (k = 22 ∧ i = 4)) (h3 : ¬ (k = 33 ∧ i = 5)) (h4 : ¬ (k = 33 ∧ i = 29)) : s0 k i = 0 := by
  unfold s0
  rw [bq h1, bq h2, bq h3, bq h4]
  rfl
theorem I_0 : InvN (vw s0) := by
  intro k i hn
  have e : vw s0 k i = s0 k i := by
    unfold vw
    rw [nneg_scr hn]
    rfl
  have key : s0 k i = nI 4 ∧ 4 ≤ ub k i ∨ s0 k i = nI 0 := by
    by_cases h1 : k = 0 ∧ i = 8
    · obtain ⟨rfl, rfl⟩ := h1
      exact Or.inl ⟨rfl, by decide⟩
    · by_cases h2 : k = 22 ∧ i = 4
      · obtain ⟨rfl, rfl⟩ := h2
        cases hn
      · by_cases h3 : k = 33 ∧ i = 5
        · obtain ⟨rfl, rfl⟩ := h3
          exact Or.inl ⟨rfl, by decide⟩
        · by_cases h4 : k = 33 ∧ i = 29
          · obtain ⟨rfl, rfl⟩ := h4
            cases hn
          · exact Or.inr ((s0_at k i h1 h2 h3 h4).trans nI_0.symm)
  unfold nv
  rw [e]
  rcases key with ⟨h, h2⟩ | h
  · rw [h]
    exact ⟨rfl, h2⟩
  · rw [h]
    exact ⟨rfl, Nat.zero_le _⟩
theorem IV_0 : IV (fillR s0 (-1) 160) := by
  unfold IV
  rw [fillR_vw]
  refine ⟨⟨⟨I_0, fun w => ⟨Nat.le_refl 0, Nat.le_refl 0, Nat.zero_le 64, fun h => absurd h (Nat.not_lt_zero w)⟩, fun k => ?_, fun d m _ hm => absurd hm (Nat.not_lt_zero m)⟩, ⟨rfl, rfl, rfl, rfl⟩, ⟨funext fun _ => rfl, funext fun _ => rfl, funext fun _ => rfl⟩, fun _ => ⟨rfl, rfl, rfl⟩, ⟨funext fun _ => rfl, funext fun _ => rfl, funext fun _ => rfl⟩, fun _ => ⟨rfl, rfl, rfl, rfl, rfl, rfl⟩, fun b d _ => ?_, fun b hb => absurd hb (Nat.not_lt_zero b), ⟨funext fun _ => rfl, funext fun _ => rfl, funext fun _ => rfl, funext fun _ => rfl, funext fun _ => rfl, funext fun _ => rfl⟩, fun w => ?_, fun b _ => ⟨rfl, rfl, fun d _ => rfl⟩, rfl, nI_0.symm⟩, J_all (fun i hi => if_pos ⟨rfl, hi⟩)⟩
  · show (-50 : Int) ≤ (0 : Int32).toInt ∧ (0 : Int32).toInt ≤ 50 ∧ (-50 : Int) ≤ (0 : Int32).toInt ∧ (0 : Int32).toInt ≤ 50
    decide
  · show (0 : Nat) = if (0 : Nat) = 1 then (0 : Nat) else if (0 : Nat) = 2 then 8 else 0
    rfl
  · show (0 : Nat) = (if (0 : Nat) < 2 then 0 else 1) ∧ (0 : Nat) = 0 - 0 ∧ (0 : Nat) = 0 - 0
    exact ⟨rfl, rfl, rfl⟩
theorem wdL_eq (C : ClassId × ClassId) (ad : Nat → Nat) (σ : St) : wd C ad LAY σ = [(ad 0, .inr (5, [.ref (ad 1), .ref (ad 4), .ref (ad 12), .ref (ad 22), .ref (ad 26), .ref (ad 30), .ref (ad 31), .ref (ad 32), .int ((σ 0) 8), .int ((σ 0) 9)])), (ad 1, .inr (3, [.ref (ad 2), .ref (ad 3)])), (ad 2, .inl (C.1, 8, .inl (σ 2))), (ad 3, .inl (C.1, 576, .inl (σ 3))), (ad 4, .inr (1, [.int ((σ 4) 0), .ref (ad 5), .ref (ad 6), .ref (ad 7), .ref (ad 8), .ref (ad 9), .ref (ad 10), .ref (ad 11)])), (ad 5, .inl (C.1, 40, .inl (σ 5))), (ad 6, .inl (C.1, 120, .inl (σ 6))), (ad 7, .inl (C.1, 120, .inl (σ 7))), (ad 8, .inl (C.1, 40, .inl (σ 8))), (ad 9, .inl (C.1, 320, .inl (σ 9))), (ad 10, .inl (C.2, 40, .inl (σ 10))), (ad 11, .inl (C.2, 40, .inl (σ 11))), (ad 12, .inr (4, [.int ((σ 12) 0), .ref (ad 13), .ref (ad 14), .ref (ad 15), .ref (ad 16), .ref (ad 17), .ref (ad 18), .ref (ad 19), .ref (ad 20), .ref (ad 21)])), (ad 13, .inl (C.1, 20, .inl (σ 13))), (ad 14, .inl (C.1, 20, .inl (σ 14))), (ad 15, .inl (C.1, 20, .inl (σ 15))), (ad 16, .inl (C.1, 20, .inl (σ 16))), (ad 17, .inl (C.1, 20, .inl (σ 17))), (ad 18, .inl (C.1, 20, .inl (σ 18))), (ad 19, .inl (C.1, 20, .inl (σ 19))), (ad 20, .inl (C.1, 20, .inl (σ 20))), (ad 21, .inl (C.2, 20, .inl (σ 21))), (ad 22, .inr (0, [.ref (ad 23), .ref (ad 24), .ref (ad 25), .int ((σ 22) 3), .int ((σ 22) 4)])), (ad 23, .inl (C.1, 3, .inl (σ 23))), (ad 24, .inl (C.1, 3, .inl (σ 24))), (ad 25, .inl (C.1, 3, .inl (σ 25))), (ad 26, .inr (2, [.int ((σ 26) 0), .ref (ad 27), .ref (ad 28), .ref (ad 29)])), (ad 27, .inl (C.1, 40, .inl (σ 27))), (ad 28, .inl (C.1, 40, .inl (σ 28))), (ad 29, .inl (C.1, 40, .inl (σ 29))), (ad 30, .inl (C.1, 8, .inl (σ 30))), (ad 31, .inl (C.1, 7, .inl (σ 31))), (ad 32, .inl (C.1, 160, .inl (σ 32))), (ad 33, .inr (6, [.ref (ad 34), .ref (ad 35), .ref (ad 36), .ref (ad 37), .ref (ad 38), .int ((σ 33) 5), .int ((σ 33) 6), .int ((σ 33) 7), .ref (ad 39), .ref (ad 40), .ref (ad 41), .ref (ad 42), .ref (ad 43), .ref (ad 44), .ref (ad 45), .ref (ad 46), .ref (ad 47), .ref (ad 48), .ref (ad 49), .int ((σ 33) 19), .ref (ad 50), .ref (ad 51), .ref (ad 52), .ref (ad 53), .ref (ad 54), .ref (ad 55), .ref (ad 56), .ref (ad 57), .ref (ad 58), .int ((σ 33) 29), .int ((σ 33) 30), .int ((σ 33) 31), .int ((σ 33) 32), .int ((σ 33) 33), .int ((σ 33) 34), .int ((σ 33) 35), .int ((σ 33) 36), .int ((σ 33) 37), .int ((σ 33) 38), .int ((σ 33) 39), .int ((σ 33) 40), .int ((σ 33) 41), .ref (ad 59)])), (ad 34, .inl (C.1, 8, .inl (σ 34))), (ad 35, .inl (C.1, 192, .inl (σ 35))), (ad 36, .inl (C.1, 192, .inl (σ 36))), (ad 37, .inl (C.1, 192, .inl (σ 37))), (ad 38, .inl (C.1, 8, .inl (σ 38))), (ad 39, .inl (C.1, 40, .inl (σ 39))), (ad 40, .inl (C.1, 40, .inl (σ 40))), (ad 41, .inl (C.1, 40, .inl (σ 41))), (ad 42, .inl (C.1, 40, .inl (σ 42))), (ad 43, .inl (C.1, 40, .inl (σ 43))), (ad 44, .inl (C.1, 40, .inl (σ 44))), (ad 45, .inl (C.1, 40, .inl (σ 45))), (ad 46, .inl (C.1, 40, .inl (σ 46))), (ad 47, .inl (C.1, 320, .inl (σ 47))), (ad 48, .inl (C.2, 40, .inl (σ 48))), (ad 49, .inl (C.2, 40, .inl (σ 49))), (ad 50, .inl (C.1, 20, .inl (σ 50))), (ad 51, .inl (C.1, 20, .inl (σ 51))), (ad 52, .inl (C.1, 20, .inl (σ 52))), (ad 53, .inl (C.1, 20, .inl (σ 53))), (ad 54, .inl (C.1, 20, .inl (σ 54))), (ad 55, .inl (C.1, 20, .inl (σ 55))), (ad 56, .inl (C.1, 20, .inl (σ 56))), (ad 57, .inl (C.2, 20, .inl (σ 57))), (ad 58, .inl (C.1, 7, .inl (σ 58))), (ad 59, .inl (C.2, 20, .inl (σ 59)))] := by rw [wd_mi]; rfl
def adA (ad1 : Nat → Nat) (x b : Nat) (u : Nat → Nat) : Nat → Nat := fun k => bif Nat.ble k 32 then ad1 k else bif Nat.beq k 33 then x else bif Nat.beq k 1000 then b else u (k - 34)
/-- the law's end -/
def FnL (b n : Nat) (xs : Nat → Int32) : FnT := fun p l e R s m args below meth c A Q => va_X b n xs s s.heap ∧ b < s.heap.size ∧ ¬ A b ∧ ∀ (H' : Heap) (locs' : List Loc) (ls' : Array Slot) (pc' : Nat), va_S A s.heap H' locs' → decode cL_law pc' = .ok (.ireturn, 1) → W p l e R s m args below meth c H' locs' 60 3369 Q (F0 m pc' ls' [.int 1])
theorem rc_rnL {D : va_G} {C : ClassId × ClassId} {ad : Nat → Nat} {σ : St} {b n x0 x8 pc ce sl : Nat} {ws : va_W} {xs : Nat → Int32} (hws : ws = wd C ad LAY σ) (hb : ad 1000 = b) (h0 : ad 0 = x0) (h33 : ad 33 = x8) (hc : ce = 60) (hs : sl = 3369) (h : Rn LAY (some (n, xs)) RL cL_law 4 10 398 pc [some (.ref 1000), some (.ref 0), some (.ref 33), some (.int (nI 0))] [] σ (EI (fun v _ => v = nI 1))) : Rc D C RL cL_law 4 false 10 398 60 3369 pc [(3, .int (nI 0)), (2, .ref x8), (1, .ref x0), (0, .ref b)] [] ce sl ws (FnL b n xs) := by
  intro p l e R s m args below meth c A H locs Q ls hf hr hw hl hE
  rw [hws] at hw
  rw [← hb, ← h0, ← h33] at hl
  unfold FnL at hE
  rw [← hb] at hE
  rw [hc, hs]
  refine h (cells := 60) (slots := 3369) ⟨hf.1, hr.1, hr.2.1, hr.2.2.1, hr.2.2.2.1, hr.2.2.2.2.1⟩ ⟨hr.2.2.2.2.2, fun n' xs' e => ?_⟩ hw ⟨hl.1, hl.2.1, by decide, fun k v hk => ?_⟩ ?_
  · cases e
    exact ⟨hE.1, hE.2.1, hE.2.2.1⟩
  · match k, hk with
    | 0, hk => cases hk; exact lv_at hl 3 rfl
    | 1, hk => cases hk; exact lv_at hl 2 rfl
    | 2, hk => cases hk; exact lv_at hl 1 rfl
    | 3, hk => cases hk; exact lv_at hl 0 rfl
    | k + 4, hk => simp at hk
  · rintro r τ H' locs' ls' pc' ⟨v, rfl, hv⟩ hW hRet
    subst hv
    exact hE.2.2.2 H' locs' ls' pc' hW.2.2 hRet
theorem cwL_9 : CwB RL 9 yX5_init cX5_init 1 none 0 := ⟨big_1 (i := 15) rfl rfl, big_1 (i := 1) rfl rfl, big_1 (i := 13) rfl rfl, by decide +kernel⟩
theorem cwL_12 : CwB RL 12 yX6_init cX6_init 1 none 0 := ⟨big_3 (i := 10) rfl rfl, big_1 (i := 8) rfl rfl, big_3 (i := 8) rfl rfl, by decide +kernel⟩
set_option maxRecDepth 100000 in
set_option maxHeartbeats 4000000 in
theorem law_rc (D : va_G) (C : ClassId × ClassId) {b n : Nat} {xs : Nat → Int32} (hn : n ≤ 4096) : Rc D C RL cL_law 4 false 10 398 60 3369 0 [(0, .ref b)] [] 0 0 [] (FnL b n xs) := by
  refine rc_new (q := 3) (ci := 5) (T := TX5) (N := 10) (tf := tyX5) (fs0 := [.null, .null, .null, .null, .null, .null, .null, .null, .int 0, .int 0]) (big_1 (i := 11) rfl rfl) (big_1 (i := 12) rfl rfl) (big_1 (i := 1) rfl rfl) inlX5 tyX5_ok rfl dfX5 dL_law_0 rfl (Nat.le_of_ble_eq_true rfl) (Nat.le_of_ble_eq_true rfl) (fun x0 => ?_)
  refine rc_dup (q := 4) dL_law_3 rfl ?_
  refine rc_callI (q := 7) (ci_X5 D C) cwL_9 wiX5 rfl dL_law_4 rfl (Nat.le_of_ble_eq_true rfl) (by decide) (by decide) (Nat.le_of_ble_eq_true rfl) (Nat.le_of_ble_eq_true rfl) (fun w4 hw4 => ?_)
  obtain ⟨ad1, h1, e4⟩ := hw4
  rw [e4]
  refine rc_astore (q := 8) (lv' := [(1, .ref x0), (0, .ref b)]) dL_law_7 rfl (by decide) rfl ?_
  refine rc_new (q := 11) (ci := 6) (T := TX6) (N := 43) (tf := tyX6) (fs0 := [.null, .null, .null, .null, .null, .int 0, .int 0, .int 0, .null, .null, .null, .null, .null, .null, .null, .null, .null, .null, .null, .int 0, .null, .null, .null, .null, .null, .null, .null, .null, .null, .int 0, .int 0, .int 0, .int 0, .int 0, .int 0, .int 0, .int 0, .int 0, .int 0, .int 0, .int 0, .int 0, .null]) (big_3 (i := 6) rfl rfl) (big_3 (i := 7) rfl rfl) (big_1 (i := 8) rfl rfl) inlX6 tyX6_ok rfl dfX6 dL_law_8 rfl (Nat.le_of_ble_eq_true rfl) (Nat.le_of_ble_eq_true rfl) (fun x8 => ?_)
  refine rc_dup (q := 12) dL_law_11 rfl ?_
  refine rc_callI (q := 15) (ci_X6 D C) cwL_12 wiX6 rfl dL_law_12 rfl (Nat.le_of_ble_eq_true rfl) (by decide) (by decide) (Nat.le_of_ble_eq_true rfl) (Nat.le_of_ble_eq_true rfl) (fun w12 hw12 => ?_)
  obtain ⟨u, rfl⟩ := hw12
  refine rc_astore (q := 16) (lv' := [(2, .ref x8), (1, .ref x0), (0, .ref b)]) dL_law_15 rfl (by decide) rfl ?_
  refine rc_iconst (q := 17) (v := nI 0) dL_law_16 rfl (by decide) ?_
  refine rc_istore (q := 18) (lv' := [(3, .int (nI 0)), (2, .ref x8), (1, .ref x0), (0, .ref b)]) dL_law_17 rfl (by decide) rfl ?_
  refine rc_rnL (ad := adA ad1 x8 b u) (σ := fillR s0 (-1) 160) ?_ rfl h1 rfl rfl rfl (l_law hn n 0 _ (by omega) (by omega) IV_0)
  rw [wdC_eq, wdL_eq]
  simp only [List.nil_append, List.cons_append]
  rfl
set_option maxRecDepth 100000 in
set_option maxHeartbeats 4000000 in
theorem known {s : State} {args : Array Value} (hts : ∀ w ∈ lw_tbl, w.before args s = true) : ∃ (D : va_G) (C : ClassId × ClassId), Kn D C s := by
  have hbig : ∀ w ∈ lw_big, w.before args s = true := fun w hw => hts w (big_in w hw)
  obtain ⟨c0, i0, k0⟩ := u_known (C := RX0) (T := TX0) (N := 5) (n := 5) hbig inlX0 (hbig _ (big_1 (i := 119) rfl rfl))
  obtain ⟨c1, i1, k1⟩ := u_known (C := RX1) (T := TX1) (N := 8) (n := 8) hbig inlX1 (hbig _ (big_1 (i := 35) rfl rfl))
  obtain ⟨c2, i2, k2⟩ := u_known (C := RX2) (T := TX2) (N := 4) (n := 4) hbig inlX2 (hbig _ (big_1 (i := 145) rfl rfl))
  obtain ⟨c3, i3, k3⟩ := u_known (C := RX3) (T := TX3) (N := 2) (n := 2) hbig inlX3 (hbig _ (big_1 (i := 20) rfl rfl))
  obtain ⟨c4, i4, k4⟩ := u_known (C := RX4) (T := TX4) (N := 10) (n := 10) hbig inlX4 (hbig _ (big_1 (i := 78) rfl rfl))
  obtain ⟨c5, i5, k5⟩ := u_known (C := RX5) (T := TX5) (N := 10) (n := 10) hbig inlX5 (hbig _ (big_1 (i := 12) rfl rfl))
  obtain ⟨c6, i6, k6⟩ := u_known (C := RX6) (T := TX6) (N := 43) (n := 43) hbig inlX6 (hbig _ (big_3 (i := 7) rfl rfl))
  obtain ⟨cI, kI, pI, a1, a2, a3⟩ := Cond.arrayClass_spec (hbig _ wAI)
  obtain ⟨cZ, kZ, pZ, b1, b2, b3⟩ := Cond.arrayClass_spec (hbig _ wAZ)
  refine ⟨(fun k => match k with | 0 => c0 | 1 => c1 | 2 => c2 | 3 => c3 | 4 => c4 | 5 => c5 | _ => c6, fun k => match k with | 0 => i0 | 1 => i1 | 2 => i2 | 3 => i3 | 4 => i4 | 5 => i5 | _ => i6), (cI, cZ), ⟨fun k q hq => ?_, fun k q hq => ?_⟩, fun w hw => ?_⟩
  · match k, hq with
    | 0, hq => cases hq; exact k0
    | 1, hq => cases hq; exact k1
    | 2, hq => cases hq; exact k2
    | 3, hq => cases hq; exact k3
    | 4, hq => cases hq; exact k4
    | 5, hq => cases hq; exact k5
    | 6, hq => cases hq; exact k6
    | k + 7, hq => simp at hq
  · match k, hq with
    | 0, hq => cases hq; exact ⟨fun n z => ⟨fun k h => (by cases h), kI, a2, pI, a3⟩, a1⟩
    | 1, hq => cases hq; exact ⟨fun n z => ⟨fun k h => (by cases h), kZ, b2, pZ, b3⟩, b1⟩
    | k + 2, hq => simp at hq
  · have hm : w ∈ lw_tbl := by
      simp only [nestW, List.mem_cons, List.not_mem_nil, or_false] at hw
      rcases hw with rfl | rfl | rfl | rfl | rfl | rfl
      · exact List.mem_append_right _ (List.mem_append_right _ (List.mem_append_left _ (List.mem_of_getElem? (i := 70) rfl)))
      · exact List.mem_append_right _ (List.mem_append_left _ (List.mem_of_getElem? (i := 21) rfl))
      · exact List.mem_append_right _ (List.mem_append_left _ (List.mem_of_getElem? (i := 36) rfl))
      · exact List.mem_append_right _ (List.mem_append_left _ (List.mem_of_getElem? (i := 79) rfl))
      · exact List.mem_append_right _ (List.mem_append_left _ (List.mem_of_getElem? (i := 120) rfl))
      · exact List.mem_append_right _ (List.mem_append_left _ (List.mem_of_getElem? (i := 146) rfl))
    obtain ⟨a, i, x, h, rfl⟩ := nestW_ex hw
    exact va_Nw.of rfl (hts _ hm)
end
