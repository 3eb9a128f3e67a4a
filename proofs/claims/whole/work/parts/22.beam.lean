/-! ===== the beam ===== -/
def wayIs (V : St) (k : Nat) (τ : St) : Prop := τ 23 0 = V 35 k ∧ τ 23 1 = V 36 k ∧ τ 23 2 = nI (nv V 37 k)
/-- only these two cells have changed -/
def off2 (a b : Nat) (σ τ : St) : Prop := ∀ k, ¬ k = a → ¬ k = b → τ k = σ k
theorem off2.rf (a b : Nat) (σ : St) : off2 a b σ σ := fun _ _ _ => rfl
theorem off2.trans {a b : Nat} {σ τ ρ : St} (h1 : off2 a b σ τ) (h2 : off2 a b τ ρ) : off2 a b σ ρ := fun k x y => (h2 k x y).trans (h1 k x y)
set_option maxRecDepth 100000 in
set_option maxHeartbeats 4000000 in
theorem c_X0_startAt (σ V : St) (hV : vw σ = V) (a : Nat) (x y : Int32) (h : a < 3) : Cl LAYC yX0_startAt cX0_startAt 4 (none) 0 0 [.ref 22, .int (nI a), .int x, .int y] σ (EV (fun τ => vw τ = V ∧ off2 24 25 σ τ ∧ (∀ i, τ 24 i = if i = a then x else σ 24 i) ∧ ∀ i, τ 25 i = if i = a then y else σ 25 i)) := by
  refine Cl.of 0 rfl rfl EV.ok ?_
  show Rn LAYC none RX0 _ _ _ _ 0 [some (.ref 22), some (.int (nI a)), some (.int x), some (.int y)] [] _ _
  refine r_aload_n (q := 1) dX0_startAt_0 rfl rfl ?_
  refine gX0_15 (q := 4) dX0_startAt_1 rfl ?_
  refine r_iload_n (q := 5) dX0_startAt_4 rfl rfl ?_
  refine r_iload_n (q := 6) dX0_startAt_5 rfl rfl ?_
  refine r_iastS (q := 7) hV dX0_startAt_6 rfl LA24 rfl (by omega) (by decide) (fun s6 e6 hV6 => ?_)
  refine r_aload_n (q := 8) dX0_startAt_7 rfl rfl ?_
  refine gX0_18 (q := 11) dX0_startAt_8 rfl ?_
  refine r_iload_n (q := 12) dX0_startAt_11 rfl rfl ?_
  refine r_iload_n (q := 13) dX0_startAt_12 rfl rfl ?_
  refine r_iastS (q := 14) hV6 dX0_startAt_13 rfl LA25 rfl (by omega) (by decide) (fun s13 e13 hV13 => ?_)
  refine r_retV dX0_startAt_14 ⟨hV13, fun k h1 h2 => ?_, fun i => ?_, fun i => ?_⟩
  · funext i
    rw [e13, u2, if_neg (by omega), e6, u2, if_neg (by omega)]
  · rw [e13, u2, if_neg (by omega), e6, u2]
    by_cases h : i = a
    · rw [if_pos ⟨rfl, h⟩, if_pos h]
    · rw [if_neg (by omega), if_neg h]
  · rw [e13, u2]
    by_cases h : i = a
    · rw [if_pos ⟨rfl, h⟩, if_pos h]
    · rw [if_neg (by omega), if_neg h, e6, u2, if_neg (by omega)]
set_option maxRecDepth 100000 in
set_option maxHeartbeats 4000000 in
theorem c_X3_turn (σ V : St) (hV : vw σ = V) (hG : GOOD V) (d m : Nat) (hd : d < 8) (hm : m < 24) : Cl LAYC yX3_turn cX3_turn 6 (none) 0 0 [.ref 1, .int (nI d), .int (nI m), .ref 22] σ (EV (fun τ => vw τ = V ∧ wayIs V (24 * d + m) τ ∧ ∀ k, ¬ k = 23 → τ k = σ k)) := by
  have hI := hG.1.1
  have hR := hG.2
  refine Cl.of 2 rfl rfl EV.ok ?_
  show Rn LAYC none RX3 _ _ _ _ 0 [some (.ref 1), some (.int (nI d)), some (.int (nI m)), some (.ref 22), none, none] [] _ _
  refine r_iload_n (q := 1) dX3_turn_0 rfl rfl ?_
  refine r_bipush (q := 3) (v := nI 24) dX3_turn_1 rfl (by decide) ?_
  refine r_imulN (q := 4) dX3_turn_3 rfl ?_
  refine r_iload_n (q := 5) dX3_turn_4 rfl rfl ?_
  refine r_iaddN (q := 6) dX3_turn_5 rfl ?_
  refine r_iconst (q := 7) (v := nI 3) dX3_turn_6 rfl (by decide) ?_
  refine r_imulN (q := 8) dX3_turn_7 rfl ?_
  refine r_istore (q := 10) dX3_turn_8 rfl (Nat.le_of_ble_eq_true rfl) ?_
  refine r_iconst (q := 11) (v := nI 0) dX3_turn_10 rfl (by decide) ?_
  refine r_istore (q := 13) dX3_turn_11 rfl (Nat.le_of_ble_eq_true rfl) ?_
  refine r_iload (q := 15) dX3_turn_13 rfl rfl ?_
  refine r_iconst (q := 16) (v := nI 3) dX3_turn_15 rfl (by decide) ?_
  refine r_icmp_geN (t := 42) (q := 19) dX3_turn_16 (by decide) rfl (by decide) (by decide) (fun c16 => absurd c16 (by decide)) (fun c16 => ?_)
  refine r_aload_n (q := 20) dX3_turn_19 rfl rfl ?_
  refine gX3_22 (q := 23) dX3_turn_20 rfl ?_
  refine r_iload (q := 25) dX3_turn_23 rfl rfl ?_
  refine r_aload_n (q := 26) dX3_turn_25 rfl rfl ?_
  refine gX3_15 (q := 29) dX3_turn_26 rfl ?_
  refine r_iload (q := 31) dX3_turn_29 rfl rfl ?_
  refine r_iload (q := 33) dX3_turn_31 rfl rfl ?_
  refine r_iaddN (q := 34) dX3_turn_33 rfl ?_
  refine r_ialdW (q := 35) hV dX3_turn_34 rfl LA3 rfl (by decide) (by omega) ?_
  refine r_iastS (q := 36) hV dX3_turn_35 rfl LA23 rfl (by omega) (by decide) (fun s35_1 e35_1 hV35_1 => ?_)
  refine r_iinc (q := 39) (v := nI (0 + 1)) dX3_turn_36 rfl rfl (by rw [show Int32.ofInt 1 = nI 1 from rfl]; exact nI_add _ _) ?_
  refine r_goto (q := 13) dX3_turn_39 (by decide) ?_
  refine r_iload (q := 15) dX3_turn_13 rfl rfl ?_
  refine r_iconst (q := 16) (v := nI 3) dX3_turn_15 rfl (by decide) ?_
  refine r_icmp_geN (t := 42) (q := 19) dX3_turn_16 (by decide) rfl (by decide) (by decide) (fun c16 => absurd c16 (by decide)) (fun c16 => ?_)
  refine r_aload_n (q := 20) dX3_turn_19 rfl rfl ?_
  refine gX3_22 (q := 23) dX3_turn_20 rfl ?_
  refine r_iload (q := 25) dX3_turn_23 rfl rfl ?_
  refine r_aload_n (q := 26) dX3_turn_25 rfl rfl ?_
  refine gX3_15 (q := 29) dX3_turn_26 rfl ?_
  refine r_iload (q := 31) dX3_turn_29 rfl rfl ?_
  refine r_iload (q := 33) dX3_turn_31 rfl rfl ?_
  refine r_iaddN (q := 34) dX3_turn_33 rfl ?_
  refine r_ialdW (q := 35) hV35_1 dX3_turn_34 rfl LA3 rfl (by decide) (by omega) ?_
  refine r_iastS (q := 36) hV35_1 dX3_turn_35 rfl LA23 rfl (by omega) (by decide) (fun s35_2 e35_2 hV35_2 => ?_)
  refine r_iinc (q := 39) (v := nI (0 + 1 + 1)) dX3_turn_36 rfl rfl (by rw [show Int32.ofInt 1 = nI 1 from rfl]; exact nI_add _ _) ?_
  refine r_goto (q := 13) dX3_turn_39 (by decide) ?_
  refine r_iload (q := 15) dX3_turn_13 rfl rfl ?_
  refine r_iconst (q := 16) (v := nI 3) dX3_turn_15 rfl (by decide) ?_
  refine r_icmp_geN (t := 42) (q := 19) dX3_turn_16 (by decide) rfl (by decide) (by decide) (fun c16 => absurd c16 (by decide)) (fun c16 => ?_)
  refine r_aload_n (q := 20) dX3_turn_19 rfl rfl ?_
  refine gX3_22 (q := 23) dX3_turn_20 rfl ?_
  refine r_iload (q := 25) dX3_turn_23 rfl rfl ?_
  refine r_aload_n (q := 26) dX3_turn_25 rfl rfl ?_
  refine gX3_15 (q := 29) dX3_turn_26 rfl ?_
  refine r_iload (q := 31) dX3_turn_29 rfl rfl ?_
  refine r_iload (q := 33) dX3_turn_31 rfl rfl ?_
  refine r_iaddN (q := 34) dX3_turn_33 rfl ?_
  refine r_ialdW (q := 35) hV35_2 dX3_turn_34 rfl LA3 rfl (by decide) (by omega) ?_
  refine r_iastS (q := 36) hV35_2 dX3_turn_35 rfl LA23 rfl (by omega) (by decide) (fun s35_3 e35_3 hV35_3 => ?_)
  refine r_iinc (q := 39) (v := nI (0 + 1 + 1 + 1)) dX3_turn_36 rfl rfl (by rw [show Int32.ofInt 1 = nI 1 from rfl]; exact nI_add _ _) ?_
  refine r_goto (q := 13) dX3_turn_39 (by decide) ?_
  refine r_iload (q := 15) dX3_turn_13 rfl rfl ?_
  refine r_iconst (q := 16) (v := nI 3) dX3_turn_15 rfl (by decide) ?_
  refine r_icmp_geN (t := 42) (q := 19) dX3_turn_16 (by decide) rfl (by decide) (by decide) (fun c16 => ?_) (fun c16 => absurd (by decide) c16)
  refine r_retV dX3_turn_42 ⟨hV35_3, ?_, fun k hk => ?_⟩
  · obtain ⟨y1, y2, y3⟩ := hR.way (d * 24 + m)
    have e37 := (hI 37 (24 * d + m) rfl).1
    have ek : d * 24 + m = 24 * d + m := by omega
    rw [ek] at y1 y2 y3
    refine ⟨?_, ?_, ?_⟩
    · rw [e35_3, u2, if_neg (by omega), e35_2, u2, if_neg (by omega), e35_1, u2, if_pos ⟨rfl, rfl⟩, ← y1, ek]; rfl
    · rw [e35_3, u2, if_neg (by omega), e35_2, u2, if_pos ⟨rfl, rfl⟩, ← y2, ek]
    · rw [e35_3, u2, if_pos ⟨rfl, rfl⟩, ← e37, ← y3, ek]
  · funext i
    rw [e35_3, u2, if_neg (by omega), e35_2, u2, if_neg (by omega), e35_1, u2, if_neg (by omega)]
set_option maxRecDepth 100000 in
set_option maxHeartbeats 4000000 in
theorem c_X4_faces (σ V : St) (hV : vw σ = V) (hG : GOOD V) (w k : Nat) (h : w < 20) (hw : wayIs V k σ) : Cl LAYC yX4_faces cX4_faces 4 (some .boolean) 0 0 [.ref 12, .int (nI w), .ref 22] σ (EI (fun r τ => r = nI (front V w k) ∧ τ = σ)) := by
  have hI := hG.1.1
  have hR := hG.2
  refine Cl.of 1 rfl rfl (EI.okZ (okB (front_le _ _ _))) ?_
  show Rn LAYC none RX4 _ _ _ _ 0 [some (.ref 12), some (.int (nI w)), some (.ref 22), none] [] _ _
  obtain ⟨x1, x2, x3⟩ := hR.wall w
  obtain ⟨q1, q2, q3⟩ := hw
  refine r_aload_n (q := 1) dX4_faces_0 rfl rfl ?_
  refine gX4_55 (q := 4) dX4_faces_1 rfl ?_
  refine r_aload_n (q := 5) dX4_faces_4 rfl rfl ?_
  refine gX4_19 (q := 8) dX4_faces_5 rfl ?_
  refine r_iload_n (q := 9) dX4_faces_8 rfl rfl ?_
  refine r_ialdV (q := 10) hV hI dX4_faces_9 rfl LA14 rfl rfl (by decide) (by omega) ?_
  refine r_iald (q := 11) dX4_faces_10 rfl LA23 (by have := bd hI 14 w 1 rfl rfl; omega) (by decide) ?_
  have ew : σ 23 (nv V 14 w) = if nv V 50 w < 2 then V 35 k else V 36 k := by
    rw [x1]
    by_cases hs : nv V 50 w < 2
    · rw [if_pos hs, if_pos hs]; exact q1
    · rw [if_neg hs, if_neg hs]; exact q2
  refine r_as ew ?_
  refine r_istore_n (q := 12) dX4_faces_11 rfl (Nat.le_of_ble_eq_true rfl) ?_
  refine r_aload_n (q := 13) dX4_faces_12 rfl rfl ?_
  refine gX4_15 (q := 16) dX4_faces_13 rfl ?_
  refine r_iload_n (q := 17) dX4_faces_16 rfl rfl ?_
  refine r_ialdV (q := 18) hV hI dX4_faces_17 rfl LA13 rfl rfl (by decide) (by omega) ?_
  refine r_iconst (q := 19) (v := nI 2) dX4_faces_18 rfl (by decide) ?_
  refine r_iremN (q := 20) dX4_faces_19 rfl (by have := bd hI 13 w 3 rfl rfl; omega) (by omega) (by omega) ?_
  refine r_if_neN (t := 35) (q := 23) dX4_faces_20 (by decide) rfl (by have := bd hI 13 w 3 rfl rfl; omega) (fun c20 => ?_) (fun c20 => ?_)
  · refine r_iload_n (q := 36) dX4_faces_35 rfl rfl ?_
    refine r_if_ge (t := 43) (q := 39) dX4_faces_36 (by decide) rfl (fun c36 => ?_) (fun c36 => ?_)
    · refine r_iconst (q := 44) (v := nI 0) dX4_faces_43 rfl (by decide) ?_
      have h13 := (hR.win w).1
      exact r_retI dX4_faces_44 ⟨by rw [front, if_neg (by omega), if_pos c36], rfl⟩
    · refine r_iconst (q := 40) (v := nI 1) dX4_faces_39 rfl (by decide) ?_
      refine r_goto (q := 44) dX4_faces_40 (by decide) ?_
      have h13 := (hR.win w).1
      exact r_retI dX4_faces_44 ⟨by rw [front, if_neg (by omega), if_neg c36], rfl⟩
  · refine r_iload_n (q := 24) dX4_faces_23 rfl rfl ?_
    refine r_if_le (t := 31) (q := 27) dX4_faces_24 (by decide) rfl (fun c24 => ?_) (fun c24 => ?_)
    · refine r_iconst (q := 32) (v := nI 0) dX4_faces_31 rfl (by decide) ?_
      refine r_goto (q := 44) dX4_faces_32 (by decide) ?_
      have h13 := (hR.win w).1
      exact r_retI dX4_faces_44 ⟨by rw [front, if_pos (by omega), if_pos c24], rfl⟩
    · refine r_iconst (q := 28) (v := nI 1) dX4_faces_27 rfl (by decide) ?_
      refine r_goto (q := 44) dX4_faces_28 (by decide) ?_
      have h13 := (hR.win w).1
      exact r_retI dX4_faces_44 ⟨by rw [front, if_pos (by omega), if_neg c24], rfl⟩
set_option maxRecDepth 100000 in
set_option maxHeartbeats 4000000 in
theorem c_X4_middle (σ : St) (x : Nat) : Cl LAYC yX4_middle cX4_middle 1 (some .int) 0 0 [.int (nI x)] σ (EI (fun r τ => r = nI (2 * x + 1) ∧ τ = σ)) := by
  refine Cl.of 0 rfl rfl EI.ok ?_
  show Rn LAYC none RX4 _ _ _ _ 0 [some (.int (nI x))] [] _ _
  refine r_iconst (q := 1) (v := nI 2) dX4_middle_0 rfl (by decide) ?_
  refine r_iload_n (q := 2) dX4_middle_1 rfl rfl ?_
  refine r_imulN (q := 3) dX4_middle_2 rfl ?_
  refine r_iconst (q := 4) (v := nI 1) dX4_middle_3 rfl (by decide) ?_
  refine r_iaddN (q := 5) dX4_middle_4 rfl ?_
  exact r_retI dX4_middle_5 ⟨rfl, rfl⟩
theorem nI_max {x y : Nat} (hx : x < 2 ^ 31) (hy : y < 2 ^ 31) : (if nI x < nI y then nI y else nI x) = nI (max x y) := by
  by_cases h : x < y
  · rw [if_pos ((nI_ltI hx hy).mpr h), Nat.max_eq_right (by omega)]
  · rw [if_neg (fun e => h ((nI_ltI hx hy).mp e)), Nat.max_eq_left (by omega)]
theorem max_code : Cond.code yJ9_max_7cf53 cJ9_max_7cf53 2 (some .int) = Cond.code Lib.Math.max.name Lib.Math.max.code 2 (some .int) := by
  congr 1
theorem r_max {ly : List LyE} {sc : Option (Nat × (Nat → Int32))} {cc : ByteArray} {nL fr lo pc q : Nat} {L : List (Option Value)} {st : List Value} {σ : St} {E : Option Int32 → St → Prop} {x y : Nat} (hd : decode cc pc = .ok (.invokestatic 60, 3)) (hq : pc + 3 = q) (hf : 1 ≤ fr) (hl : st.length + 13 ≤ lo) (hx : x < 2 ^ 31) (hy : y < 2 ^ 31) (K : Rn ly sc RX4 cc nL fr lo q L (.int (nI (max x y)) :: st) σ E) : Rn ly sc RX4 cc nL fr lo pc L (.int (nI y) :: .int (nI x) :: st) σ E := by
  subst hq
  intro p l e R s m args below meth c D C ad A H locs cells slots Q ls hC hX hW hL hE
  rw [← nI_max hx hy] at K
  have hts := hC.1.2.2.2.2
  have hv := vX4_60
  exact va_mmax hC.1.1 hC.1.2.1 (by rw [hC.1.2.2.1, hL.1]) hC.1.2.2.2.1 (hts _ hv.1.2.2.1) (hts _ hv.2) (hts _ hv.1.2.1) (max_code ▸ hts _ hv.1.1) (Nat.le_trans hf hC.2.1) (by rw [cat_sum]; exact Nat.le_trans hl hC.2.2.1) hC.2.2.2.1 hC.2.2.2.2.1 hd (K hC hX hW hL hE)
def pointIs (V : St) (w c : Nat) (τ : St) : Prop := (τ 24 0 = nI (ptX V w c) ∧ τ 24 1 = nI (ptY V w c) ∧ τ 24 2 = nI (ptZ V w c)) ∧ τ 25 0 = nI (ptX V w c) ∧ τ 25 1 = nI (ptY V w c) ∧ τ 25 2 = nI (ptZ V w c)
def loU (V : St) (w : Nat) : Nat := 2 * nv V 52 w + 1
def hiU (V : St) (w : Nat) : Nat := 2 * (nv V 53 w - 1) + 1
def loZ (V : St) (w : Nat) : Nat := 2 * nv V 54 w + 1
def hiZ (V : St) (w : Nat) : Nat := 2 * (nv V 55 w - 1) + 1
def windIs (V : St) (w : Nat) (τ : St) : Prop := (τ 24 0 = nI (if nv V 50 w < 2 then 2 * nv V 51 w else loU V w) ∧ τ 24 1 = nI (if nv V 50 w < 2 then loU V w else 2 * nv V 51 w) ∧ τ 24 2 = nI (loZ V w)) ∧ τ 25 0 = nI (if nv V 50 w < 2 then 2 * nv V 51 w else hiU V w) ∧ τ 25 1 = nI (if nv V 50 w < 2 then hiU V w else 2 * nv V 51 w) ∧ τ 25 2 = nI (hiZ V w)
set_option maxRecDepth 100000 in
set_option maxHeartbeats 4000000 in
theorem c_X4_standOn (σ V : St) (hV : vw σ = V) (hG : GOOD V) (w c : Nat) (h : w < 20) (hn : w < nv V 33 19) (hc : c < 64) : Cl LAYC yX4_standOn cX4_standOn 8 (none) 1 23 [.ref 12, .int (nI w), .int (nI c), .ref 22] σ (EV (fun τ => vw τ = V ∧ pointIs V w c τ ∧ off2 24 25 σ τ)) := by
  have hI := hG.1.1
  have hR := hG.2
  refine Cl.of 4 rfl rfl EV.ok ?_
  show Rn LAYC none RX4 _ _ _ _ 0 [some (.ref 12), some (.int (nI w)), some (.int (nI c)), some (.ref 22), none, none, none, none] [] _ _
  obtain ⟨x1, x2, x3⟩ := hR.wall w
  obtain ⟨z1, z2, z3, z4, z5, z6⟩ := hR.win w
  have hax := bd hI 14 w 1 rfl rfl
  have hwd := bd hI 18 w 200 rfl rfl
  obtain ⟨g1, g2⟩ := (hG.1.2.1 w).2.2.2 hn
  refine r_iconst (q := 1) (v := nI 1) dX4_standOn_0 rfl (by decide) ?_
  refine r_aload_n (q := 2) dX4_standOn_1 rfl rfl ?_
  refine gX4_31 (q := 5) dX4_standOn_2 rfl ?_
  refine r_iload_n (q := 6) dX4_standOn_5 rfl rfl ?_
  refine r_ialdV (q := 7) hV hI dX4_standOn_6 rfl LA18 rfl rfl (by decide) (by omega) ?_
  refine r_max (q := 10) dX4_standOn_7 rfl (by decide) (by decide) (by decide) (by omega) ?_
  refine r_istore (q := 12) dX4_standOn_10 rfl (Nat.le_of_ble_eq_true rfl) ?_
  refine r_aload_n (q := 13) dX4_standOn_12 rfl rfl ?_
  refine gX4_25 (q := 16) dX4_standOn_13 rfl ?_
  refine r_iload_n (q := 17) dX4_standOn_16 rfl rfl ?_
  refine r_ialdV (q := 18) hV hI dX4_standOn_17 rfl LA16 rfl rfl (by decide) (by omega) ?_
  refine r_iload_n (q := 19) dX4_standOn_18 rfl rfl ?_
  refine r_iload (q := 21) dX4_standOn_19 rfl rfl ?_
  refine r_iremN (q := 22) dX4_standOn_21 rfl (by omega) (by omega) (by omega) ?_
  refine r_iaddN (q := 23) dX4_standOn_22 rfl ?_
  refine r_sI1 (q := 26) vX4_66 dX4_standOn_23 rfl (Nat.le_of_ble_eq_true rfl) (by decide) (by decide) (c_X4_middle _ _) ?_
  rintro _ τ0 ⟨rfl, hτ0⟩
  rw [hτ0]
  clear hτ0
  refine r_istore (q := 28) dX4_standOn_26 rfl (Nat.le_of_ble_eq_true rfl) ?_
  refine r_aload_n (q := 29) dX4_standOn_28 rfl rfl ?_
  refine gX4_28 (q := 32) dX4_standOn_29 rfl ?_
  refine r_iload_n (q := 33) dX4_standOn_32 rfl rfl ?_
  refine r_ialdV (q := 34) hV hI dX4_standOn_33 rfl LA17 rfl rfl (by decide) (by omega) ?_
  refine r_iload_n (q := 35) dX4_standOn_34 rfl rfl ?_
  refine r_iload (q := 37) dX4_standOn_35 rfl rfl ?_
  refine r_idivN (q := 38) dX4_standOn_37 rfl (by omega) (by omega) (by omega) ?_
  refine r_iaddN (q := 39) dX4_standOn_38 rfl ?_
  refine r_sI1 (q := 42) vX4_66 dX4_standOn_39 rfl (Nat.le_of_ble_eq_true rfl) (by decide) (by decide) (c_X4_middle _ _) ?_
  rintro _ τ0 ⟨rfl, hτ0⟩
  rw [hτ0]
  clear hτ0
  refine r_istore (q := 44) dX4_standOn_42 rfl (Nat.le_of_ble_eq_true rfl) ?_
  refine r_aload_n (q := 45) dX4_standOn_44 rfl rfl ?_
  refine gX4_19 (q := 48) dX4_standOn_45 rfl ?_
  refine r_iload_n (q := 49) dX4_standOn_48 rfl rfl ?_
  refine r_ialdV (q := 50) hV hI dX4_standOn_49 rfl LA14 rfl rfl (by decide) (by omega) ?_
  refine r_istore (q := 52) dX4_standOn_50 rfl (Nat.le_of_ble_eq_true rfl) ?_
  refine r_aload_n (q := 53) dX4_standOn_52 rfl rfl ?_
  refine r_iload (q := 55) dX4_standOn_53 rfl rfl ?_
  refine r_iconst (q := 56) (v := nI 2) dX4_standOn_55 rfl (by decide) ?_
  refine r_aload_n (q := 57) dX4_standOn_56 rfl rfl ?_
  refine gX4_22 (q := 60) dX4_standOn_57 rfl ?_
  refine r_iload_n (q := 61) dX4_standOn_60 rfl rfl ?_
  refine r_ialdV (q := 62) hV hI dX4_standOn_61 rfl LA15 rfl rfl (by decide) (by omega) ?_
  refine r_imulN (q := 63) dX4_standOn_62 rfl ?_
  refine r_iconst (q := 64) (v := nI 2) dX4_standOn_63 rfl (by decide) ?_
  refine r_aload_n (q := 65) dX4_standOn_64 rfl rfl ?_
  refine gX4_22 (q := 68) dX4_standOn_65 rfl ?_
  refine r_iload_n (q := 69) dX4_standOn_68 rfl rfl ?_
  refine r_ialdV (q := 70) hV hI dX4_standOn_69 rfl LA15 rfl rfl (by decide) (by omega) ?_
  refine r_imulN (q := 71) dX4_standOn_70 rfl ?_
  refine r_cV3 (q := 74) vX4_69 dX4_standOn_71 rfl LYX0 rfl (Nat.le_of_ble_eq_true rfl) (by decide) (by decide) (c_X0_startAt _ V hV _ _ _ (by omega)) ?_
  rintro s71 ⟨hV71, o71, l71, m71⟩
  refine r_aload_n (q := 75) dX4_standOn_74 rfl rfl ?_
  refine r_iconst (q := 76) (v := nI 1) dX4_standOn_75 rfl (by decide) ?_
  refine r_iload (q := 78) dX4_standOn_76 rfl rfl ?_
  refine r_isubN (q := 79) dX4_standOn_78 rfl (by omega) ?_
  refine r_iload (q := 81) dX4_standOn_79 rfl rfl ?_
  refine r_iload (q := 83) dX4_standOn_81 rfl rfl ?_
  refine r_cV3 (q := 86) vX4_69 dX4_standOn_83 rfl LYX0 rfl (Nat.le_of_ble_eq_true rfl) (by decide) (by decide) (c_X0_startAt _ V hV71 _ _ _ (by omega)) ?_
  rintro s83 ⟨hV83, o83, l83, m83⟩
  refine r_aload_n (q := 87) dX4_standOn_86 rfl rfl ?_
  refine r_iconst (q := 88) (v := nI 2) dX4_standOn_87 rfl (by decide) ?_
  refine r_iload (q := 90) dX4_standOn_88 rfl rfl ?_
  refine r_iload (q := 92) dX4_standOn_90 rfl rfl ?_
  refine r_cV3 (q := 95) vX4_69 dX4_standOn_92 rfl LYX0 rfl (Nat.le_of_ble_eq_true rfl) (by decide) (by decide) (c_X0_startAt _ V hV83 _ _ _ (by omega)) ?_
  rintro s92 ⟨hV92, o92, l92, m92⟩
  have em : max 1 (nv V 18 w) = nv V 53 w - nv V 52 w := by omega
  have eu : 2 * (nv V 16 w + c % max 1 (nv V 18 w)) + 1 = ptU V w c := by rw [em, z3]; rfl
  have ez : 2 * (nv V 17 w + c / max 1 (nv V 18 w)) + 1 = ptZ V w c := by rw [em, z4]; rfl
  have k0 : ∀ i, s92 24 i = if i = 2 then nI (ptZ V w c) else if i = 1 - nv V 14 w then nI (ptU V w c) else if i = nv V 14 w then nI (2 * nv V 51 w) else σ 24 i := by
    intro i
    rw [l92, l83, l71, eu, ez, z2]
  have k1 : ∀ i, s92 25 i = if i = 2 then nI (ptZ V w c) else if i = 1 - nv V 14 w then nI (ptU V w c) else if i = nv V 14 w then nI (2 * nv V 51 w) else σ 25 i := by
    intro i
    rw [m92, m83, m71, eu, ez, z2]
  refine r_retV dX4_standOn_95 ⟨hV92, ?_, (o71.trans o83).trans o92⟩
  unfold pointIs ptX ptY
  rw [k0, k0, k0, k1, k1, k1, x1]
  by_cases hs : nv V 50 w < 2
  · simp [hs]
  · simp [hs]
set_option maxRecDepth 100000 in
set_option maxHeartbeats 4000000 in
theorem c_X4_standOnAll (σ V : St) (hV : vw σ = V) (hG : GOOD V) (w : Nat) (h : w < 20) (hn : w < nv V 33 19) : Cl LAYC yX4_standOnAll cX4_standOnAll 6 (none) 1 23 [.ref 12, .int (nI w), .ref 22] σ (EV (fun τ => vw τ = V ∧ windIs V w τ ∧ off2 24 25 σ τ)) := by
  have hI := hG.1.1
  have hR := hG.2
  refine Cl.of 3 rfl rfl EV.ok ?_
  show Rn LAYC none RX4 _ _ _ _ 0 [some (.ref 12), some (.int (nI w)), some (.ref 22), none, none, none] [] _ _
  obtain ⟨x1, x2, x3⟩ := hR.wall w
  obtain ⟨z1, z2, z3, z4, z5, z6⟩ := hR.win w
  have hax := bd hI 14 w 1 rfl rfl
  have hwd := bd hI 18 w 200 rfl rfl
  obtain ⟨g1, g2⟩ := (hG.1.2.1 w).2.2.2 hn
  refine r_aload_n (q := 1) dX4_standOnAll_0 rfl rfl ?_
  refine gX4_25 (q := 4) dX4_standOnAll_1 rfl ?_
  refine r_iload_n (q := 5) dX4_standOnAll_4 rfl rfl ?_
  refine r_ialdV (q := 6) hV hI dX4_standOnAll_5 rfl LA16 rfl rfl (by decide) (by omega) ?_
  refine r_istore_n (q := 7) dX4_standOnAll_6 rfl (Nat.le_of_ble_eq_true rfl) ?_
  refine r_aload_n (q := 8) dX4_standOnAll_7 rfl rfl ?_
  refine gX4_28 (q := 11) dX4_standOnAll_8 rfl ?_
  refine r_iload_n (q := 12) dX4_standOnAll_11 rfl rfl ?_
  refine r_ialdV (q := 13) hV hI dX4_standOnAll_12 rfl LA17 rfl rfl (by decide) (by omega) ?_
  refine r_istore (q := 15) dX4_standOnAll_13 rfl (Nat.le_of_ble_eq_true rfl) ?_
  refine r_aload_n (q := 16) dX4_standOnAll_15 rfl rfl ?_
  refine gX4_19 (q := 19) dX4_standOnAll_16 rfl ?_
  refine r_iload_n (q := 20) dX4_standOnAll_19 rfl rfl ?_
  refine r_ialdV (q := 21) hV hI dX4_standOnAll_20 rfl LA14 rfl rfl (by decide) (by omega) ?_
  refine r_istore (q := 23) dX4_standOnAll_21 rfl (Nat.le_of_ble_eq_true rfl) ?_
  refine r_aload_n (q := 24) dX4_standOnAll_23 rfl rfl ?_
  refine r_iload (q := 26) dX4_standOnAll_24 rfl rfl ?_
  refine r_iconst (q := 27) (v := nI 2) dX4_standOnAll_26 rfl (by decide) ?_
  refine r_aload_n (q := 28) dX4_standOnAll_27 rfl rfl ?_
  refine gX4_22 (q := 31) dX4_standOnAll_28 rfl ?_
  refine r_iload_n (q := 32) dX4_standOnAll_31 rfl rfl ?_
  refine r_ialdV (q := 33) hV hI dX4_standOnAll_32 rfl LA15 rfl rfl (by decide) (by omega) ?_
  refine r_imulN (q := 34) dX4_standOnAll_33 rfl ?_
  refine r_iconst (q := 35) (v := nI 2) dX4_standOnAll_34 rfl (by decide) ?_
  refine r_aload_n (q := 36) dX4_standOnAll_35 rfl rfl ?_
  refine gX4_22 (q := 39) dX4_standOnAll_36 rfl ?_
  refine r_iload_n (q := 40) dX4_standOnAll_39 rfl rfl ?_
  refine r_ialdV (q := 41) hV hI dX4_standOnAll_40 rfl LA15 rfl rfl (by decide) (by omega) ?_
  refine r_imulN (q := 42) dX4_standOnAll_41 rfl ?_
  refine r_cV3 (q := 45) vX4_69 dX4_standOnAll_42 rfl LYX0 rfl (Nat.le_of_ble_eq_true rfl) (by decide) (by decide) (c_X0_startAt _ V hV _ _ _ (by omega)) ?_
  rintro s42 ⟨hV42, o42, l42, m42⟩
  refine r_aload_n (q := 46) dX4_standOnAll_45 rfl rfl ?_
  refine r_iconst (q := 47) (v := nI 1) dX4_standOnAll_46 rfl (by decide) ?_
  refine r_iload (q := 49) dX4_standOnAll_47 rfl rfl ?_
  refine r_isubN (q := 50) dX4_standOnAll_49 rfl (by omega) ?_
  refine r_iload_n (q := 51) dX4_standOnAll_50 rfl rfl ?_
  refine r_sI1 (q := 54) vX4_66 dX4_standOnAll_51 rfl (Nat.le_of_ble_eq_true rfl) (by decide) (by decide) (c_X4_middle _ _) ?_
  rintro _ τ0 ⟨rfl, hτ0⟩
  rw [hτ0]
  clear hτ0
  refine r_iload_n (q := 55) dX4_standOnAll_54 rfl rfl ?_
  refine r_aload_n (q := 56) dX4_standOnAll_55 rfl rfl ?_
  refine gX4_31 (q := 59) dX4_standOnAll_56 rfl ?_
  refine r_iload_n (q := 60) dX4_standOnAll_59 rfl rfl ?_
  refine r_ialdV (q := 61) hV42 hI dX4_standOnAll_60 rfl LA18 rfl rfl (by decide) (by omega) ?_
  refine r_iaddN (q := 62) dX4_standOnAll_61 rfl ?_
  refine r_iconst (q := 63) (v := nI 1) dX4_standOnAll_62 rfl (by decide) ?_
  refine r_isubN (q := 64) dX4_standOnAll_63 rfl (by omega) ?_
  refine r_sI1 (q := 67) vX4_66 dX4_standOnAll_64 rfl (Nat.le_of_ble_eq_true rfl) (by decide) (by decide) (c_X4_middle _ _) ?_
  rintro _ τ0 ⟨rfl, hτ0⟩
  rw [hτ0]
  clear hτ0
  refine r_cV3 (q := 70) vX4_69 dX4_standOnAll_67 rfl LYX0 rfl (Nat.le_of_ble_eq_true rfl) (by decide) (by decide) (c_X0_startAt _ V hV42 _ _ _ (by omega)) ?_
  rintro s67 ⟨hV67, o67, l67, m67⟩
  refine r_aload_n (q := 71) dX4_standOnAll_70 rfl rfl ?_
  refine r_iconst (q := 72) (v := nI 2) dX4_standOnAll_71 rfl (by decide) ?_
  refine r_iload (q := 74) dX4_standOnAll_72 rfl rfl ?_
  refine r_sI1 (q := 77) vX4_66 dX4_standOnAll_74 rfl (Nat.le_of_ble_eq_true rfl) (by decide) (by decide) (c_X4_middle _ _) ?_
  rintro _ τ0 ⟨rfl, hτ0⟩
  rw [hτ0]
  clear hτ0
  refine r_iload (q := 79) dX4_standOnAll_77 rfl rfl ?_
  refine r_aload_n (q := 80) dX4_standOnAll_79 rfl rfl ?_
  refine gX4_34 (q := 83) dX4_standOnAll_80 rfl ?_
  refine r_iload_n (q := 84) dX4_standOnAll_83 rfl rfl ?_
  refine r_ialdV (q := 85) hV67 hI dX4_standOnAll_84 rfl LA19 rfl rfl (by decide) (by omega) ?_
  refine r_iaddN (q := 86) dX4_standOnAll_85 rfl ?_
  refine r_iconst (q := 87) (v := nI 1) dX4_standOnAll_86 rfl (by decide) ?_
  refine r_isubN (q := 88) dX4_standOnAll_87 rfl (by omega) ?_
  refine r_sI1 (q := 91) vX4_66 dX4_standOnAll_88 rfl (Nat.le_of_ble_eq_true rfl) (by decide) (by decide) (c_X4_middle _ _) ?_
  rintro _ τ0 ⟨rfl, hτ0⟩
  rw [hτ0]
  clear hτ0
  refine r_cV3 (q := 94) vX4_69 dX4_standOnAll_91 rfl LYX0 rfl (Nat.le_of_ble_eq_true rfl) (by decide) (by decide) (c_X0_startAt _ V hV67 _ _ _ (by omega)) ?_
  rintro s91 ⟨hV91, o91, l91, m91⟩
  have eu : 2 * (nv V 16 w + nv V 18 w - 1) + 1 = hiU V w := by unfold hiU; omega
  have ez : 2 * (nv V 17 w + nv V 19 w - 1) + 1 = hiZ V w := by unfold hiZ; omega
  have eu0 : 2 * nv V 16 w + 1 = loU V w := by unfold loU; omega
  have ez0 : 2 * nv V 17 w + 1 = loZ V w := by unfold loZ; omega
  have k0 : ∀ i, s91 24 i = if i = 2 then nI (loZ V w) else if i = 1 - nv V 14 w then nI (loU V w) else if i = nv V 14 w then nI (2 * nv V 51 w) else σ 24 i := by
    intro i
    rw [l91, l67, l42, eu0, ez0, z2]
  have k1 : ∀ i, s91 25 i = if i = 2 then nI (hiZ V w) else if i = 1 - nv V 14 w then nI (hiU V w) else if i = nv V 14 w then nI (2 * nv V 51 w) else σ 25 i := by
    intro i
    rw [m91, m67, m42, eu, ez, z2]
  refine r_retV dX4_standOnAll_94 ⟨hV91, ?_, (o42.trans o67).trans o91⟩
  unfold windIs
  rw [k0, k0, k0, k1, k1, k1, x1]
  by_cases hs : nv V 50 w < 2
  · simp [hs]
  · simp [hs]
theorem plain_int : plainName "java/lang/Integer" = true := by decide +kernel
theorem plain_arr : plainName "java/util/Arrays" = true := by decide +kernel
