theorem ix_no1 {x : Int32} {n : Nat} (h : x < 0) : ix x n = 0 := by
  unfold ix
  rw [Int32.lt_iff_toInt_lt] at h
  have : (0 : Int32).toInt = 0 := rfl
  exact if_neg (by omega)
theorem ix_no2 {x : Int32} {n : Nat} (hn : n < 2 ^ 31) (h : nI n ≤ x) : ix x n = 0 := by
  unfold ix
  rw [Int32.le_iff_toInt_le, nI_toInt hn] at h
  exact if_neg (by omega)
theorem ix_yes {x : Int32} {n : Nat} (hn : n < 2 ^ 31) (h0 : ¬ x < 0) (h : ¬ nI n ≤ x) : ix x n = 1 := by
  unfold ix
  rw [Int32.lt_iff_toInt_lt] at h0
  have : (0 : Int32).toInt = 0 := rfl
  rw [Int32.le_iff_toInt_le, nI_toInt hn] at h
  exact if_pos (by omega)
set_option maxRecDepth 100000 in
set_option maxHeartbeats 4000000 in
theorem c_X1_has (σ V : St) (hV : vw σ = V) (hG : GOOD V) (x : Int32) : Cl LAYC yX1_has cX1_has 2 (some .boolean) 0 0 [.ref 4, .int x] σ (EI (fun r τ => r = nI (ix x (nv V 33 7)) ∧ τ = σ)) := by
  have hI := hG.1.1
  have hR := hG.2
  have hnw := bd hI 33 19 20 rfl rfl
  have hnb := bd hI 33 7 40 rfl rfl
  have hrel := hR.nb
  refine Cl.of 0 rfl rfl (EI.okZ (okB (ix_le _ _))) ?_
  show Rn LAYC none RX1 _ _ _ _ 0 [some (.ref 4), some (.int x)] [] _ _
  refine r_iload_n (q := 1) dX1_has_0 rfl rfl ?_
  refine r_if_lt (t := 16) (q := 4) dX1_has_1 (by decide) rfl (fun c1 => ?_) (fun c1 => ?_)
  · refine r_iconst (q := 17) (v := nI 0) dX1_has_16 rfl (by decide) ?_
    exact r_retI dX1_has_17 ⟨by rw [ix_no1 c1], rfl⟩
  · refine r_iload_n (q := 5) dX1_has_4 rfl rfl ?_
    refine r_aload_n (q := 6) dX1_has_5 rfl rfl ?_
    refine gvX1_9 (q := 9) hV hI dX1_has_6 rfl ?_
    refine r_icmp_ge (t := 16) (q := 12) dX1_has_9 (by decide) rfl (fun c9 => ?_) (fun c9 => ?_)
    · refine r_iconst (q := 17) (v := nI 0) dX1_has_16 rfl (by decide) ?_
      exact r_retI dX1_has_17 ⟨by rw [ix_no2 (by omega) (by first | exact c9 | (rw [← hrel]; exact c9))], rfl⟩
    · refine r_iconst (q := 13) (v := nI 1) dX1_has_12 rfl (by decide) ?_
      refine r_goto (q := 17) dX1_has_13 (by decide) ?_
      exact r_retI dX1_has_17 ⟨by rw [ix_yes (by omega) c1 (by first | exact c9 | (rw [← hrel]; exact c9))], rfl⟩
set_option maxRecDepth 100000 in
set_option maxHeartbeats 4000000 in
theorem c_X4_has (σ V : St) (hV : vw σ = V) (hG : GOOD V) (x : Int32) : Cl LAYC yX4_has cX4_has 2 (some .boolean) 0 0 [.ref 12, .int x] σ (EI (fun r τ => r = nI (ix x (nv V 33 19)) ∧ τ = σ)) := by
  have hI := hG.1.1
  have hR := hG.2
  have hnw := bd hI 33 19 20 rfl rfl
  have hnb := bd hI 33 7 40 rfl rfl
  have hrel := hR.nw
  refine Cl.of 0 rfl rfl (EI.okZ (okB (ix_le _ _))) ?_
  show Rn LAYC none RX4 _ _ _ _ 0 [some (.ref 12), some (.int x)] [] _ _
  refine r_iload_n (q := 1) dX4_has_0 rfl rfl ?_
  refine r_if_lt (t := 16) (q := 4) dX4_has_1 (by decide) rfl (fun c1 => ?_) (fun c1 => ?_)
  · refine r_iconst (q := 17) (v := nI 0) dX4_has_16 rfl (by decide) ?_
    exact r_retI dX4_has_17 ⟨by rw [ix_no1 c1], rfl⟩
  · refine r_iload_n (q := 5) dX4_has_4 rfl rfl ?_
    refine r_aload_n (q := 6) dX4_has_5 rfl rfl ?_
    refine gvX4_9 (q := 9) hV hI dX4_has_6 rfl ?_
    refine r_icmp_ge (t := 16) (q := 12) dX4_has_9 (by decide) rfl (fun c9 => ?_) (fun c9 => ?_)
    · refine r_iconst (q := 17) (v := nI 0) dX4_has_16 rfl (by decide) ?_
      exact r_retI dX4_has_17 ⟨by rw [ix_no2 (by omega) (by first | exact c9 | (rw [← hrel]; exact c9))], rfl⟩
    · refine r_iconst (q := 13) (v := nI 1) dX4_has_12 rfl (by decide) ?_
      refine r_goto (q := 17) dX4_has_13 (by decide) ?_
      exact r_retI dX4_has_17 ⟨by rw [ix_yes (by omega) c1 (by first | exact c9 | (rw [← hrel]; exact c9))], rfl⟩
set_option maxRecDepth 100000 in
set_option maxHeartbeats 4000000 in
theorem c_X5_isDay (σ : St) (x : Int32) : Cl LAYC yX5_isDay cX5_isDay 1 (some .boolean) 0 0 [.int x] σ (EI (fun r τ => r = nI (ix x 8) ∧ τ = σ)) := by
  refine Cl.of 0 rfl rfl (EI.okZ (okB (ix_le _ _))) ?_
  show Rn LAYC none RX5 _ _ _ _ 0 [some (.int x)] [] _ _
  refine r_iload_n (q := 1) dX5_isDay_0 rfl rfl ?_
  refine r_if_lt (t := 14) (q := 4) dX5_isDay_1 (by decide) rfl (fun c1 => ?_) (fun c1 => ?_)
  · refine r_iconst (q := 15) (v := nI 0) dX5_isDay_14 rfl (by decide) ?_
    exact r_retI dX5_isDay_15 ⟨by first | rw [ix_no1 c1] | rw [ix_no2 (n := 8) (by decide) c7] | rw [ix_yes (n := 8) (by decide) c1 c7], rfl⟩
  · refine r_iload_n (q := 5) dX5_isDay_4 rfl rfl ?_
    refine r_bipush (q := 7) (v := nI 8) dX5_isDay_5 rfl (by decide) ?_
    refine r_icmp_ge (t := 14) (q := 10) dX5_isDay_7 (by decide) rfl (fun c7 => ?_) (fun c7 => ?_)
    · refine r_iconst (q := 15) (v := nI 0) dX5_isDay_14 rfl (by decide) ?_
      exact r_retI dX5_isDay_15 ⟨by first | rw [ix_no1 c1] | rw [ix_no2 (n := 8) (by decide) c7] | rw [ix_yes (n := 8) (by decide) c1 c7], rfl⟩
    · refine r_iconst (q := 11) (v := nI 1) dX5_isDay_10 rfl (by decide) ?_
      refine r_goto (q := 15) dX5_isDay_11 (by decide) ?_
      exact r_retI dX5_isDay_15 ⟨by first | rw [ix_no1 c1] | rw [ix_no2 (n := 8) (by decide) c7] | rw [ix_yes (n := 8) (by decide) c1 c7], rfl⟩
set_option maxRecDepth 100000 in
set_option maxHeartbeats 4000000 in
theorem c_X1_isFull (σ V : St) (hV : vw σ = V) (hG : GOOD V) : Cl LAYC yX1_isFull cX1_isFull 1 (some .boolean) 0 0 [.ref 4] σ (EI (fun r τ => r = nI (if nv V 33 7 = 40 then 1 else 0) ∧ τ = σ)) := by
  have hI := hG.1.1
  have hR := hG.2
  have hnw := bd hI 33 19 20 rfl rfl
  have hnb := bd hI 33 7 40 rfl rfl
  refine Cl.of 0 rfl rfl (EI.okZ (okB (by split <;> omega))) ?_
  show Rn LAYC none RX1 _ _ _ _ 0 [some (.ref 4)] [] _ _
  refine r_aload_n (q := 1) dX1_isFull_0 rfl rfl ?_
  refine gvX1_9 (q := 4) hV hI dX1_isFull_1 rfl ?_
  refine r_bipush (q := 6) (v := nI 40) dX1_isFull_4 rfl (by decide) ?_
  refine r_icmp_ltN (t := 13) (q := 9) dX1_isFull_6 (by decide) rfl (by have := bd hI 4 0 40 rfl rfl; omega) (by omega) (fun c6 => ?_) (fun c6 => ?_)
  · refine r_iconst (q := 14) (v := nI 0) dX1_isFull_13 rfl (by decide) ?_
    exact r_retI dX1_isFull_14 ⟨by have h := hR.nb; congr 1; first | (rw [if_pos (by omega)]; done) | (rw [if_neg (by omega)]; done), rfl⟩
  · refine r_iconst (q := 10) (v := nI 1) dX1_isFull_9 rfl (by decide) ?_
    refine r_goto (q := 14) dX1_isFull_10 (by decide) ?_
    exact r_retI dX1_isFull_14 ⟨by have h := hR.nb; congr 1; first | (rw [if_pos (by omega)]; done) | (rw [if_neg (by omega)]; done), rfl⟩
set_option maxRecDepth 100000 in
set_option maxHeartbeats 4000000 in
theorem c_X4_isFull (σ V : St) (hV : vw σ = V) (hG : GOOD V) : Cl LAYC yX4_isFull cX4_isFull 1 (some .boolean) 0 0 [.ref 12] σ (EI (fun r τ => r = nI (if nv V 33 19 = 20 then 1 else 0) ∧ τ = σ)) := by
  have hI := hG.1.1
  have hR := hG.2
  have hnw := bd hI 33 19 20 rfl rfl
  have hnb := bd hI 33 7 40 rfl rfl
  refine Cl.of 0 rfl rfl (EI.okZ (okB (by split <;> omega))) ?_
  show Rn LAYC none RX4 _ _ _ _ 0 [some (.ref 12)] [] _ _
  refine r_aload_n (q := 1) dX4_isFull_0 rfl rfl ?_
  refine gvX4_9 (q := 4) hV hI dX4_isFull_1 rfl ?_
  refine r_bipush (q := 6) (v := nI 20) dX4_isFull_4 rfl (by decide) ?_
  refine r_icmp_ltN (t := 13) (q := 9) dX4_isFull_6 (by decide) rfl (by have := bd hI 12 0 20 rfl rfl; omega) (by omega) (fun c6 => ?_) (fun c6 => ?_)
  · refine r_iconst (q := 14) (v := nI 0) dX4_isFull_13 rfl (by decide) ?_
    exact r_retI dX4_isFull_14 ⟨by have h := hR.nw; congr 1; first | (rw [if_pos (by omega)]; done) | (rw [if_neg (by omega)]; done), rfl⟩
  · refine r_iconst (q := 10) (v := nI 1) dX4_isFull_9 rfl (by decide) ?_
    refine r_goto (q := 14) dX4_isFull_10 (by decide) ?_
    exact r_retI dX4_isFull_14 ⟨by have h := hR.nw; congr 1; first | (rw [if_pos (by omega)]; done) | (rw [if_neg (by omega)]; done), rfl⟩
set_option maxRecDepth 100000 in
set_option maxHeartbeats 4000000 in
theorem c_X3_isFull (σ V : St) (hV : vw σ = V) (hG : GOOD V) (d : Nat) (hd : d < 8) : Cl LAYC yX3_isFull cX3_isFull 2 (some .boolean) 0 0 [.ref 1, .int (nI d)] σ (EI (fun r τ => r = nI (if nv V 34 d = 24 then 1 else 0) ∧ τ = σ)) := by
  have hI := hG.1.1
  have hR := hG.2
  have hnw := bd hI 33 19 20 rfl rfl
  have hnb := bd hI 33 7 40 rfl rfl
  refine Cl.of 0 rfl rfl (EI.okZ (okB (by split <;> omega))) ?_
  show Rn LAYC none RX3 _ _ _ _ 0 [some (.ref 1), some (.int (nI d))] [] _ _
  refine r_aload_n (q := 1) dX3_isFull_0 rfl rfl ?_
  refine gX3_9 (q := 4) dX3_isFull_1 rfl ?_
  refine r_iload_n (q := 5) dX3_isFull_4 rfl rfl ?_
  refine r_ialdV (q := 6) hV hI dX3_isFull_5 rfl LA2 rfl rfl (by decide) (by omega) ?_
  refine r_bipush (q := 8) (v := nI 24) dX3_isFull_6 rfl (by decide) ?_
  refine r_icmp_ltN (t := 15) (q := 11) dX3_isFull_8 (by decide) rfl (by have := bd hI 2 d 24 rfl rfl; omega) (by omega) (fun c8 => ?_) (fun c8 => ?_)
  · refine r_iconst (q := 16) (v := nI 0) dX3_isFull_15 rfl (by decide) ?_
    exact r_retI dX3_isFull_16 ⟨by have h := hR.mn d; have h2 := bd hI 34 d 24 rfl rfl; congr 1; first | (rw [if_pos (by omega)]; done) | (rw [if_neg (by omega)]; done), rfl⟩
  · refine r_iconst (q := 12) (v := nI 1) dX3_isFull_11 rfl (by decide) ?_
    refine r_goto (q := 16) dX3_isFull_12 (by decide) ?_
    exact r_retI dX3_isFull_16 ⟨by have h := hR.mn d; have h2 := bd hI 34 d 24 rfl rfl; congr 1; first | (rw [if_pos (by omega)]; done) | (rw [if_neg (by omega)]; done), rfl⟩
set_option maxRecDepth 100000 in
set_option maxHeartbeats 4000000 in
theorem c_X3_has (σ V : St) (hV : vw σ = V) (hG : GOOD V) (x y : Int32) : Cl LAYC yX3_has cX3_has 3 (some .boolean) 1 20 [.ref 1, .int x, .int y] σ (EI (fun r τ => r = nI (isMin V x y) ∧ τ = σ)) := by
  have hI := hG.1.1
  have hR := hG.2
  have hnw := bd hI 33 19 20 rfl rfl
  have hnb := bd hI 33 7 40 rfl rfl
  refine Cl.of 0 rfl rfl (EI.okZ (okB (isMin_le _ _ _))) ?_
  show Rn LAYC none RX3 _ _ _ _ 0 [some (.ref 1), some (.int x), some (.int y)] [] _ _
  refine r_iload_n (q := 1) dX3_has_0 rfl rfl ?_
  refine r_nI1 (q := 4) nX3_18 nsX3_18 dX3_has_1 rfl (Nat.le_of_ble_eq_true rfl) (by decide) (by decide) (c_X5_isDay _ _) ?_
  rintro _ _ ⟨rfl, rfl⟩
  refine r_if_eqN (t := 25) (q := 7) dX3_has_4 (by decide) rfl (by have := ix_le x 8; omega) (fun c4 => ?_) (fun c4 => ?_)
  · refine r_iconst (q := 26) (v := nI 0) dX3_has_25 rfl (by decide) ?_
    exact r_retI dX3_has_26 ⟨by rw [isMin, if_pos c4], rfl⟩
  · obtain ⟨d, hd, rfl⟩ := ix_of c4
    have hdc := nI_clamp (n := d) (by omega)
    have hmn := bd hI 34 d 24 rfl rfl
    have hrel := hR.mn d
    refine r_iload_n (q := 8) dX3_has_7 rfl rfl ?_
    refine r_if_lt (t := 25) (q := 11) dX3_has_8 (by decide) rfl (fun c8 => ?_) (fun c8 => ?_)
    · refine r_iconst (q := 26) (v := nI 0) dX3_has_25 rfl (by decide) ?_
      exact r_retI dX3_has_26 ⟨by rw [isMin, if_neg c4, hdc, ix_no1 c8], rfl⟩
    · refine r_iload_n (q := 12) dX3_has_11 rfl rfl ?_
      refine r_aload_n (q := 13) dX3_has_12 rfl rfl ?_
      refine gX3_9 (q := 16) dX3_has_13 rfl ?_
      refine r_iload_n (q := 17) dX3_has_16 rfl rfl ?_
      refine r_ialdV (q := 18) hV hI dX3_has_17 rfl LA2 rfl rfl (by decide) (by omega) ?_
      refine r_icmp_ge (t := 25) (q := 21) dX3_has_18 (by decide) rfl (fun c18 => ?_) (fun c18 => ?_)
      · refine r_iconst (q := 26) (v := nI 0) dX3_has_25 rfl (by decide) ?_
        exact r_retI dX3_has_26 ⟨by rw [isMin, if_neg c4, hdc, ix_no2 (by omega) (by rw [← hrel]; exact c18)], rfl⟩
      · refine r_iconst (q := 22) (v := nI 1) dX3_has_21 rfl (by decide) ?_
        refine r_goto (q := 26) dX3_has_22 (by decide) ?_
        exact r_retI dX3_has_26 ⟨by rw [isMin, if_neg c4, hdc, ix_yes (by omega) c8 (by rw [← hrel]; exact c18)], rfl⟩
set_option maxRecDepth 100000 in
set_option maxHeartbeats 4000000 in
theorem c_X4_cellsOf (σ V : St) (hV : vw σ = V) (hG : GOOD V) (w : Nat) (h : w < 20) : Cl LAYC yX4_cellsOf cX4_cellsOf 2 (some .int) 0 0 [.ref 12, .int (nI w)] σ (EI (fun r τ => r = nI (cls V w) ∧ τ = σ)) := by
  have hI := hG.1.1
  have hR := hG.2
  have hnw := bd hI 33 19 20 rfl rfl
  have hnb := bd hI 33 7 40 rfl rfl
  refine Cl.of 0 rfl rfl EI.ok ?_
  show Rn LAYC none RX4 _ _ _ _ 0 [some (.ref 12), some (.int (nI w))] [] _ _
  refine r_aload_n (q := 1) dX4_cellsOf_0 rfl rfl ?_
  refine gX4_31 (q := 4) dX4_cellsOf_1 rfl ?_
  refine r_iload_n (q := 5) dX4_cellsOf_4 rfl rfl ?_
  refine r_ialdV (q := 6) hV hI dX4_cellsOf_5 rfl LA18 rfl rfl (by decide) (by omega) ?_
  refine r_aload_n (q := 7) dX4_cellsOf_6 rfl rfl ?_
  refine gX4_34 (q := 10) dX4_cellsOf_7 rfl ?_
  refine r_iload_n (q := 11) dX4_cellsOf_10 rfl rfl ?_
  refine r_ialdV (q := 12) hV hI dX4_cellsOf_11 rfl LA19 rfl rfl (by decide) (by omega) ?_
  refine r_imulN (q := 13) dX4_cellsOf_12 rfl ?_
  exact r_retI dX4_cellsOf_13 ⟨by obtain ⟨-, h1, h2⟩ := hR.wall w; rw [h1, h2]; rfl, rfl⟩
def isCell (V : St) (w c : Int32) : Nat := if ix w (nv V 33 19) = 0 then 0 else ix c (cls V w.toNatClampNeg)
theorem isCell_le (V : St) (w c : Int32) : isCell V w c ≤ 1 := by
  unfold isCell
  split
  · omega
  · exact ix_le _ _
set_option maxRecDepth 100000 in
set_option maxHeartbeats 4000000 in
theorem c_X4_hasCell (σ V : St) (hV : vw σ = V) (hG : GOOD V) (x y : Int32) : Cl LAYC yX4_hasCell cX4_hasCell 3 (some .boolean) 1 21 [.ref 12, .int x, .int y] σ (EI (fun r τ => r = nI (isCell V x y) ∧ τ = σ)) := by
  have hI := hG.1.1
  have hR := hG.2
  have hnw := bd hI 33 19 20 rfl rfl
  have hnb := bd hI 33 7 40 rfl rfl
  refine Cl.of 0 rfl rfl (EI.okZ (okB (isCell_le _ _ _))) ?_
  show Rn LAYC none RX4 _ _ _ _ 0 [some (.ref 12), some (.int x), some (.int y)] [] _ _
  refine r_aload_n (q := 1) dX4_hasCell_0 rfl rfl ?_
  refine r_iload_n (q := 2) dX4_hasCell_1 rfl rfl ?_
  refine r_cI1 (q := 5) vX4_44 dX4_hasCell_2 rfl LYX4 rfl (Nat.le_of_ble_eq_true rfl) (by decide) (by decide) (c_X4_has _ V hV hG _) ?_
  rintro _ _ ⟨rfl, rfl⟩
  refine r_if_eqN (t := 25) (q := 8) dX4_hasCell_5 (by decide) rfl (by have := ix_le x (nv V 33 19); omega) (fun c5 => ?_) (fun c5 => ?_)
  · refine r_iconst (q := 26) (v := nI 0) dX4_hasCell_25 rfl (by decide) ?_
    exact r_retI dX4_hasCell_26 ⟨by rw [isCell, if_pos c5], rfl⟩
  · obtain ⟨w, hw, rfl⟩ := ix_of c5
    have hwc := nI_clamp (n := w) (by omega)
    have hcl := (hG.1.2.1 w).2.2.1
    refine r_iload_n (q := 9) dX4_hasCell_8 rfl rfl ?_
    refine r_if_lt (t := 25) (q := 12) dX4_hasCell_9 (by decide) rfl (fun c9 => ?_) (fun c9 => ?_)
    · refine r_iconst (q := 26) (v := nI 0) dX4_hasCell_25 rfl (by decide) ?_
      exact r_retI dX4_hasCell_26 ⟨by rw [isCell, if_neg c5, hwc, ix_no1 c9], rfl⟩
    · refine r_iload_n (q := 13) dX4_hasCell_12 rfl rfl ?_
      refine r_aload_n (q := 14) dX4_hasCell_13 rfl rfl ?_
      refine r_iload_n (q := 15) dX4_hasCell_14 rfl rfl ?_
      refine r_cI1 (q := 18) vX4_48 dX4_hasCell_15 rfl LYX4 rfl (Nat.le_of_ble_eq_true rfl) (by decide) (by decide) (c_X4_cellsOf _ V hV hG w (by omega)) ?_
      rintro _ _ ⟨rfl, rfl⟩
      refine r_icmp_ge (t := 25) (q := 21) dX4_hasCell_18 (by decide) rfl (fun c18 => ?_) (fun c18 => ?_)
      · refine r_iconst (q := 26) (v := nI 0) dX4_hasCell_25 rfl (by decide) ?_
        exact r_retI dX4_hasCell_26 ⟨by rw [isCell, if_neg c5, hwc, ix_no2 (by omega) c18], rfl⟩
      · refine r_iconst (q := 22) (v := nI 1) dX4_hasCell_21 rfl (by decide) ?_
        refine r_goto (q := 26) dX4_hasCell_22 (by decide) ?_
        exact r_retI dX4_hasCell_26 ⟨by rw [isCell, if_neg c5, hwc, ix_yes (by omega) c9 c18], rfl⟩
set_option maxRecDepth 100000 in
set_option maxHeartbeats 4000000 in
theorem c_X4_isKept (σ V : St) (hV : vw σ = V) (hG : GOOD V) (w : Nat) (h : w < 20) : Cl LAYC yX4_isKept cX4_isKept 2 (some .boolean) 0 0 [.ref 12, .int (nI w)] σ (EI (fun r τ => r = nI (kept V w) ∧ τ = σ)) := by
  have hI := hG.1.1
  have hR := hG.2
  have hnw := bd hI 33 19 20 rfl rfl
  have hnb := bd hI 33 7 40 rfl rfl
  refine Cl.of 0 rfl rfl (EI.okZ (okB (kept_le _ _))) ?_
  show Rn LAYC none RX4 _ _ _ _ 0 [some (.ref 12), some (.int (nI w))] [] _ _
  refine r_aload_n (q := 1) dX4_isKept_0 rfl rfl ?_
  refine gX4_37 (q := 4) dX4_isKept_1 rfl ?_
  refine r_iload_n (q := 5) dX4_isKept_4 rfl rfl ?_
  refine r_ialdW (q := 6) hV dX4_isKept_5 rfl LA20 rfl (by decide) (by omega) ?_
  refine r_as (hR.win w).2.2.2.2.1 ?_
  refine r_iconst (q := 7) (v := nI 3) dX4_isKept_6 rfl (by decide) ?_
  refine r_icmp_lt (t := 23) (q := 10) dX4_isKept_7 (by decide) rfl (fun c7 => ?_) (fun c7 => ?_)
  · refine r_iconst (q := 24) (v := nI 0) dX4_isKept_23 rfl (by decide) ?_
    exact r_retI dX4_isKept_24 ⟨by have h21 := (hR.win w).2.2.2.2.2; unfold kept; (repeat' split); all_goals first | rfl | contradiction | omega | (exfalso; omega) | (exfalso; rename_i h; exact absurd c7 h), rfl⟩
  · refine r_aload_n (q := 11) dX4_isKept_10 rfl rfl ?_
    refine gX4_40 (q := 14) dX4_isKept_11 rfl ?_
    refine r_iload_n (q := 15) dX4_isKept_14 rfl rfl ?_
    refine r_zaldV (q := 16) hV hI dX4_isKept_15 rfl LA21 rfl rfl (by decide) (by omega) ?_
    refine r_if_neN (t := 23) (q := 19) dX4_isKept_16 (by decide) rfl (by have := bd hI 21 w 1 rfl rfl; omega) (fun c16 => ?_) (fun c16 => ?_)
    · refine r_iconst (q := 24) (v := nI 0) dX4_isKept_23 rfl (by decide) ?_
      exact r_retI dX4_isKept_24 ⟨by have h21 := (hR.win w).2.2.2.2.2; unfold kept; (repeat' split); all_goals first | rfl | contradiction | omega | (exfalso; omega) | (exfalso; rename_i h; exact absurd c7 h), rfl⟩
    · refine r_iconst (q := 20) (v := nI 1) dX4_isKept_19 rfl (by decide) ?_
      refine r_goto (q := 24) dX4_isKept_20 (by decide) ?_
      exact r_retI dX4_isKept_24 ⟨by have h21 := (hR.win w).2.2.2.2.2; unfold kept; (repeat' split); all_goals first | rfl | contradiction | omega | (exfalso; omega) | (exfalso; rename_i h; exact absurd c7 h), rfl⟩
set_option maxRecDepth 100000 in
set_option maxHeartbeats 4000000 in
theorem l_X4_keptOnes {V : St} (hG : GOOD V) {σ : St} (hV : vw σ = V) : ∀ (n w : Nat), w + n = nv V 33 19 → Rn LAYC none RX4 cX4_keptOnes 3 1 21 4 [some (.ref 12), some (.int (nI (kpS V w))), some (.int (nI w))] [] σ (EI (fun v τ => v = nI (kpS V (nv V 33 19)) ∧ τ = σ)) := by
  have hI := hG.1.1
  have hR := hG.2
  have hnw := bd hI 33 19 20 rfl rfl
  have hrel := hR.nw
  intro n
  induction n with
  | zero =>
    intro w hb
    refine r_iload_n (q := 5) dX4_keptOnes_4 rfl rfl ?_
    refine r_aload_n (q := 6) dX4_keptOnes_5 rfl rfl ?_
    refine gvX4_9 (q := 9) hV hI dX4_keptOnes_6 rfl ?_
    refine r_icmp_geN (t := 29) (q := 12) dX4_keptOnes_9 (by decide) rfl (by omega) (by have := bd hI 12 0 20 rfl rfl; omega) (fun c9 => ?_) (fun c9 => absurd (by omega) c9)
    refine r_iload_n (q := 30) dX4_keptOnes_29 rfl rfl ?_
    exact r_retI dX4_keptOnes_30 ⟨by rw [show w = nv V 33 19 by omega], rfl⟩
  | succ n ih =>
    intro w hb
    refine r_iload_n (q := 5) dX4_keptOnes_4 rfl rfl ?_
    refine r_aload_n (q := 6) dX4_keptOnes_5 rfl rfl ?_
    refine gvX4_9 (q := 9) hV hI dX4_keptOnes_6 rfl ?_
    refine r_icmp_geN (t := 29) (q := 12) dX4_keptOnes_9 (by decide) rfl (by omega) (by have := bd hI 12 0 20 rfl rfl; omega) (fun c9 => absurd c9 (by omega)) (fun c9 => ?_)
    refine r_aload_n (q := 13) dX4_keptOnes_12 rfl rfl ?_
    refine r_iload_n (q := 14) dX4_keptOnes_13 rfl rfl ?_
    refine r_cI1 (q := 17) vX4_52 dX4_keptOnes_14 rfl LYX4 rfl (Nat.le_of_ble_eq_true rfl) (by decide) (by decide) (c_X4_isKept _ V hV hG w (by omega)) ?_
    rintro _ _ ⟨rfl, rfl⟩
    refine r_if_eqN (t := 23) (q := 20) dX4_keptOnes_17 (by decide) rfl (by have := kept_le V w; omega) (fun c17 => ?_) (fun c17 => ?_)
    · refine r_iinc (q := 26) (v := nI (w + 1)) dX4_keptOnes_23 rfl rfl (by rw [show Int32.ofInt 1 = nI 1 from rfl]; exact nI_add _ _) ?_
      refine r_goto (q := 4) dX4_keptOnes_26 (by decide) ?_
      have e : kpS V (w + 1) = kpS V w := by have h1 := kept_le V w; rw [kpS]; omega
      rw [← e]
      exact ih (w + 1) (by omega)
    · refine r_iinc (q := 23) (v := nI (kpS V w + 1)) dX4_keptOnes_20 rfl rfl (by rw [show Int32.ofInt 1 = nI 1 from rfl]; exact nI_add _ _) ?_
      refine r_iinc (q := 26) (v := nI (w + 1)) dX4_keptOnes_23 rfl rfl (by rw [show Int32.ofInt 1 = nI 1 from rfl]; exact nI_add _ _) ?_
      refine r_goto (q := 4) dX4_keptOnes_26 (by decide) ?_
      have e : kpS V (w + 1) = kpS V w + 1 := by have h1 := kept_le V w; rw [kpS]; omega
      rw [← e]
      exact ih (w + 1) (by omega)
set_option maxRecDepth 100000 in
set_option maxHeartbeats 4000000 in
theorem c_X4_keptOnes (σ V : St) (hV : vw σ = V) (hG : GOOD V) : Cl LAYC yX4_keptOnes cX4_keptOnes 3 (some .int) 1 21 [.ref 12] σ (EI (fun v τ => v = nI (kpS V (nv V 33 19)) ∧ τ = σ)) := by
  refine Cl.of 2 rfl rfl EI.ok ?_
  show Rn LAYC none RX4 _ _ _ _ 0 [some (.ref 12), none, none] [] _ _
  refine r_iconst (q := 1) (v := nI 0) dX4_keptOnes_0 rfl (by decide) ?_
  refine r_istore_n (q := 2) dX4_keptOnes_1 rfl (Nat.le_of_ble_eq_true rfl) ?_
  refine r_iconst (q := 3) (v := nI 0) dX4_keptOnes_2 rfl (by decide) ?_
  refine r_istore_n (q := 4) dX4_keptOnes_3 rfl (Nat.le_of_ble_eq_true rfl) ?_
  exact l_X4_keptOnes hG hV (nv V 33 19) 0 (by omega)
set_option maxRecDepth 100000 in
set_option maxHeartbeats 4000000 in
theorem l_X3_minutesInAll {V : St} (hG : GOOD V) {σ : St} (hV : vw σ = V) : ∀ (n d : Nat), d + n = 8 → Rn LAYC none RX3 cX3_minutesInAll 3 0 0 4 [some (.ref 1), some (.int (nI (mnS V d))), some (.int (nI d))] [] σ (EI (fun v τ => v = nI (mnS V 8) ∧ τ = σ)) := by
  have hI := hG.1.1
  have hR := hG.2
  intro n
  induction n with
  | zero =>
    intro d hb
    refine r_iload_n (q := 5) dX3_minutesInAll_4 rfl rfl ?_
    refine r_bipush (q := 7) (v := nI 8) dX3_minutesInAll_5 rfl (by decide) ?_
    refine r_icmp_geN (t := 25) (q := 10) dX3_minutesInAll_7 (by decide) rfl (by omega) (by omega) (fun c7 => ?_) (fun c7 => absurd (by omega) c7)
    refine r_iload_n (q := 26) dX3_minutesInAll_25 rfl rfl ?_
    exact r_retI dX3_minutesInAll_26 ⟨by rw [show d = 8 by omega], rfl⟩
  | succ n ih =>
    intro d hb
    refine r_iload_n (q := 5) dX3_minutesInAll_4 rfl rfl ?_
    refine r_bipush (q := 7) (v := nI 8) dX3_minutesInAll_5 rfl (by decide) ?_
    refine r_icmp_geN (t := 25) (q := 10) dX3_minutesInAll_7 (by decide) rfl (by omega) (by omega) (fun c7 => absurd c7 (by omega)) (fun c7 => ?_)
    refine r_iload_n (q := 11) dX3_minutesInAll_10 rfl rfl ?_
    refine r_aload_n (q := 12) dX3_minutesInAll_11 rfl rfl ?_
    refine gX3_9 (q := 15) dX3_minutesInAll_12 rfl ?_
    refine r_iload_n (q := 16) dX3_minutesInAll_15 rfl rfl ?_
    refine r_ialdV (q := 17) hV hI dX3_minutesInAll_16 rfl LA2 rfl rfl (by decide) (by omega) ?_
    refine r_iaddN (q := 18) dX3_minutesInAll_17 rfl ?_
    refine r_istore_n (q := 19) dX3_minutesInAll_18 rfl (Nat.le_of_ble_eq_true rfl) ?_
    refine r_iinc (q := 22) (v := nI (d + 1)) dX3_minutesInAll_19 rfl rfl (by rw [show Int32.ofInt 1 = nI 1 from rfl]; exact nI_add _ _) ?_
    refine r_goto (q := 4) dX3_minutesInAll_22 (by decide) ?_
    have e : mnS V (d + 1) = (mnS V d + nv V 2 d) := by rw [mnS, hR.mn d]
    rw [← e]
    exact ih (d + 1) (by omega)
set_option maxRecDepth 100000 in
set_option maxHeartbeats 4000000 in
theorem c_X3_minutesInAll (σ V : St) (hV : vw σ = V) (hG : GOOD V) : Cl LAYC yX3_minutesInAll cX3_minutesInAll 3 (some .int) 0 0 [.ref 1] σ (EI (fun v τ => v = nI (mnS V 8) ∧ τ = σ)) := by
  refine Cl.of 2 rfl rfl EI.ok ?_
  show Rn LAYC none RX3 _ _ _ _ 0 [some (.ref 1), none, none] [] _ _
  refine r_iconst (q := 1) (v := nI 0) dX3_minutesInAll_0 rfl (by decide) ?_
  refine r_istore_n (q := 2) dX3_minutesInAll_1 rfl (Nat.le_of_ble_eq_true rfl) ?_
  refine r_iconst (q := 3) (v := nI 0) dX3_minutesInAll_2 rfl (by decide) ?_
  refine r_istore_n (q := 4) dX3_minutesInAll_3 rfl (Nat.le_of_ble_eq_true rfl) ?_
  exact l_X3_minutesInAll hG hV 8 0 (by omega)
set_option maxRecDepth 100000 in
set_option maxHeartbeats 4000000 in
theorem c_X1_footOf (σ V : St) (hV : vw σ = V) (hG : GOOD V) (b : Nat) (h : b < 40) : Cl LAYC yX1_footOf cX1_footOf 2 (some .int) 0 0 [.ref 4, .int (nI b)] σ (EI (fun r τ => r = nI (nv V 44 b) ∧ τ = σ)) := by
  have hI := hG.1.1
  have hR := hG.2
  have hnw := bd hI 33 19 20 rfl rfl
  have hnb := bd hI 33 7 40 rfl rfl
  refine Cl.of 0 rfl rfl EI.ok ?_
  show Rn LAYC none RX1 _ _ _ _ 0 [some (.ref 4), some (.int (nI b))] [] _ _
  refine r_aload_n (q := 1) dX1_footOf_0 rfl rfl ?_
  refine gX1_19 (q := 4) dX1_footOf_1 rfl ?_
  refine r_iload_n (q := 5) dX1_footOf_4 rfl rfl ?_
  refine r_iconst (q := 6) (v := nI 3) dX1_footOf_5 rfl (by decide) ?_
  refine r_imulN (q := 7) dX1_footOf_6 rfl ?_
  refine r_iconst (q := 8) (v := nI 2) dX1_footOf_7 rfl (by decide) ?_
  refine r_iaddN (q := 9) dX1_footOf_8 rfl ?_
  refine r_ialdV (q := 10) hV hI dX1_footOf_9 rfl LA6 rfl rfl (by decide) (by omega) ?_
  exact r_retI dX1_footOf_10 ⟨by rw [(hR.box b).2.2.1], rfl⟩
set_option maxRecDepth 100000 in
set_option maxHeartbeats 4000000 in
theorem c_X1_topOf (σ V : St) (hV : vw σ = V) (hG : GOOD V) (b : Nat) (h : b < 40) : Cl LAYC yX1_topOf cX1_topOf 2 (some .int) 0 0 [.ref 4, .int (nI b)] σ (EI (fun r τ => r = nI (nv V 45 b) ∧ τ = σ)) := by
  have hI := hG.1.1
  have hR := hG.2
  have hnw := bd hI 33 19 20 rfl rfl
  have hnb := bd hI 33 7 40 rfl rfl
  refine Cl.of 0 rfl rfl EI.ok ?_
  show Rn LAYC none RX1 _ _ _ _ 0 [some (.ref 4), some (.int (nI b))] [] _ _
  refine r_aload_n (q := 1) dX1_topOf_0 rfl rfl ?_
  refine gX1_22 (q := 4) dX1_topOf_1 rfl ?_
  refine r_iload_n (q := 5) dX1_topOf_4 rfl rfl ?_
  refine r_iconst (q := 6) (v := nI 3) dX1_topOf_5 rfl (by decide) ?_
  refine r_imulN (q := 7) dX1_topOf_6 rfl ?_
  refine r_iconst (q := 8) (v := nI 2) dX1_topOf_7 rfl (by decide) ?_
  refine r_iaddN (q := 9) dX1_topOf_8 rfl ?_
  refine r_ialdV (q := 10) hV hI dX1_topOf_9 rfl LA7 rfl rfl (by decide) (by omega) ?_
  exact r_retI dX1_topOf_10 ⟨by rw [(hR.box b).2.2.2.2.2], rfl⟩
set_option maxRecDepth 100000 in
set_option maxHeartbeats 4000000 in
theorem c_X1_setTop (σ V : St) (hV : vw σ = V) (b : Nat) (x : Int32) (h : b < 40) : Cl LAYC yX1_setTop cX1_setTop 3 (none) 0 0 [.ref 4, .int (nI b), .int x] σ (EV (fun τ => vw τ = wr V 7 (b * 3 + 2) x)) := by
  refine Cl.of 0 rfl rfl EV.ok ?_
  show Rn LAYC none RX1 _ _ _ _ 0 [some (.ref 4), some (.int (nI b)), some (.int x)] [] _ _
  refine r_aload_n (q := 1) dX1_setTop_0 rfl rfl ?_
  refine gX1_22 (q := 4) dX1_setTop_1 rfl ?_
  refine r_iload_n (q := 5) dX1_setTop_4 rfl rfl ?_
  refine r_iconst (q := 6) (v := nI 3) dX1_setTop_5 rfl (by decide) ?_
  refine r_imulN (q := 7) dX1_setTop_6 rfl ?_
  refine r_iconst (q := 8) (v := nI 2) dX1_setTop_7 rfl (by decide) ?_
  refine r_iaddN (q := 9) dX1_setTop_8 rfl ?_
  refine r_iload_n (q := 10) dX1_setTop_9 rfl rfl ?_
  refine r_iastP (q := 11) hV dX1_setTop_10 rfl LA7 rfl (by omega) (by decide) (fun s10 hV10 => ?_)
  exact r_retV dX1_setTop_11 hV10
set_option maxRecDepth 100000 in
set_option maxHeartbeats 4000000 in
theorem c_X1_treeFault (σ V : St) (hV : vw σ = V) (hG : GOOD V) (x : Int32) : Cl LAYC yX1_treeFault cX1_treeFault 2 (some .int) 1 21 [.ref 4, .int x] σ (EI (fun r τ => r = cTree V x ∧ τ = σ)) := by
  have hI := hG.1.1
  have hR := hG.2
  have hnw := bd hI 33 19 20 rfl rfl
  have hnb := bd hI 33 7 40 rfl rfl
  refine Cl.of 0 rfl rfl EI.ok ?_
  show Rn LAYC none RX1 _ _ _ _ 0 [some (.ref 4), some (.int x)] [] _ _
  refine r_aload_n (q := 1) dX1_treeFault_0 rfl rfl ?_
  refine r_iload_n (q := 2) dX1_treeFault_1 rfl rfl ?_
  refine r_cI1 (q := 5) vX1_38 dX1_treeFault_2 rfl LYX1 rfl (Nat.le_of_ble_eq_true rfl) (by decide) (by decide) (c_X1_has _ V hV hG _) ?_
  rintro _ _ ⟨rfl, rfl⟩
  refine r_if_neN (t := 10) (q := 8) dX1_treeFault_5 (by decide) rfl (by have := ix_le x (nv V 33 7); omega) (fun c5 => ?_) (fun c5 => ?_)
  · obtain ⟨b, hb, rfl⟩ := ix_of c5
    have hbc := nI_clamp (n := b) (by omega)
    have hk := hR.kind b
    refine r_aload_n (q := 11) dX1_treeFault_10 rfl rfl ?_
    refine gX1_15 (q := 14) dX1_treeFault_11 rfl ?_
    refine r_iload_n (q := 15) dX1_treeFault_14 rfl rfl ?_
    refine r_ialdV (q := 16) hV hI dX1_treeFault_15 rfl LA5 rfl rfl (by decide) (by omega) ?_
    refine r_iconst (q := 17) (v := nI 1) dX1_treeFault_16 rfl (by decide) ?_
    refine r_icmp_neN (t := 24) (q := 20) dX1_treeFault_17 (by decide) rfl (by have := bd hI 5 b 3 rfl rfl; omega) (by omega) (fun c17 => ?_) (fun c17 => ?_)
    · refine r_bipush (q := 26) (v := -2) dX1_treeFault_24 rfl (by decide) ?_
      exact r_retI dX1_treeFault_26 ⟨by first | (rw [cTree, if_pos c5]; done) | (rw [cTree, if_neg c5, hbc, if_pos (by omega)]; done) | (rw [cTree, if_neg c5, hbc, if_pos (by omega)]; rfl) | (rw [cTree, if_neg c5, hbc, if_neg (by omega)]; done), rfl⟩
    · refine r_iconst (q := 21) (v := nI 0) dX1_treeFault_20 rfl (by decide) ?_
      refine r_goto (q := 26) dX1_treeFault_21 (by decide) ?_
      exact r_retI dX1_treeFault_26 ⟨by first | (rw [cTree, if_pos c5]; done) | (rw [cTree, if_neg c5, hbc, if_pos (by omega)]; done) | (rw [cTree, if_neg c5, hbc, if_pos (by omega)]; rfl) | (rw [cTree, if_neg c5, hbc, if_neg (by omega)]; done), rfl⟩
  · refine r_iconst (q := 9) (v := -1) dX1_treeFault_8 rfl (by decide) ?_
    exact r_retI dX1_treeFault_9 ⟨by first | (rw [cTree, if_pos c5]; done) | (rw [cTree, if_neg c5, hbc, if_pos (by omega)]; done) | (rw [cTree, if_neg c5, hbc, if_pos (by omega)]; rfl) | (rw [cTree, if_neg c5, hbc, if_neg (by omega)]; done), rfl⟩
set_option maxRecDepth 100000 in
set_option maxHeartbeats 4000000 in
theorem c_X1_planFault (σ V : St) (hV : vw σ = V) (hG : GOOD V) (x : Int32) : Cl LAYC yX1_planFault cX1_planFault 2 (some .int) 1 21 [.ref 4, .int x] σ (EI (fun r τ => r = lack V x ∧ τ = σ)) := by
  have hI := hG.1.1
  have hR := hG.2
  have hnw := bd hI 33 19 20 rfl rfl
  have hnb := bd hI 33 7 40 rfl rfl
  refine Cl.of 0 rfl rfl EI.ok ?_
  show Rn LAYC none RX1 _ _ _ _ 0 [some (.ref 4), some (.int x)] [] _ _
  refine r_aload_n (q := 1) dX1_planFault_0 rfl rfl ?_
  refine r_iload_n (q := 2) dX1_planFault_1 rfl rfl ?_
  refine r_cI1 (q := 5) vX1_38 dX1_planFault_2 rfl LYX1 rfl (Nat.le_of_ble_eq_true rfl) (by decide) (by decide) (c_X1_has _ V hV hG _) ?_
  rintro _ _ ⟨rfl, rfl⟩
  refine r_if_neN (t := 10) (q := 8) dX1_planFault_5 (by decide) rfl (by have := ix_le x (nv V 33 7); omega) (fun c5 => ?_) (fun c5 => ?_)
  · obtain ⟨b, hb, rfl⟩ := ix_of c5
    have hbc := nI_clamp (n := b) (by omega)
    have hk := hR.kind b
    have hg := hR.gone b
    have ht := hR.ther b hb
    refine r_aload_n (q := 11) dX1_planFault_10 rfl rfl ?_
    refine gX1_15 (q := 14) dX1_planFault_11 rfl ?_
    refine r_iload_n (q := 15) dX1_planFault_14 rfl rfl ?_
    refine r_ialdV (q := 16) hV hI dX1_planFault_15 rfl LA5 rfl rfl (by decide) (by omega) ?_
    refine r_iconst (q := 17) (v := nI 3) dX1_planFault_16 rfl (by decide) ?_
    refine r_icmp_eqN (t := 23) (q := 20) dX1_planFault_17 (by decide) rfl (by have := bd hI 5 b 3 rfl rfl; omega) (by omega) (fun c17 => ?_) (fun c17 => ?_)
    · refine r_aload_n (q := 24) dX1_planFault_23 rfl rfl ?_
      refine gX1_35 (q := 27) dX1_planFault_24 rfl ?_
      refine r_iload_n (q := 28) dX1_planFault_27 rfl rfl ?_
      refine r_zaldV (q := 29) hV hI dX1_planFault_28 rfl LA11 rfl rfl (by decide) (by omega) ?_
      refine r_if_neN (t := 41) (q := 32) dX1_planFault_29 (by decide) rfl (by have := bd hI 11 b 1 rfl rfl; omega) (fun c29 => ?_) (fun c29 => ?_)
      · refine r_bipush (q := 43) (v := -3) dX1_planFault_41 rfl (by decide) ?_
        refine r_goto (q := 47) dX1_planFault_43 (by decide) ?_
        exact r_retI dX1_planFault_47 ⟨by rw [lack, if_neg c5, hbc, if_pos (by omega), if_neg (by omega)], rfl⟩
      · refine r_aload_n (q := 33) dX1_planFault_32 rfl rfl ?_
        refine gX1_31 (q := 36) dX1_planFault_33 rfl ?_
        refine r_iload_n (q := 37) dX1_planFault_36 rfl rfl ?_
        refine r_zaldV (q := 38) hV hI dX1_planFault_37 rfl LA10 rfl rfl (by decide) (by omega) ?_
        refine r_if_eqN (t := 46) (q := 41) dX1_planFault_38 (by decide) rfl (by have := bd hI 10 b 1 rfl rfl; omega) (fun c38 => ?_) (fun c38 => ?_)
        · refine r_iconst (q := 47) (v := nI 0) dX1_planFault_46 rfl (by decide) ?_
          rw [if_pos (by omega), if_pos (by omega)] at ht
          exact r_retI dX1_planFault_47 ⟨by rw [lack, if_neg c5, hbc, if_pos (by omega), if_pos (by omega), if_pos (by omega)]; rfl, rfl⟩
        · refine r_bipush (q := 43) (v := -3) dX1_planFault_41 rfl (by decide) ?_
          refine r_goto (q := 47) dX1_planFault_43 (by decide) ?_
          rw [if_pos (by omega), if_pos (by omega)] at ht
          exact r_retI dX1_planFault_47 ⟨by rw [lack, if_neg c5, hbc, if_pos (by omega), if_pos (by omega), if_neg (by omega)], rfl⟩
    · refine r_bipush (q := 22) (v := -2) dX1_planFault_20 rfl (by decide) ?_
      exact r_retI dX1_planFault_22 ⟨by rw [lack, if_neg c5, hbc, if_neg (by omega)], rfl⟩
  · refine r_iconst (q := 9) (v := -1) dX1_planFault_8 rfl (by decide) ?_
    exact r_retI dX1_planFault_9 ⟨by rw [lack, if_pos c5], rfl⟩
