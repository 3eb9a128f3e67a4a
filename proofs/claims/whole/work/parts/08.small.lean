/-! ===== the reference's small methods ===== -/
def inN (v a b : Int32) : Nat := if v < a then 0 else if b < v then 0 else 1
/-- 1 if x is a number from 0 below n -/
def ix (x : Int32) (n : Nat) : Nat := if 0 ≤ x.toInt ∧ x.toInt < n then 1 else 0
theorem inN_le (v a b : Int32) : inN v a b ≤ 1 := by unfold inN; (repeat' split); all_goals omega
theorem z01 {n : Nat} (h : n ≤ 1) : nI n = 0 ∨ nI n = 1 := by
  rcases (show n = 0 ∨ n = 1 by omega) with rfl | rfl
  · exact Or.inl rfl
  · exact Or.inr rfl
theorem okB {f : Nat} {σ : St} (h : f ≤ 1) : ∀ v τ, (v = nI f ∧ τ = σ) → v = 0 ∨ v = 1 := by
  rintro v τ ⟨rfl, -⟩
  exact z01 h
theorem okQ {f : Nat} {Q : St → Prop} (h : f ≤ 1) : ∀ v τ, (v = nI f ∧ Q τ) → v = 0 ∨ v = 1 := by
  rintro v τ ⟨rfl, -⟩
  exact z01 h
theorem ix_le (x : Int32) (n : Nat) : ix x n ≤ 1 := by unfold ix; split <;> omega
theorem ix_of {x : Int32} {n : Nat} (h : ¬ ix x n = 0) : ∃ j, j < n ∧ x = nI j := by
  unfold ix at h
  split at h
  · rename_i hx
    have hlt : x.toInt.toNat < n := by omega
    refine ⟨x.toInt.toNat, hlt, ?_⟩
    apply Int32.toInt_inj.mp
    have h2 := Int32.toInt_lt x
    rw [nI_toInt (by omega)]
    omega
  · omega
theorem ix_nI {j n : Nat} (h : j < n) (hj : j < 2 ^ 31) : ix (nI j) n = 1 := by
  unfold ix
  rw [nI_toInt hj, if_pos (by omega)]
theorem ix_in (x : Int32) {n : Nat} (hn : n ≤ 1000000) : inN x (nI 0) (nI n - nI 1) = ix x n := by
  unfold inN ix
  have e0 : (nI 0).toInt = 0 := rfl
  have e1 : (nI n - nI 1).toInt = (n : Int) - 1 := by rw [pk_sub_toInt (by omega) (by omega)]; rfl
  simp only [Int32.lt_iff_toInt_lt, e0, e1]
  by_cases h1 : x.toInt < 0
  · rw [if_pos h1, if_neg (by omega)]
  · rw [if_neg h1]
    by_cases h2 : (n : Int) - 1 < x.toInt
    · rw [if_pos h2, if_neg (by omega)]
    · rw [if_neg h2, if_pos (by omega)]
theorem ix_in7 (x : Int32) : inN x (nI 0) (nI 7) = ix x 8 := ix_in x (n := 8) (by omega)
set_option maxRecDepth 100000 in
set_option maxHeartbeats 4000000 in
theorem c_X6_in (σ : St) (v a b : Int32) : Cl LAY yX6_in cX6_in 3 (some .boolean) 0 0 [.int v, .int a, .int b] σ (EI (fun r τ => r = nI (inN v a b) ∧ τ = σ)) := by
  refine Cl.of 0 rfl rfl (EI.okZ (okB (inN_le _ _ _))) ?_
  show Rn LAY none RX6 _ _ _ _ 0 [some (.int v), some (.int a), some (.int b)] [] _ _
  refine r_iload_n (q := 1) dX6_in_0 rfl rfl ?_
  refine r_iload_n (q := 2) dX6_in_1 rfl rfl ?_
  refine r_icmp_lt (t := 14) (q := 5) dX6_in_2 (by decide) rfl (fun c2 => ?_) (fun c2 => ?_)
  · refine r_iconst (q := 15) (v := nI 0) dX6_in_14 rfl (by decide) ?_
    exact r_retI dX6_in_15 ⟨by simp [inN, *], rfl⟩
  · refine r_iload_n (q := 6) dX6_in_5 rfl rfl ?_
    refine r_iload_n (q := 7) dX6_in_6 rfl rfl ?_
    refine r_icmp_gt (t := 14) (q := 10) dX6_in_7 (by decide) rfl (fun c7 => ?_) (fun c7 => ?_)
    · refine r_iconst (q := 15) (v := nI 0) dX6_in_14 rfl (by decide) ?_
      exact r_retI dX6_in_15 ⟨by simp [inN, *], rfl⟩
    · refine r_iconst (q := 11) (v := nI 1) dX6_in_10 rfl (by decide) ?_
      refine r_goto (q := 15) dX6_in_11 (by decide) ?_
      exact r_retI dX6_in_15 ⟨by simp [inN, *], rfl⟩
set_option maxRecDepth 100000 in
set_option maxHeartbeats 4000000 in
theorem c_X6_isBlock (σ V : St) (hV : vwM σ = V) (hI : InvN V) (x : Int32) : Cl LAY yX6_isBlock cX6_isBlock 2 (some .boolean) 1 22 [.ref 33, .int x] σ (EI (fun r τ => r = nI (ix x (nv V 33 7)) ∧ τ = σ)) := by
  refine Cl.of 0 rfl rfl (EI.okZ (okB (ix_le _ _))) ?_
  show Rn LAY none RX6 _ _ _ _ 0 [some (.ref 33), some (.int x)] [] _ _
  refine r_iload_n (q := 1) dX6_isBlock_0 rfl rfl ?_
  refine r_iconst (q := 2) (v := nI 0) dX6_isBlock_1 rfl (by decide) ?_
  refine r_aload_n (q := 3) dX6_isBlock_2 rfl rfl ?_
  refine gvX6_97 (q := 6) hV hI dX6_isBlock_3 rfl ?_
  refine r_iconst (q := 7) (v := nI 1) dX6_isBlock_6 rfl (by decide) ?_
  refine r_isub (q := 8) dX6_isBlock_7 rfl ?_
  refine r_sI3 (q := 11) vX6_100 dX6_isBlock_8 rfl (Nat.le_of_ble_eq_true rfl) (by decide) (by decide) (c_X6_in _ _ _ _) ?_
  rintro _ _ ⟨rfl, rfl⟩
  exact r_retI dX6_isBlock_11 ⟨by rw [ix_in _ (by have := bd hI 33 7 40 rfl rfl; omega)], rfl⟩
set_option maxRecDepth 100000 in
set_option maxHeartbeats 4000000 in
theorem c_X6_isWindow (σ V : St) (hV : vwM σ = V) (hI : InvN V) (x : Int32) : Cl LAY yX6_isWindow cX6_isWindow 2 (some .boolean) 1 22 [.ref 33, .int x] σ (EI (fun r τ => r = nI (ix x (nv V 33 19)) ∧ τ = σ)) := by
  refine Cl.of 0 rfl rfl (EI.okZ (okB (ix_le _ _))) ?_
  show Rn LAY none RX6 _ _ _ _ 0 [some (.ref 33), some (.int x)] [] _ _
  refine r_iload_n (q := 1) dX6_isWindow_0 rfl rfl ?_
  refine r_iconst (q := 2) (v := nI 0) dX6_isWindow_1 rfl (by decide) ?_
  refine r_aload_n (q := 3) dX6_isWindow_2 rfl rfl ?_
  refine gvX6_104 (q := 6) hV hI dX6_isWindow_3 rfl ?_
  refine r_iconst (q := 7) (v := nI 1) dX6_isWindow_6 rfl (by decide) ?_
  refine r_isub (q := 8) dX6_isWindow_7 rfl ?_
  refine r_sI3 (q := 11) vX6_100 dX6_isWindow_8 rfl (Nat.le_of_ble_eq_true rfl) (by decide) (by decide) (c_X6_in _ _ _ _) ?_
  rintro _ _ ⟨rfl, rfl⟩
  exact r_retI dX6_isWindow_11 ⟨by rw [ix_in _ (by have := bd hI 33 19 20 rfl rfl; omega)], rfl⟩
set_option maxRecDepth 100000 in
set_option maxHeartbeats 4000000 in
theorem c_X6_isDay (σ : St) (x : Int32) : Cl LAY yX6_isDay cX6_isDay 1 (some .boolean) 1 22 [.int x] σ (EI (fun r τ => r = nI (ix x 8) ∧ τ = σ)) := by
  refine Cl.of 0 rfl rfl (EI.okZ (okB (ix_le _ _))) ?_
  show Rn LAY none RX6 _ _ _ _ 0 [some (.int x)] [] _ _
  refine r_iload_n (q := 1) dX6_isDay_0 rfl rfl ?_
  refine r_iconst (q := 2) (v := nI 0) dX6_isDay_1 rfl (by decide) ?_
  refine r_bipush (q := 4) (v := nI 7) dX6_isDay_2 rfl (by decide) ?_
  refine r_sI3 (q := 7) vX6_100 dX6_isDay_4 rfl (Nat.le_of_ble_eq_true rfl) (by decide) (by decide) (c_X6_in _ _ _ _) ?_
  rintro _ _ ⟨rfl, rfl⟩
  exact r_retI dX6_isDay_7 ⟨by rw [ix_in7], rfl⟩
/-- such a MINUTE of such a DAY -/
def isMin (V : St) (d m : Int32) : Nat := if ix d 8 = 0 then 0 else ix m (nv V 34 d.toNatClampNeg)
theorem isMin_le (V : St) (d m : Int32) : isMin V d m ≤ 1 := by
  unfold isMin
  split
  · omega
  · exact ix_le _ _
set_option maxRecDepth 100000 in
set_option maxHeartbeats 4000000 in
theorem c_X6_isMinute (σ V : St) (hV : vwM σ = V) (hI : InvN V) (x y : Int32) : Cl LAY yX6_isMinute cX6_isMinute 3 (some .boolean) 2 42 [.ref 33, .int x, .int y] σ (EI (fun r τ => r = nI (isMin V x y) ∧ τ = σ)) := by
  refine Cl.of 0 rfl rfl (EI.okZ (okB (isMin_le _ _ _))) ?_
  show Rn LAY none RX6 _ _ _ _ 0 [some (.ref 33), some (.int x), some (.int y)] [] _ _
  refine r_iload_n (q := 1) dX6_isMinute_0 rfl rfl ?_
  refine r_sI1 (q := 4) vX6_107 dX6_isMinute_1 rfl (Nat.le_of_ble_eq_true rfl) (by decide) (by decide) (c_X6_isDay _ _) ?_
  rintro _ _ ⟨rfl, rfl⟩
  refine r_if_eqN (t := 27) (q := 7) dX6_isMinute_4 (by decide) rfl (by have := ix_le x 8; omega) (fun c4 => ?_) (fun c4 => ?_)
  · refine r_iconst (q := 28) (v := nI 0) dX6_isMinute_27 rfl (by decide) ?_
    exact r_retI dX6_isMinute_28 ⟨by first | (rw [isMin, if_pos c4]; done) | (have h := ix_in y (n := nv V 34 d) (by have := bd hI 34 d 24 rfl rfl; omega); have h2 := ix_le y (nv V 34 d); rw [isMin, if_neg c4, nI_clamp (by omega)]; congr 1; omega), rfl⟩
  · obtain ⟨d, hd, rfl⟩ := ix_of c4
    refine r_iload_n (q := 8) dX6_isMinute_7 rfl rfl ?_
    refine r_iconst (q := 9) (v := nI 0) dX6_isMinute_8 rfl (by decide) ?_
    refine r_aload_n (q := 10) dX6_isMinute_9 rfl rfl ?_
    refine gX6_7 (q := 13) dX6_isMinute_10 rfl ?_
    refine r_iload_n (q := 14) dX6_isMinute_13 rfl rfl ?_
    refine r_ialdVM (q := 15) hV hI dX6_isMinute_14 rfl LA34 rfl rfl (by decide) (by omega) ?_
    refine r_iconst (q := 16) (v := nI 1) dX6_isMinute_15 rfl (by decide) ?_
    refine r_isub (q := 17) dX6_isMinute_16 rfl ?_
    refine r_sI3 (q := 20) vX6_100 dX6_isMinute_17 rfl (Nat.le_of_ble_eq_true rfl) (by decide) (by decide) (c_X6_in _ _ _ _) ?_
    rintro _ _ ⟨rfl, rfl⟩
    refine r_if_eqN (t := 27) (q := 23) dX6_isMinute_20 (by decide) rfl (by have h := ix_in y (n := nv V 34 d) (by have := bd hI 34 d 24 rfl rfl; omega); have := ix_le y (nv V 34 d); omega) (fun c20 => ?_) (fun c20 => ?_)
    · refine r_iconst (q := 28) (v := nI 0) dX6_isMinute_27 rfl (by decide) ?_
      exact r_retI dX6_isMinute_28 ⟨by first | (rw [isMin, if_pos c4]; done) | (have h := ix_in y (n := nv V 34 d) (by have := bd hI 34 d 24 rfl rfl; omega); have h2 := ix_le y (nv V 34 d); rw [isMin, if_neg c4, nI_clamp (by omega)]; congr 1; omega), rfl⟩
    · refine r_iconst (q := 24) (v := nI 1) dX6_isMinute_23 rfl (by decide) ?_
      refine r_goto (q := 28) dX6_isMinute_24 (by decide) ?_
      exact r_retI dX6_isMinute_28 ⟨by first | (rw [isMin, if_pos c4]; done) | (have h := ix_in y (n := nv V 34 d) (by have := bd hI 34 d 24 rfl rfl; omega); have h2 := ix_le y (nv V 34 d); rw [isMin, if_neg c4, nI_clamp (by omega)]; congr 1; omega), rfl⟩
/-- how many CELLS a WINDOW has -/
def cls (V : St) (w : Nat) : Nat := (nv V 53 w - nv V 52 w) * (nv V 55 w - nv V 54 w)
/-- what holds of the WINDOWS -/
def InvW (V : St) : Prop := ∀ w, nv V 52 w ≤ nv V 53 w ∧ nv V 54 w ≤ nv V 55 w ∧ cls V w ≤ 64 ∧ (w < nv V 33 19 → nv V 52 w < nv V 53 w ∧ nv V 54 w < nv V 55 w)
set_option maxRecDepth 100000 in
set_option maxHeartbeats 4000000 in
theorem c_X6_cellsOf (σ V : St) (hV : vwM σ = V) (hI : InvN V) (hw : InvW V) (w : Nat) (h : w < 20) : Cl LAY yX6_cellsOf cX6_cellsOf 2 (some .int) 0 0 [.ref 33, .int (nI w)] σ (EI (fun r τ => r = nI (cls V w) ∧ τ = σ)) := by
  refine Cl.of 0 rfl rfl EI.ok ?_
  show Rn LAY none RX6 _ _ _ _ 0 [some (.ref 33), some (.int (nI w))] [] _ _
  refine r_aload_n (q := 1) dX6_cellsOf_0 rfl rfl ?_
  refine gX6_72 (q := 4) dX6_cellsOf_1 rfl ?_
  refine r_iload_n (q := 5) dX6_cellsOf_4 rfl rfl ?_
  refine r_ialdVM (q := 6) hV hI dX6_cellsOf_5 rfl LA53 rfl rfl (by decide) (by omega) ?_
  refine r_aload_n (q := 7) dX6_cellsOf_6 rfl rfl ?_
  refine gX6_69 (q := 10) dX6_cellsOf_7 rfl ?_
  refine r_iload_n (q := 11) dX6_cellsOf_10 rfl rfl ?_
  refine r_ialdVM (q := 12) hV hI dX6_cellsOf_11 rfl LA52 rfl rfl (by decide) (by omega) ?_
  refine r_isubN (q := 13) dX6_cellsOf_12 rfl (hw w).1 ?_
  refine r_aload_n (q := 14) dX6_cellsOf_13 rfl rfl ?_
  refine gX6_78 (q := 17) dX6_cellsOf_14 rfl ?_
  refine r_iload_n (q := 18) dX6_cellsOf_17 rfl rfl ?_
  refine r_ialdVM (q := 19) hV hI dX6_cellsOf_18 rfl LA55 rfl rfl (by decide) (by omega) ?_
  refine r_aload_n (q := 20) dX6_cellsOf_19 rfl rfl ?_
  refine gX6_75 (q := 23) dX6_cellsOf_20 rfl ?_
  refine r_iload_n (q := 24) dX6_cellsOf_23 rfl rfl ?_
  refine r_ialdVM (q := 25) hV hI dX6_cellsOf_24 rfl LA54 rfl rfl (by decide) (by omega) ?_
  refine r_isubN (q := 26) dX6_cellsOf_25 rfl (hw w).2.1 ?_
  refine r_imulN (q := 27) dX6_cellsOf_26 rfl ?_
  exact r_retI dX6_cellsOf_27 ⟨rfl, rfl⟩
/-- why a BLOCK isn't one that is only PLANNED -/
def lack (V : St) (x : Int32) : Int32 := if ix x (nv V 33 7) = 0 then -1 else if nv V 39 x.toNatClampNeg = 3 then (if nv V 49 x.toNatClampNeg = 0 then (if nv V 48 x.toNatClampNeg = 0 then 0 else -3) else -3) else -2
set_option maxRecDepth 100000 in
set_option maxHeartbeats 4000000 in
theorem c_X6_lackOfPlan (σ V : St) (hV : vwM σ = V) (hI : InvN V) (x : Int32) : Cl LAY yX6_lackOfPlan cX6_lackOfPlan 2 (some .int) 2 43 [.ref 33, .int x] σ (EI (fun r τ => r = lack V x ∧ τ = σ)) := by
  refine Cl.of 0 rfl rfl EI.ok ?_
  show Rn LAY none RX6 _ _ _ _ 0 [some (.ref 33), some (.int x)] [] _ _
  refine r_aload_n (q := 1) dX6_lackOfPlan_0 rfl rfl ?_
  refine r_iload_n (q := 2) dX6_lackOfPlan_1 rfl rfl ?_
  refine r_cI1 (q := 5) vX6_115 dX6_lackOfPlan_2 rfl LYX6 rfl (Nat.le_of_ble_eq_true rfl) (by decide) (by decide) (c_X6_isBlock _ V hV hI _) ?_
  rintro _ _ ⟨rfl, rfl⟩
  refine r_if_neN (t := 12) (q := 8) dX6_lackOfPlan_5 (by decide) rfl (by have := ix_le x (nv V 33 7); omega) (fun c5 => ?_) (fun c5 => ?_)
  · have hnb := bd hI 33 7 40 rfl rfl
    obtain ⟨b, hb, rfl⟩ := ix_of c5
    refine r_aload_n (q := 13) dX6_lackOfPlan_12 rfl rfl ?_
    refine gX6_29 (q := 16) dX6_lackOfPlan_13 rfl ?_
    refine r_iload_n (q := 17) dX6_lackOfPlan_16 rfl rfl ?_
    refine r_ialdVM (q := 18) hV hI dX6_lackOfPlan_17 rfl LA39 rfl rfl (by decide) (by omega) ?_
    refine r_iconst (q := 19) (v := nI 3) dX6_lackOfPlan_18 rfl (by decide) ?_
    refine r_icmp_eqN (t := 27) (q := 22) dX6_lackOfPlan_19 (by decide) rfl (by have := bd hI 39 b 3 rfl rfl; omega) (by omega) (fun c19 => ?_) (fun c19 => ?_)
    · refine r_aload_n (q := 28) dX6_lackOfPlan_27 rfl rfl ?_
      refine gX6_60 (q := 31) dX6_lackOfPlan_28 rfl ?_
      refine r_iload_n (q := 32) dX6_lackOfPlan_31 rfl rfl ?_
      refine r_zaldVM (q := 33) hV hI dX6_lackOfPlan_32 rfl LA49 rfl rfl (by decide) (by omega) ?_
      refine r_if_neN (t := 45) (q := 36) dX6_lackOfPlan_33 (by decide) rfl (by have := bd hI 49 b 1 rfl rfl; omega) (fun c33 => ?_) (fun c33 => ?_)
      · refine r_bipush (q := 47) (v := -3) dX6_lackOfPlan_45 rfl (by decide) ?_
        refine r_goto (q := 51) dX6_lackOfPlan_47 (by decide) ?_
        exact r_retI dX6_lackOfPlan_51 ⟨by first | (rw [lack, if_pos c5]; done) | (rw [lack, if_neg c5, nI_clamp (by omega)]; simp [*]; done) | (rw [lack, if_neg c5, nI_clamp (by omega)]; simp [*]; rfl), rfl⟩
      · refine r_aload_n (q := 37) dX6_lackOfPlan_36 rfl rfl ?_
        refine gX6_56 (q := 40) dX6_lackOfPlan_37 rfl ?_
        refine r_iload_n (q := 41) dX6_lackOfPlan_40 rfl rfl ?_
        refine r_zaldVM (q := 42) hV hI dX6_lackOfPlan_41 rfl LA48 rfl rfl (by decide) (by omega) ?_
        refine r_if_eqN (t := 50) (q := 45) dX6_lackOfPlan_42 (by decide) rfl (by have := bd hI 48 b 1 rfl rfl; omega) (fun c42 => ?_) (fun c42 => ?_)
        · refine r_iconst (q := 51) (v := nI 0) dX6_lackOfPlan_50 rfl (by decide) ?_
          exact r_retI dX6_lackOfPlan_51 ⟨by first | (rw [lack, if_pos c5]; done) | (rw [lack, if_neg c5, nI_clamp (by omega)]; simp [*]; done) | (rw [lack, if_neg c5, nI_clamp (by omega)]; simp [*]; rfl), rfl⟩
        · refine r_bipush (q := 47) (v := -3) dX6_lackOfPlan_45 rfl (by decide) ?_
          refine r_goto (q := 51) dX6_lackOfPlan_47 (by decide) ?_
          exact r_retI dX6_lackOfPlan_51 ⟨by first | (rw [lack, if_pos c5]; done) | (rw [lack, if_neg c5, nI_clamp (by omega)]; simp [*]; done) | (rw [lack, if_neg c5, nI_clamp (by omega)]; simp [*]; rfl), rfl⟩
    · refine r_bipush (q := 24) (v := -2) dX6_lackOfPlan_22 rfl (by decide) ?_
      refine r_goto (q := 51) dX6_lackOfPlan_24 (by decide) ?_
      exact r_retI dX6_lackOfPlan_51 ⟨by first | (rw [lack, if_pos c5]; done) | (rw [lack, if_neg c5, nI_clamp (by omega)]; simp [*]; done) | (rw [lack, if_neg c5, nI_clamp (by omega)]; simp [*]; rfl), rfl⟩
  · refine r_iconst (q := 9) (v := -1) dX6_lackOfPlan_8 rfl (by decide) ?_
    refine r_goto (q := 51) dX6_lackOfPlan_9 (by decide) ?_
    exact r_retI dX6_lackOfPlan_51 ⟨by first | (rw [lack, if_pos c5]; done) | (rw [lack, if_neg c5, nI_clamp (by omega)]; simp [*]; done) | (rw [lack, if_neg c5, nI_clamp (by omega)]; simp [*]; rfl), rfl⟩
/-- a BLOCK is there -/
def there (V : St) (b : Nat) : Nat := if nv V 49 b = 0 then (if nv V 39 b = 3 then (if nv V 48 b = 0 then (if nI b = V 33 29 then 1 else 0) else 1) else 1) else 0
theorem there_le (V : St) (b : Nat) : there V b ≤ 1 := by unfold there; (repeat' split); all_goals omega
/-- its TOP, as thought -/
def topT (V : St) (b : Nat) : Nat := if nI b = V 33 29 then nv V 33 30 else nv V 45 b
theorem topT_le {V : St} (hI : InvN V) (b : Nat) : topT V b ≤ 200 := by
  unfold topT
  split
  · exact bd hI 33 30 200 rfl rfl
  · exact bd hI 45 b 200 rfl rfl
set_option maxRecDepth 100000 in
set_option maxHeartbeats 4000000 in
theorem c_X6_isThere (σ V : St) (hV : vwM σ = V) (hI : InvN V) (b : Nat) (h : b < 40) : Cl LAY yX6_isThere cX6_isThere 2 (some .boolean) 0 0 [.ref 33, .int (nI b)] σ (EI (fun r τ => r = nI (there V b) ∧ τ = σ)) := by
  refine Cl.of 0 rfl rfl (EI.okZ (okB (there_le _ _))) ?_
  show Rn LAY none RX6 _ _ _ _ 0 [some (.ref 33), some (.int (nI b))] [] _ _
  refine r_aload_n (q := 1) dX6_isThere_0 rfl rfl ?_
  refine gX6_60 (q := 4) dX6_isThere_1 rfl ?_
  refine r_iload_n (q := 5) dX6_isThere_4 rfl rfl ?_
  refine r_zaldVM (q := 6) hV hI dX6_isThere_5 rfl LA49 rfl rfl (by decide) (by omega) ?_
  refine r_if_neN (t := 40) (q := 9) dX6_isThere_6 (by decide) rfl (by have := bd hI 49 b 1 rfl rfl; omega) (fun c6 => ?_) (fun c6 => ?_)
  · refine r_iconst (q := 41) (v := nI 0) dX6_isThere_40 rfl (by decide) ?_
    exact r_retI dX6_isThere_41 ⟨(by simp only [there]; (repeat' split); all_goals first | rfl | contradiction | omega | (exfalso; omega)), rfl⟩
  · refine r_aload_n (q := 10) dX6_isThere_9 rfl rfl ?_
    refine gX6_29 (q := 13) dX6_isThere_10 rfl ?_
    refine r_iload_n (q := 14) dX6_isThere_13 rfl rfl ?_
    refine r_ialdVM (q := 15) hV hI dX6_isThere_14 rfl LA39 rfl rfl (by decide) (by omega) ?_
    refine r_iconst (q := 16) (v := nI 3) dX6_isThere_15 rfl (by decide) ?_
    refine r_icmp_neN (t := 36) (q := 19) dX6_isThere_16 (by decide) rfl (by have := bd hI 39 b 3 rfl rfl; omega) (by omega) (fun c16 => ?_) (fun c16 => ?_)
    · refine r_iconst (q := 37) (v := nI 1) dX6_isThere_36 rfl (by decide) ?_
      refine r_goto (q := 41) dX6_isThere_37 (by decide) ?_
      exact r_retI dX6_isThere_41 ⟨(by simp only [there]; (repeat' split); all_goals first | rfl | contradiction | omega | (exfalso; omega)), rfl⟩
    · refine r_aload_n (q := 20) dX6_isThere_19 rfl rfl ?_
      refine gX6_56 (q := 23) dX6_isThere_20 rfl ?_
      refine r_iload_n (q := 24) dX6_isThere_23 rfl rfl ?_
      refine r_zaldVM (q := 25) hV hI dX6_isThere_24 rfl LA48 rfl rfl (by decide) (by omega) ?_
      refine r_if_neN (t := 36) (q := 28) dX6_isThere_25 (by decide) rfl (by have := bd hI 48 b 1 rfl rfl; omega) (fun c25 => ?_) (fun c25 => ?_)
      · refine r_iconst (q := 37) (v := nI 1) dX6_isThere_36 rfl (by decide) ?_
        refine r_goto (q := 41) dX6_isThere_37 (by decide) ?_
        exact r_retI dX6_isThere_41 ⟨(by simp only [there]; (repeat' split); all_goals first | rfl | contradiction | omega | (exfalso; omega)), rfl⟩
      · refine r_iload_n (q := 29) dX6_isThere_28 rfl rfl ?_
        refine r_aload_n (q := 30) dX6_isThere_29 rfl rfl ?_
        refine gwX6_90 (q := 33) hV dX6_isThere_30 rfl ?_
        refine r_icmp_ne (t := 40) (q := 36) dX6_isThere_33 (by decide) rfl (fun c33 => ?_) (fun c33 => ?_)
        · refine r_iconst (q := 41) (v := nI 0) dX6_isThere_40 rfl (by decide) ?_
          exact r_retI dX6_isThere_41 ⟨(by simp only [there]; (repeat' split); all_goals first | rfl | contradiction | omega | (exfalso; omega)), rfl⟩
        · refine r_iconst (q := 37) (v := nI 1) dX6_isThere_36 rfl (by decide) ?_
          refine r_goto (q := 41) dX6_isThere_37 (by decide) ?_
          exact r_retI dX6_isThere_41 ⟨(by simp only [there]; (repeat' split); all_goals first | rfl | contradiction | omega | (exfalso; omega)), rfl⟩
set_option maxRecDepth 100000 in
set_option maxHeartbeats 4000000 in
theorem c_X6_topOf (σ V : St) (hV : vwM σ = V) (hI : InvN V) (b : Nat) (h : b < 40) : Cl LAY yX6_topOf cX6_topOf 2 (some .int) 0 0 [.ref 33, .int (nI b)] σ (EI (fun r τ => r = nI (topT V b) ∧ τ = σ)) := by
  refine Cl.of 0 rfl rfl EI.ok ?_
  show Rn LAY none RX6 _ _ _ _ 0 [some (.ref 33), some (.int (nI b))] [] _ _
  refine r_iload_n (q := 1) dX6_topOf_0 rfl rfl ?_
  refine r_aload_n (q := 2) dX6_topOf_1 rfl rfl ?_
  refine gwX6_90 (q := 5) hV dX6_topOf_2 rfl ?_
  refine r_icmp_ne (t := 15) (q := 8) dX6_topOf_5 (by decide) rfl (fun c5 => ?_) (fun c5 => ?_)
  · refine r_aload_n (q := 16) dX6_topOf_15 rfl rfl ?_
    refine gX6_47 (q := 19) dX6_topOf_16 rfl ?_
    refine r_iload_n (q := 20) dX6_topOf_19 rfl rfl ?_
    refine r_ialdVM (q := 21) hV hI dX6_topOf_20 rfl LA45 rfl rfl (by decide) (by omega) ?_
    exact r_retI dX6_topOf_21 ⟨(by simp only [topT]; (repeat' split); all_goals first | rfl | contradiction | omega | (exfalso; omega)), rfl⟩
  · refine r_aload_n (q := 9) dX6_topOf_8 rfl rfl ?_
    refine gvX6_121 (q := 12) hV hI dX6_topOf_9 rfl ?_
    refine r_goto (q := 21) dX6_topOf_12 (by decide) ?_
    exact r_retI dX6_topOf_21 ⟨(by simp only [topT]; (repeat' split); all_goals first | rfl | contradiction | omega | (exfalso; omega)), rfl⟩
/-- the SUN's way at a MINUTE leads to the SIDE of a WINDOW -/
def front (V : St) (w k : Nat) : Nat := if nv V 50 w % 2 = 0 then (if (if nv V 50 w < 2 then V 35 k else V 36 k) ≤ 0 then 0 else 1) else (if 0 ≤ (if nv V 50 w < 2 then V 35 k else V 36 k) then 0 else 1)
theorem front_le (V : St) (w k : Nat) : front V w k ≤ 1 := by
  unfold front
  (repeat' split)
  all_goals omega
set_option maxRecDepth 100000 in
set_option maxHeartbeats 4000000 in
theorem c_X6_isInFront (σ V : St) (hV : vwM σ = V) (hI : InvN V) (w k : Nat) (hw : w < 20) (hk : k < 192) : Cl LAY yX6_isInFront cX6_isInFront 4 (some .boolean) 0 0 [.ref 33, .int (nI w), .int (nI k)] σ (EI (fun r τ => r = nI (front V w k) ∧ τ = σ)) := by
  refine Cl.of 1 rfl rfl (EI.okZ (okB (front_le _ _ _))) ?_
  show Rn LAY none RX6 _ _ _ _ 0 [some (.ref 33), some (.int (nI w)), some (.int (nI k)), none] [] _ _
  refine r_aload_n (q := 1) dX6_isInFront_0 rfl rfl ?_
  refine gX6_63 (q := 4) dX6_isInFront_1 rfl ?_
  refine r_iload_n (q := 5) dX6_isInFront_4 rfl rfl ?_
  refine r_ialdVM (q := 6) hV hI dX6_isInFront_5 rfl LA50 rfl rfl (by decide) (by omega) ?_
  refine r_iconst (q := 7) (v := nI 2) dX6_isInFront_6 rfl (by decide) ?_
  refine r_icmp_geN (t := 19) (q := 10) dX6_isInFront_7 (by decide) rfl (by have := bd hI 50 w 3 rfl rfl; omega) (by omega) (fun c7 => ?_) (fun c7 => ?_)
  · refine r_aload_n (q := 20) dX6_isInFront_19 rfl rfl ?_
    refine gX6_16 (q := 23) dX6_isInFront_20 rfl ?_
    refine r_iload_n (q := 24) dX6_isInFront_23 rfl rfl ?_
    refine r_ialdWM (q := 25) hV dX6_isInFront_24 rfl LA36 rfl (by decide) (by omega) ?_
    refine r_istore_n (q := 26) dX6_isInFront_25 rfl (Nat.le_of_ble_eq_true rfl) ?_
    refine r_aload_n (q := 27) dX6_isInFront_26 rfl rfl ?_
    refine gX6_63 (q := 30) dX6_isInFront_27 rfl ?_
    refine r_iload_n (q := 31) dX6_isInFront_30 rfl rfl ?_
    refine r_ialdVM (q := 32) hV hI dX6_isInFront_31 rfl LA50 rfl rfl (by decide) (by omega) ?_
    refine r_iconst (q := 33) (v := nI 2) dX6_isInFront_32 rfl (by decide) ?_
    refine r_iremN (q := 34) dX6_isInFront_33 rfl (by have := bd hI 50 w 3 rfl rfl; omega) (by omega) (by omega) ?_
    refine r_if_neN (t := 49) (q := 37) dX6_isInFront_34 (by decide) rfl (by have := bd hI 50 w 3 rfl rfl; omega) (fun c34 => ?_) (fun c34 => ?_)
    · refine r_iload_n (q := 50) dX6_isInFront_49 rfl rfl ?_
      refine r_if_ge (t := 57) (q := 53) dX6_isInFront_50 (by decide) rfl (fun c50 => ?_) (fun c50 => ?_)
      · refine r_iconst (q := 58) (v := nI 0) dX6_isInFront_57 rfl (by decide) ?_
        exact r_retI dX6_isInFront_58 ⟨(by simp only [front]; (repeat' split); all_goals first | rfl | contradiction | omega | (exfalso; omega)), rfl⟩
      · refine r_iconst (q := 54) (v := nI 1) dX6_isInFront_53 rfl (by decide) ?_
        refine r_goto (q := 58) dX6_isInFront_54 (by decide) ?_
        exact r_retI dX6_isInFront_58 ⟨(by simp only [front]; (repeat' split); all_goals first | rfl | contradiction | omega | (exfalso; omega)), rfl⟩
    · refine r_iload_n (q := 38) dX6_isInFront_37 rfl rfl ?_
      refine r_if_le (t := 45) (q := 41) dX6_isInFront_38 (by decide) rfl (fun c38 => ?_) (fun c38 => ?_)
      · refine r_iconst (q := 46) (v := nI 0) dX6_isInFront_45 rfl (by decide) ?_
        refine r_goto (q := 58) dX6_isInFront_46 (by decide) ?_
        exact r_retI dX6_isInFront_58 ⟨(by simp only [front]; (repeat' split); all_goals first | rfl | contradiction | omega | (exfalso; omega)), rfl⟩
      · refine r_iconst (q := 42) (v := nI 1) dX6_isInFront_41 rfl (by decide) ?_
        refine r_goto (q := 58) dX6_isInFront_42 (by decide) ?_
        exact r_retI dX6_isInFront_58 ⟨(by simp only [front]; (repeat' split); all_goals first | rfl | contradiction | omega | (exfalso; omega)), rfl⟩
  · refine r_aload_n (q := 11) dX6_isInFront_10 rfl rfl ?_
    refine gX6_13 (q := 14) dX6_isInFront_11 rfl ?_
    refine r_iload_n (q := 15) dX6_isInFront_14 rfl rfl ?_
    refine r_ialdWM (q := 16) hV dX6_isInFront_15 rfl LA35 rfl (by decide) (by omega) ?_
    refine r_goto (q := 25) dX6_isInFront_16 (by decide) ?_
    refine r_istore_n (q := 26) dX6_isInFront_25 rfl (Nat.le_of_ble_eq_true rfl) ?_
    refine r_aload_n (q := 27) dX6_isInFront_26 rfl rfl ?_
    refine gX6_63 (q := 30) dX6_isInFront_27 rfl ?_
    refine r_iload_n (q := 31) dX6_isInFront_30 rfl rfl ?_
    refine r_ialdVM (q := 32) hV hI dX6_isInFront_31 rfl LA50 rfl rfl (by decide) (by omega) ?_
    refine r_iconst (q := 33) (v := nI 2) dX6_isInFront_32 rfl (by decide) ?_
    refine r_iremN (q := 34) dX6_isInFront_33 rfl (by have := bd hI 50 w 3 rfl rfl; omega) (by omega) (by omega) ?_
    refine r_if_neN (t := 49) (q := 37) dX6_isInFront_34 (by decide) rfl (by have := bd hI 50 w 3 rfl rfl; omega) (fun c34 => ?_) (fun c34 => ?_)
    · refine r_iload_n (q := 50) dX6_isInFront_49 rfl rfl ?_
      refine r_if_ge (t := 57) (q := 53) dX6_isInFront_50 (by decide) rfl (fun c50 => ?_) (fun c50 => ?_)
      · refine r_iconst (q := 58) (v := nI 0) dX6_isInFront_57 rfl (by decide) ?_
        exact r_retI dX6_isInFront_58 ⟨(by simp only [front]; (repeat' split); all_goals first | rfl | contradiction | omega | (exfalso; omega)), rfl⟩
      · refine r_iconst (q := 54) (v := nI 1) dX6_isInFront_53 rfl (by decide) ?_
        refine r_goto (q := 58) dX6_isInFront_54 (by decide) ?_
        exact r_retI dX6_isInFront_58 ⟨(by simp only [front]; (repeat' split); all_goals first | rfl | contradiction | omega | (exfalso; omega)), rfl⟩
    · refine r_iload_n (q := 38) dX6_isInFront_37 rfl rfl ?_
      refine r_if_le (t := 45) (q := 41) dX6_isInFront_38 (by decide) rfl (fun c38 => ?_) (fun c38 => ?_)
      · refine r_iconst (q := 46) (v := nI 0) dX6_isInFront_45 rfl (by decide) ?_
        refine r_goto (q := 58) dX6_isInFront_46 (by decide) ?_
        exact r_retI dX6_isInFront_58 ⟨(by simp only [front]; (repeat' split); all_goals first | rfl | contradiction | omega | (exfalso; omega)), rfl⟩
      · refine r_iconst (q := 42) (v := nI 1) dX6_isInFront_41 rfl (by decide) ?_
        refine r_goto (q := 58) dX6_isInFront_42 (by decide) ?_
        exact r_retI dX6_isInFront_58 ⟨(by simp only [front]; (repeat' split); all_goals first | rfl | contradiction | omega | (exfalso; omega)), rfl⟩
def kept (V : St) (w : Nat) : Nat := if V 56 w < 3 then 0 else if nv V 57 w = 0 then 1 else 0
theorem kept_le (V : St) (w : Nat) : kept V w ≤ 1 := by unfold kept; (repeat' split); all_goals omega
set_option maxRecDepth 100000 in
set_option maxHeartbeats 4000000 in
theorem c_X6_isKept (σ V : St) (hV : vwM σ = V) (hI : InvN V) (w : Nat) (h : w < 20) : Cl LAY yX6_isKept cX6_isKept 2 (some .boolean) 0 0 [.ref 33, .int (nI w)] σ (EI (fun r τ => r = nI (kept V w) ∧ τ = σ)) := by
  refine Cl.of 0 rfl rfl (EI.okZ (okB (kept_le _ _))) ?_
  show Rn LAY none RX6 _ _ _ _ 0 [some (.ref 33), some (.int (nI w))] [] _ _
  refine r_aload_n (q := 1) dX6_isKept_0 rfl rfl ?_
  refine gX6_81 (q := 4) dX6_isKept_1 rfl ?_
  refine r_iload_n (q := 5) dX6_isKept_4 rfl rfl ?_
  refine r_ialdWM (q := 6) hV dX6_isKept_5 rfl LA56 rfl (by decide) (by omega) ?_
  refine r_iconst (q := 7) (v := nI 3) dX6_isKept_6 rfl (by decide) ?_
  refine r_icmp_lt (t := 23) (q := 10) dX6_isKept_7 (by decide) rfl (fun c7 => ?_) (fun c7 => ?_)
  · refine r_iconst (q := 24) (v := nI 0) dX6_isKept_23 rfl (by decide) ?_
    exact r_retI dX6_isKept_24 ⟨(by simp only [kept]; (repeat' split); all_goals first | rfl | contradiction | omega | (exfalso; omega)), rfl⟩
  · refine r_aload_n (q := 11) dX6_isKept_10 rfl rfl ?_
    refine gX6_84 (q := 14) dX6_isKept_11 rfl ?_
    refine r_iload_n (q := 15) dX6_isKept_14 rfl rfl ?_
    refine r_zaldVM (q := 16) hV hI dX6_isKept_15 rfl LA57 rfl rfl (by decide) (by omega) ?_
    refine r_if_neN (t := 23) (q := 19) dX6_isKept_16 (by decide) rfl (by have := bd hI 57 w 1 rfl rfl; omega) (fun c16 => ?_) (fun c16 => ?_)
    · refine r_iconst (q := 24) (v := nI 0) dX6_isKept_23 rfl (by decide) ?_
      exact r_retI dX6_isKept_24 ⟨(by simp only [kept]; (repeat' split); all_goals first | rfl | contradiction | omega | (exfalso; omega)), rfl⟩
    · refine r_iconst (q := 20) (v := nI 1) dX6_isKept_19 rfl (by decide) ?_
      refine r_goto (q := 24) dX6_isKept_20 (by decide) ?_
      exact r_retI dX6_isKept_24 ⟨(by simp only [kept]; (repeat' split); all_goals first | rfl | contradiction | omega | (exfalso; omega)), rfl⟩
