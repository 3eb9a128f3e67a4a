/-! ===== years ===== -/
def growR (V : St) (n : Nat) : St := fun k i => if k = 45 ∧ i < n ∧ nv V 39 i = 1 ∧ nv V 45 i < nv V 46 i then nI (nv V 45 i + 1) else V k i
def rightR (V : St) (n : Nat) : St := fun k i => if k = 56 ∧ i < n then (if fallI V i = -9 then V 56 i + nI 1 else nI 0) else V k i
def yearY (V : St) : St := wr V 33 6 (nI (nv V 33 6 + 1))
def yearG (V : St) : St := growR (yearY V) (nv V 33 7)
def yearS (V : St) : St := rightR (yearG V) (nv V 33 19)
def yearsR (V : St) : Nat → St
  | 0 => V
  | n + 1 => yearS (yearsR V n)
theorem growR_at (V : St) (n k i : Nat) (h : ¬ k = 45) : growR V n k i = V k i := if_neg (fun e => h e.1)
theorem growR_nv (V : St) (n k i : Nat) (h : ¬ k = 45) : nv (growR V n) k i = nv V k i := by unfold nv; rw [growR_at V n k i h]
theorem rightR_at (V : St) (n k i : Nat) (h : ¬ k = 56) : rightR V n k i = V k i := if_neg (fun e => h e.1)
theorem rightR_row (V : St) (n k : Nat) (h : ¬ k = 56) : rightR V n k = V k := funext fun i => rightR_at V n k i h
theorem rightR_nv (V : St) (n k i : Nat) (h : ¬ k = 56) : nv (rightR V n) k i = nv V k i := by unfold nv; rw [rightR_at V n k i h]
theorem yearY_at (V : St) (k i : Nat) (h : ¬ (k = 33 ∧ i = 6)) : yearY V k i = V k i := by unfold yearY; rw [wr_at, if_neg h]
theorem yearY_nv (V : St) (k i : Nat) (h : ¬ (k = 33 ∧ i = 6)) : nv (yearY V) k i = nv V k i := by unfold nv; rw [yearY_at V k i h]
theorem yearY_6 {V : St} (h : nv V 33 6 < 60) : nv (yearY V) 33 6 = nv V 33 6 + 1 := by
  unfold yearY
  show (wr V 33 6 _ 33 6).toNatClampNeg = _
  rw [wr_at, if_pos ⟨rfl, rfl⟩]
  exact nI_clamp (by omega)
theorem yearY_WF {V : St} (hF : WF V) (h : nv V 33 6 < 60) : WF (yearY V) := by
  obtain ⟨hI, hW, hG⟩ := hF
  refine ⟨fun k i hn => ?_, fun w => ?_, fun k => ?_, fun d m hd hm => ?_⟩
  · by_cases e : k = 33 ∧ i = 6
    · obtain ⟨rfl, rfl⟩ := e
      rw [yearY_6 h]
      refine ⟨?_, by show nv V 33 6 + 1 ≤ 60; omega⟩
      unfold yearY
      rw [wr_at, if_pos ⟨rfl, rfl⟩]
    · rw [yearY_nv V k i e, yearY_at V k i e]
      exact hI k i hn
  · have := hW w
    simp only [cls, yearY_nv V 52 w (by omega), yearY_nv V 53 w (by omega), yearY_nv V 54 w (by omega), yearY_nv V 55 w (by omega), yearY_nv V 33 19 (by omega)]
    exact this
  · rw [yearY_at V 35 k (by omega), yearY_at V 36 k (by omega)]
    exact hG.1 k
  · rw [yearY_nv V 34 d (by omega)] at hm
    rw [yearY_nv V 37 _ (by omega)]
    exact hG.2 d m hd hm
theorem growR_WF {V : St} (hF : WF V) (n : Nat) : WF (growR V n) := by
  obtain ⟨hI, hW, hG⟩ := hF
  refine ⟨fun k i hn => ?_, fun w => ?_, fun k => ?_, fun d m hd hm => ?_⟩
  · by_cases h : k = 45 ∧ i < n ∧ nv V 39 i = 1 ∧ nv V 45 i < nv V 46 i
    · have e : growR V n k i = nI (nv V 45 i + 1) := if_pos h
      have hm := bd hI 46 i 200 rfl rfl
      have e2 : nv (growR V n) k i = nv V 45 i + 1 := (by
        have hlt : nv V 45 i + 1 < 2 ^ 31 := by omega
        show (growR V n k i).toNatClampNeg = _
        rw [e]
        exact nI_clamp hlt)
      rw [e, e2]
      refine ⟨rfl, ?_⟩
      rw [h.1]
      show nv V 45 i + 1 ≤ 200
      omega
    · have e : growR V n k i = V k i := if_neg h
      have e2 : nv (growR V n) k i = nv V k i := by unfold nv; rw [e]
      rw [e, e2]
      exact hI k i hn
  · have := hW w
    simp only [cls, growR_nv V n 52 w (by decide), growR_nv V n 53 w (by decide), growR_nv V n 54 w (by decide), growR_nv V n 55 w (by decide), growR_nv V n 33 19 (by decide)]
    exact this
  · rw [growR_at V n 35 k (by decide), growR_at V n 36 k (by decide)]
    exact hG.1 k
  · rw [growR_nv V n 34 d (by decide)] at hm
    rw [growR_nv V n 37 _ (by decide)]
    exact hG.2 d m hd hm
theorem rightR_WF {V : St} (hF : WF V) (n : Nat) : WF (rightR V n) := by
  obtain ⟨hI, hW, hG⟩ := hF
  refine ⟨fun k i hn => ?_, fun w => ?_, fun k => ?_, fun d m hd hm => ?_⟩
  · have hk : ¬ k = 56 := by rintro rfl; cases hn
    rw [rightR_nv V n k i hk, rightR_at V n k i hk]
    exact hI k i hn
  · have := hW w
    simp only [cls, rightR_nv V n 52 w (by decide), rightR_nv V n 53 w (by decide), rightR_nv V n 54 w (by decide), rightR_nv V n 55 w (by decide), rightR_nv V n 33 19 (by decide)]
    exact this
  · rw [rightR_at V n 35 k (by decide), rightR_at V n 36 k (by decide)]
    exact hG.1 k
  · rw [rightR_nv V n 34 d (by decide)] at hm
    rw [rightR_nv V n 37 _ (by decide)]
    exact hG.2 d m hd hm
theorem rightR_GEo (V : St) (n : Nat) : GEo V (rightR V n) := by
  unfold GEo
  refine ⟨?_, ?_, ?_, ?_, ?_, ?_, ?_, ?_, ?_, ?_, ?_, ?_, ?_, ?_, ?_, ?_, ?_, ?_⟩ <;> first | exact rightR_at V n _ _ (by decide) | exact rightR_row V n _ (by decide)
theorem rightR_GEw (V : St) (n w : Nat) : GEw V (rightR V n) w := by
  unfold GEw
  refine ⟨?_, ?_, ?_, ?_, ?_, ?_⟩ <;> exact rightR_at V n _ _ (by decide)
theorem rightR_fall (V : St) (n w : Nat) : fallI (rightR V n) w = fallI V w := fallI_c (rightR_GEo V n) (rightR_GEw V n w) (rightR_row V n 38 (by decide))
theorem growR_0 (V : St) : growR V 0 = V := by
  funext k i
  exact if_neg (by omega)
theorem rightR_0 (V : St) : rightR V 0 = V := by
  funext k i
  exact if_neg (by omega)
theorem growR_s {V : St} (hI : InvN V) (n : Nat) {x : Int32} (hx : x = if nv V 39 n = 1 ∧ nv V 45 n < nv V 46 n then nI (nv V 45 n + 1) else nI (nv V 45 n)) : wr (growR V n) 45 n x = growR V (n + 1) := by
  funext k i
  rw [wr_at, hx]
  unfold growR
  by_cases h1 : k = 45 ∧ i = n
  · obtain ⟨rfl, rfl⟩ := h1
    rw [if_pos ⟨rfl, rfl⟩]
    by_cases h2 : nv V 39 i = 1 ∧ nv V 45 i < nv V 46 i
    · rw [if_pos h2, if_pos ⟨rfl, by omega, h2.1, h2.2⟩]
    · rw [if_neg h2, if_neg (fun e => h2 ⟨e.2.2.1, e.2.2.2⟩), (hI 45 i rfl).1]
  · rw [if_neg h1]
    by_cases h2 : k = 45 ∧ i < n ∧ nv V 39 i = 1 ∧ nv V 45 i < nv V 46 i
    · rw [if_pos h2, if_pos ⟨h2.1, by omega, h2.2.2.1, h2.2.2.2⟩]
    · rw [if_neg h2, if_neg (fun e => h2 ⟨e.1, by omega, e.2.2.1, e.2.2.2⟩)]
theorem rightR_s (V : St) (n : Nat) {x : Int32} (hx : x = if fallI V n = -9 then V 56 n + nI 1 else nI 0) : wr (rightR V n) 56 n x = rightR V (n + 1) := by
  funext k i
  rw [wr_at]
  by_cases h1 : k = 56 ∧ i = n
  · obtain ⟨rfl, rfl⟩ := h1
    rw [if_pos ⟨rfl, rfl⟩, hx]
    exact (if_pos ⟨rfl, by omega⟩ : rightR V (i + 1) 56 i = _).symm
  · rw [if_neg h1]
    by_cases h2 : k = 56 ∧ i < n
    · exact (if_pos h2).trans (if_pos (c := k = 56 ∧ i < n + 1) ⟨h2.1, by omega⟩).symm
    · exact (if_neg h2).trans (if_neg (c := k = 56 ∧ i < n + 1) (fun e => h2 ⟨e.1, by omega⟩)).symm
theorem growR_n (V : St) (n : Nat) : nv (growR V n) 39 n = nv V 39 n ∧ nv (growR V n) 45 n = nv V 45 n ∧ nv (growR V n) 46 n = nv V 46 n := by
  refine ⟨growR_nv V n 39 n (by decide), ?_, growR_nv V n 46 n (by decide)⟩
  unfold nv
  rw [show growR V n 45 n = V 45 n from if_neg (by omega)]
theorem rightR_n (V : St) (n : Nat) : rightR V n 56 n = V 56 n := if_neg (by omega)
theorem yearS_nv (V : St) (k i : Nat) (h : ¬ k = 45) (h2 : ¬ k = 56) (h3 : ¬ (k = 33 ∧ i = 6)) : nv (yearS V) k i = nv V k i := by
  unfold yearS yearG
  rw [rightR_nv _ _ k i h2, growR_nv _ _ k i h, yearY_nv V k i h3]
theorem yearS_6 {V : St} (h : nv V 33 6 < 60) : nv (yearS V) 33 6 = nv V 33 6 + 1 := by
  unfold yearS yearG
  rw [rightR_nv _ _ 33 6 (by decide), growR_nv _ _ 33 6 (by decide), yearY_6 h]
theorem yearS_WF {V : St} (hF : WF V) (h : nv V 33 6 < 60) : WF (yearS V) := rightR_WF (growR_WF (yearY_WF hF h) _) _
theorem yearsR_all {V : St} (hF : WF V) : ∀ n, nv V 33 6 + n ≤ 60 → WF (yearsR V n) ∧ nv (yearsR V n) 33 6 = nv V 33 6 + n ∧ nv (yearsR V n) 33 7 = nv V 33 7 ∧ nv (yearsR V n) 33 19 = nv V 33 19 := by
  intro n
  induction n with
  | zero => intro _; exact ⟨hF, rfl, rfl, rfl⟩
  | succ n ih =>
    intro h
    obtain ⟨h1, h2, h3, h4⟩ := ih (by omega)
    exact ⟨yearS_WF h1 (by omega), by show nv (yearS _) 33 6 = _; rw [yearS_6 (by omega)]; omega, (yearS_nv _ 33 7 (by decide) (by decide) (by decide)).trans h3, (yearS_nv _ 33 19 (by decide) (by decide) (by decide)).trans h4⟩
set_option maxRecDepth 100000 in
set_option maxHeartbeats 4000000 in
theorem l_X6_years2 {V0 G : St} (hF : WF G) {nn kk : Nat} (K : ∀ σ (z3 : Option Value), vwM σ = rightR G (nv G 33 19) → Rn LAY none RX6 cX6_years 4 6 146 146 [some (.ref 33), some (.int (nI nn)), some (.int (nI kk)), z3] [] σ (EI (fun v τ => v = nI (nv V0 33 6 + nn) ∧ vwM τ = yearsR V0 nn))) : ∀ (n w : Nat) (σ : St), vwM σ = rightR G w → w + n = nv G 33 19 → Rn LAY none RX6 cX6_years 4 6 146 104 [some (.ref 33), some (.int (nI nn)), some (.int (nI kk)), some (.int (nI (w)))] [] σ (EI (fun v τ => v = nI (nv V0 33 6 + nn) ∧ vwM τ = yearsR V0 nn)) := by
  have hnw := bd hF.1 33 19 20 rfl rfl
  intro n
  induction n with
  | zero =>
    intro w σ hV hb
    have hFr := rightR_WF hF w
    have hI := hFr.1
    have hnv : nv (rightR G w) 33 19 = nv G 33 19 := rightR_nv G w 33 19 (by decide)
    refine r_iload_n (q := 105) dX6_years_104 rfl rfl ?_
    refine r_aload_n (q := 106) dX6_years_105 rfl rfl ?_
    refine gvX6_104 (q := 109) hV hI dX6_years_106 rfl ?_
    refine r_icmp_geN (t := 146) (q := 112) dX6_years_109 (by decide) rfl (by omega) (by omega) (fun c109 => ?_) (fun c109 => absurd (by omega) c109)
    exact K _ _ (by rw [hV, show w = nv G 33 19 by omega])
  | succ n ih =>
    intro w σ hV hb
    have hFr := rightR_WF hF w
    have hI := hFr.1
    have hnv : nv (rightR G w) 33 19 = nv G 33 19 := rightR_nv G w 33 19 (by decide)
    refine r_iload_n (q := 105) dX6_years_104 rfl rfl ?_
    refine r_aload_n (q := 106) dX6_years_105 rfl rfl ?_
    refine gvX6_104 (q := 109) hV hI dX6_years_106 rfl ?_
    refine r_icmp_geN (t := 146) (q := 112) dX6_years_109 (by decide) rfl (by omega) (by omega) (fun c109 => absurd c109 (by omega)) (fun c109 => ?_)
    refine r_aload_n (q := 113) dX6_years_112 rfl rfl ?_
    refine gX6_81 (q := 116) dX6_years_113 rfl ?_
    refine r_iload_n (q := 117) dX6_years_116 rfl rfl ?_
    refine r_aload_n (q := 118) dX6_years_117 rfl rfl ?_
    refine r_iload_n (q := 119) dX6_years_118 rfl rfl ?_
    refine r_cI1 (q := 122) vX6_213 dX6_years_119 rfl LYX6 rfl (Nat.le_of_ble_eq_true rfl) (by decide) (by decide) (c_X6_fallsOn _ _ hV hFr w (by omega) (by omega)) ?_
    rintro _ τ ⟨rfl, hV1⟩
    rw [rightR_fall]
    refine r_bipush (q := 124) (v := -9) dX6_years_122 rfl (by decide) ?_
    refine r_icmp_ne (t := 138) (q := 127) dX6_years_124 (by decide) rfl (fun c124 => ?_) (fun c124 => ?_)
    · refine r_iconst (q := 139) (v := nI 0) dX6_years_138 rfl (by decide) ?_
      refine r_iastPM (q := 140) hV1 dX6_years_139 rfl LA56 rfl (by omega) (by decide) (fun s139 hV139 => ?_)
      refine r_iinc (q := 143) (v := nI (w + 1)) dX6_years_140 rfl rfl (by rw [show Int32.ofInt 1 = nI 1 from rfl]; exact nI_add _ _) ?_
      refine r_goto (q := 104) dX6_years_143 (by decide) ?_
      rw [rightR_s G w (by rw [if_neg c124])] at hV139
      exact ih (w + 1) _ hV139 (by omega)
    · refine r_aload_n (q := 128) dX6_years_127 rfl rfl ?_
      refine gX6_81 (q := 131) dX6_years_128 rfl ?_
      refine r_iload_n (q := 132) dX6_years_131 rfl rfl ?_
      refine r_ialdWM (q := 133) hV1 dX6_years_132 rfl LA56 rfl (by decide) (by omega) ?_
      refine r_as (rightR_n G w) ?_
      refine r_iconst (q := 134) (v := nI 1) dX6_years_133 rfl (by decide) ?_
      refine r_iadd (q := 135) dX6_years_134 rfl ?_
      refine r_goto (q := 139) dX6_years_135 (by decide) ?_
      refine r_iastPM (q := 140) hV1 dX6_years_139 rfl LA56 rfl (by omega) (by decide) (fun s139 hV139 => ?_)
      refine r_iinc (q := 143) (v := nI (w + 1)) dX6_years_140 rfl rfl (by rw [show Int32.ofInt 1 = nI 1 from rfl]; exact nI_add _ _) ?_
      refine r_goto (q := 104) dX6_years_143 (by decide) ?_
      rw [rightR_s G w (by rw [if_pos c124])] at hV139
      exact ih (w + 1) _ hV139 (by omega)
set_option maxRecDepth 100000 in
set_option maxHeartbeats 4000000 in
theorem l_X6_years1 {V0 Y : St} (hF : WF Y) {nn kk : Nat} (K : ∀ σ (z3 : Option Value), vwM σ = growR Y (nv Y 33 7) → Rn LAY none RX6 cX6_years 4 6 146 102 [some (.ref 33), some (.int (nI nn)), some (.int (nI kk)), z3] [] σ (EI (fun v τ => v = nI (nv V0 33 6 + nn) ∧ vwM τ = yearsR V0 nn))) : ∀ (n b : Nat) (σ : St), vwM σ = growR Y b → b + n = nv Y 33 7 → Rn LAY none RX6 cX6_years 4 6 146 49 [some (.ref 33), some (.int (nI nn)), some (.int (nI kk)), some (.int (nI (b)))] [] σ (EI (fun v τ => v = nI (nv V0 33 6 + nn) ∧ vwM τ = yearsR V0 nn)) := by
  have hnb := bd hF.1 33 7 40 rfl rfl
  intro n
  induction n with
  | zero =>
    intro b σ hV hb
    have hFr := growR_WF hF b
    have hI := hFr.1
    have hnv : nv (growR Y b) 33 7 = nv Y 33 7 := growR_nv Y b 33 7 (by decide)
    obtain ⟨g1, g2, g3⟩ := growR_n Y b
    refine r_iload_n (q := 50) dX6_years_49 rfl rfl ?_
    refine r_aload_n (q := 51) dX6_years_50 rfl rfl ?_
    refine gvX6_97 (q := 54) hV hI dX6_years_51 rfl ?_
    refine r_icmp_geN (t := 102) (q := 57) dX6_years_54 (by decide) rfl (by omega) (by omega) (fun c54 => ?_) (fun c54 => absurd (by omega) c54)
    exact K _ _ (by rw [hV, show b = nv Y 33 7 by omega])
  | succ n ih =>
    intro b σ hV hb
    have hFr := growR_WF hF b
    have hI := hFr.1
    have hnv : nv (growR Y b) 33 7 = nv Y 33 7 := growR_nv Y b 33 7 (by decide)
    obtain ⟨g1, g2, g3⟩ := growR_n Y b
    refine r_iload_n (q := 50) dX6_years_49 rfl rfl ?_
    refine r_aload_n (q := 51) dX6_years_50 rfl rfl ?_
    refine gvX6_97 (q := 54) hV hI dX6_years_51 rfl ?_
    refine r_icmp_geN (t := 102) (q := 57) dX6_years_54 (by decide) rfl (by omega) (by omega) (fun c54 => absurd c54 (by omega)) (fun c54 => ?_)
    refine r_aload_n (q := 58) dX6_years_57 rfl rfl ?_
    refine gX6_47 (q := 61) dX6_years_58 rfl ?_
    refine r_iload_n (q := 62) dX6_years_61 rfl rfl ?_
    refine r_dup2 (q := 63) dX6_years_62 rfl ?_
    refine r_ialdVM (q := 64) hV hI dX6_years_63 rfl LA45 rfl rfl (by decide) (by omega) ?_
    refine r_aload_n (q := 65) dX6_years_64 rfl rfl ?_
    refine gX6_29 (q := 68) dX6_years_65 rfl ?_
    refine r_iload_n (q := 69) dX6_years_68 rfl rfl ?_
    refine r_ialdVM (q := 70) hV hI dX6_years_69 rfl LA39 rfl rfl (by decide) (by omega) ?_
    refine r_iconst (q := 71) (v := nI 1) dX6_years_70 rfl (by decide) ?_
    refine r_icmp_neN (t := 93) (q := 74) dX6_years_71 (by decide) rfl (by have := bd hI 39 b 3 rfl rfl; omega) (by omega) (fun c71 => ?_) (fun c71 => ?_)
    · refine r_iconst (q := 94) (v := nI 0) dX6_years_93 rfl (by decide) ?_
      refine r_iaddN (q := 95) dX6_years_94 rfl ?_
      refine r_iastPM (q := 96) hV dX6_years_95 rfl LA45 rfl (by omega) (by decide) (fun s95 hV95 => ?_)
      refine r_iinc (q := 99) (v := nI (b + 1)) dX6_years_96 rfl rfl (by rw [show Int32.ofInt 1 = nI 1 from rfl]; exact nI_add _ _) ?_
      refine r_goto (q := 49) dX6_years_99 (by decide) ?_
      rw [g1] at c71
      rw [g2] at hV95
      rw [growR_s hF.1 b (by rw [if_neg (fun e => c71 e.1)]; try rfl)] at hV95
      exact ih (b + 1) _ hV95 (by omega)
    · refine r_aload_n (q := 75) dX6_years_74 rfl rfl ?_
      refine gX6_47 (q := 78) dX6_years_75 rfl ?_
      refine r_iload_n (q := 79) dX6_years_78 rfl rfl ?_
      refine r_ialdVM (q := 80) hV hI dX6_years_79 rfl LA45 rfl rfl (by decide) (by omega) ?_
      refine r_aload_n (q := 81) dX6_years_80 rfl rfl ?_
      refine gX6_50 (q := 84) dX6_years_81 rfl ?_
      refine r_iload_n (q := 85) dX6_years_84 rfl rfl ?_
      refine r_ialdVM (q := 86) hV hI dX6_years_85 rfl LA46 rfl rfl (by decide) (by omega) ?_
      refine r_icmp_geN (t := 93) (q := 89) dX6_years_86 (by decide) rfl (by have := bd hI 45 b 200 rfl rfl; omega) (by have := bd hI 46 b 200 rfl rfl; omega) (fun c86 => ?_) (fun c86 => ?_)
      · refine r_iconst (q := 94) (v := nI 0) dX6_years_93 rfl (by decide) ?_
        refine r_iaddN (q := 95) dX6_years_94 rfl ?_
        refine r_iastPM (q := 96) hV dX6_years_95 rfl LA45 rfl (by omega) (by decide) (fun s95 hV95 => ?_)
        refine r_iinc (q := 99) (v := nI (b + 1)) dX6_years_96 rfl rfl (by rw [show Int32.ofInt 1 = nI 1 from rfl]; exact nI_add _ _) ?_
        refine r_goto (q := 49) dX6_years_99 (by decide) ?_
        rw [g1] at c71
        rw [g2, g3] at c86
        rw [g2] at hV95
        rw [growR_s hF.1 b (by rw [if_neg (fun e => by omega)]; try rfl)] at hV95
        exact ih (b + 1) _ hV95 (by omega)
      · refine r_iconst (q := 90) (v := nI 1) dX6_years_89 rfl (by decide) ?_
        refine r_goto (q := 94) dX6_years_90 (by decide) ?_
        refine r_iaddN (q := 95) dX6_years_94 rfl ?_
        refine r_iastPM (q := 96) hV dX6_years_95 rfl LA45 rfl (by omega) (by decide) (fun s95 hV95 => ?_)
        refine r_iinc (q := 99) (v := nI (b + 1)) dX6_years_96 rfl rfl (by rw [show Int32.ofInt 1 = nI 1 from rfl]; exact nI_add _ _) ?_
        refine r_goto (q := 49) dX6_years_99 (by decide) ?_
        rw [g1] at c71
        rw [g2, g3] at c86
        rw [g2] at hV95
        rw [growR_s hF.1 b (by rw [if_pos ⟨c71, by omega⟩]; try rfl)] at hV95
        exact ih (b + 1) _ hV95 (by omega)
set_option maxRecDepth 100000 in
set_option maxHeartbeats 4000000 in
theorem l_X6_years {V0 : St} (hF : WF V0) {nn : Nat} (hnn : nv V0 33 6 + nn ≤ 60) : ∀ (n kk : Nat) (σ : St) (z3 : Option Value), vwM σ = yearsR V0 kk → kk + n = nn → Rn LAY none RX6 cX6_years 4 6 146 32 [some (.ref 33), some (.int (nI nn)), some (.int (nI kk)), z3] [] σ (EI (fun v τ => v = nI (nv V0 33 6 + nn) ∧ vwM τ = yearsR V0 nn)) := by
  intro n
  induction n with
  | zero =>
    intro kk σ z3 hV hb
    obtain ⟨hWk, h6, h7, h19⟩ := yearsR_all hF kk (by omega)
    have hI := hWk.1
    refine r_iload_n (q := 33) dX6_years_32 rfl rfl ?_
    refine r_iload_n (q := 34) dX6_years_33 rfl rfl ?_
    refine r_icmp_geN (t := 152) (q := 37) dX6_years_34 (by decide) rfl (by omega) (by omega) (fun c34 => ?_) (fun c34 => absurd (by omega) c34)
    refine r_aload_n (q := 153) dX6_years_152 rfl rfl ?_
    refine gvX6_222 (q := 156) hV hI dX6_years_153 rfl ?_
    exact r_retI dX6_years_156 ⟨by rw [h6, show kk = nn by omega], by rw [hV, show kk = nn by omega]⟩
  | succ n ih =>
    intro kk σ z3 hV hb
    obtain ⟨hWk, h6, h7, h19⟩ := yearsR_all hF kk (by omega)
    have hI := hWk.1
    refine r_iload_n (q := 33) dX6_years_32 rfl rfl ?_
    refine r_iload_n (q := 34) dX6_years_33 rfl rfl ?_
    refine r_icmp_geN (t := 152) (q := 37) dX6_years_34 (by decide) rfl (by omega) (by omega) (fun c34 => absurd c34 (by omega)) (fun c34 => ?_)
    refine r_aload_n (q := 38) dX6_years_37 rfl rfl ?_
    refine r_dup (q := 39) dX6_years_38 rfl ?_
    refine gvX6_222 (q := 42) hV hI dX6_years_39 rfl ?_
    refine r_iconst (q := 43) (v := nI 1) dX6_years_42 rfl (by decide) ?_
    refine r_iaddN (q := 44) dX6_years_43 rfl ?_
    refine ppX6_222 (q := 47) hV dX6_years_44 rfl (fun s44 hV44 => ?_)
    refine r_iconst (q := 48) (v := nI 0) dX6_years_47 rfl (by decide) ?_
    refine r_istore_n (q := 49) dX6_years_48 rfl (Nat.le_of_ble_eq_true rfl) ?_
    have hY := yearY_WF hWk (by omega)
    have hV44 : vwM s44 = yearY (yearsR V0 kk) := hV44
    refine l_X6_years1 hY (fun τ z3 hVg => ?_) (nv (yearY (yearsR V0 kk)) 33 7) 0 _ (by rw [growR_0]; exact hV44) (Nat.zero_add _)
    refine r_iconst (q := 103) (v := nI 0) dX6_years_102 rfl (by decide) ?_
    refine r_istore_n (q := 104) dX6_years_103 rfl (Nat.le_of_ble_eq_true rfl) ?_
    refine l_X6_years2 (growR_WF hY _) (fun τ2 z4 hVr => ?_) (nv (growR (yearY (yearsR V0 kk)) (nv (yearY (yearsR V0 kk)) 33 7)) 33 19) 0 _ (by rw [rightR_0]; exact hVg) (Nat.zero_add _)
    refine r_iinc (q := 149) (v := nI (kk + 1)) dX6_years_146 rfl rfl (by rw [show Int32.ofInt 1 = nI 1 from rfl]; exact nI_add _ _) ?_
    refine r_goto (q := 32) dX6_years_149 (by decide) ?_
    exact ih (kk + 1) _ _ (by rw [hVr]; rfl) (by omega)
theorem years_n {n : Int32} {y : Nat} (hy : y ≤ 60) (h1 : nI 1 ≤ n) (h2 : n ≤ nI 60 - nI y) : ∃ j, y + j ≤ 60 ∧ n = nI j := by
  have e : (nI 60 - nI y).toInt = 60 - (y : Int) := by rw [pk_sub_toInt (by omega) (by omega)]; rfl
  rw [Int32.le_iff_toInt_le, e] at h2
  rw [Int32.le_iff_toInt_le, show (nI 1).toInt = 1 from rfl] at h1
  refine ⟨n.toInt.toNat, by omega, ?_⟩
  apply Int32.toInt_inj.mp
  rw [nI_toInt (by omega)]
  omega
set_option maxRecDepth 100000 in
set_option maxHeartbeats 4000000 in
theorem c_X6_years (σ V : St) (hV : vwM σ = V) (hF : WF V) (n : Int32) : Cl LAY yX6_years cX6_years 4 (some .int) 6 146 [.ref 33, .int n] σ (EI (fun v τ => v = resO (cYears V n) (nI (nv V 33 6 + n.toNatClampNeg)) ∧ vwM τ = stO (cYears V n) (yearsR V n.toNatClampNeg) (rfM V (cYears V n)))) := by
  have hI := hF.1
  have hnw := bd hI 33 19 20 rfl rfl
  have hnb := bd hI 33 7 40 rfl rfl
  refine Cl.of 2 rfl rfl EI.ok ?_
  show Rn LAY none RX6 _ _ _ _ 0 [some (.ref 33), some (.int n), none, none] [] _ _
  refine r_iload_n (q := 1) dX6_years_0 rfl rfl ?_
  refine r_iconst (q := 2) (v := nI 1) dX6_years_1 rfl (by decide) ?_
  refine r_icmp_ge (t := 12) (q := 5) dX6_years_2 (by decide) rfl (fun c2 => ?_) (fun c2 => ?_)
  · refine r_iload_n (q := 13) dX6_years_12 rfl rfl ?_
    refine r_bipush (q := 15) (v := nI 60) dX6_years_13 rfl (by decide) ?_
    refine r_aload_n (q := 16) dX6_years_15 rfl rfl ?_
    refine gvX6_222 (q := 19) hV hI dX6_years_16 rfl ?_
    refine r_isub (q := 20) dX6_years_19 rfl ?_
    refine r_icmp_le (t := 30) (q := 23) dX6_years_20 (by decide) rfl (fun c20 => ?_) (fun c20 => ?_)
    · obtain ⟨n, hn, rfl⟩ := years_n (bd hI 33 6 60 rfl rfl) c2 c20
      have hnc := nI_clamp (n := n) (by omega)
      refine r_iconst (q := 31) (v := nI 0) dX6_years_30 rfl (by decide) ?_
      refine r_istore_n (q := 32) dX6_years_31 rfl (Nat.le_of_ble_eq_true rfl) ?_
      refine (l_X6_years hF hn n 0 _ none hV (by omega)).mono ?_
      rintro r τ ⟨v, rfl, rfl, h⟩
      exact ⟨_, rfl, eo_ok (by rw [cYears, if_neg (Int32.not_lt.mpr c2), if_neg (Int32.not_lt.mpr c20)]) (by rw [hnc]) (by rw [hnc]; exact h)⟩
    · refine r_aload_n (q := 24) dX6_years_23 rfl rfl ?_
      refine r_bipush (q := 26) (v := -6) dX6_years_24 rfl (by decide) ?_
      refine r_cI1 (q := 29) vX6_111 dX6_years_26 rfl LYX6 rfl (Nat.le_of_ble_eq_true rfl) (by decide) (by decide) (c_X6_refuse _ V hV (-6) 6 rfl (by decide)) ?_
      rintro _ τ ⟨rfl, hR⟩
      exact r_retI dX6_years_29 (eo_bad (by rw [cYears, if_neg (Int32.not_lt.mpr c2), if_pos (Int32.not_le.mp c20)]) (by decide) hR)
  · refine r_aload_n (q := 6) dX6_years_5 rfl rfl ?_
    refine r_bipush (q := 8) (v := -4) dX6_years_6 rfl (by decide) ?_
    refine r_cI1 (q := 11) vX6_111 dX6_years_8 rfl LYX6 rfl (Nat.le_of_ble_eq_true rfl) (by decide) (by decide) (c_X6_refuse _ V hV (-4) 4 rfl (by decide)) ?_
    rintro _ τ ⟨rfl, hR⟩
    exact r_retI dX6_years_11 (eo_bad (by rw [cYears, if_pos (Int32.not_le.mp c2)]) (by decide) hR)
theorem sw6 (x : Int32) : x = nI 0 ∨ x = nI 1 ∨ x = nI 2 ∨ x = nI 3 ∨ x = nI 4 ∨ x = nI 5 ∨ (x.toInt < 0 ∨ 5 < x.toInt) := by
  by_cases h : ix x 6 = 0
  · refine Or.inr (Or.inr (Or.inr (Or.inr (Or.inr (Or.inr ?_)))))
    unfold ix at h
    split at h
    · omega
    · omega
  · obtain ⟨j, hj, rfl⟩ := ix_of h
    rcases (show j = 0 ∨ j = 1 ∨ j = 2 ∨ j = 3 ∨ j = 4 ∨ j = 5 by omega) with rfl | rfl | rfl | rfl | rfl | rfl <;> simp
theorem ix6 {x : Int32} (h : x.toInt < 0 ∨ 5 < x.toInt) : ix x 6 = 0 := if_neg (by omega)
def cBO (V : St) (b x : Int32) : Int32 := if ix b (nv V 33 7) = 0 then -1 else if ix x 6 = 0 then -2 else 0
def vBO (V : St) (b : Nat) (x : Int32) : Int32 := if x = nI 0 then nI (nv V 39 b) else if x = nI 1 then nI (nv V 44 b) else if x = nI 2 then nI (nv V 45 b) else if x = nI 3 then (if nv V 39 b = 1 then nI (nv V 46 b) else -9) else if x = nI 4 then nI (there V b) else nI (nv V 49 b)
def cWO (V : St) (w x : Int32) : Int32 := if ix w (nv V 33 19) = 0 then -1 else if ix x 6 = 0 then -2 else 0
def vWO (V : St) (w : Nat) (x : Int32) : Int32 := if x = nI 0 then nI (nv V 50 w) else if x = nI 1 then nI (cls V w) else if x = nI 2 then V 56 w else if x = nI 3 then (if fallI V w = -9 then nI 1 else nI 0) else if x = nI 4 then nI (kept V w) else fallI V w
theorem vWO_0 (V : St) (w : Nat) : vWO V w (nI 0) = nI (nv V 50 w) := by
  unfold vWO
  rw [if_pos rfl]
theorem vWO_1 (V : St) (w : Nat) : vWO V w (nI 1) = nI (cls V w) := by
  unfold vWO
  rw [if_neg (by decide), if_pos rfl]
theorem vWO_2 (V : St) (w : Nat) : vWO V w (nI 2) = V 56 w := by
  unfold vWO
  rw [if_neg (by decide), if_neg (by decide), if_pos rfl]
theorem vWO_3 (V : St) (w : Nat) : vWO V w (nI 3) = if fallI V w = -9 then nI 1 else nI 0 := by
  unfold vWO
  rw [if_neg (by decide), if_neg (by decide), if_neg (by decide), if_pos rfl]
theorem vWO_4 (V : St) (w : Nat) : vWO V w (nI 4) = nI (kept V w) := by
  unfold vWO
  rw [if_neg (by decide), if_neg (by decide), if_neg (by decide), if_neg (by decide), if_pos rfl]
theorem vWO_5 (V : St) (w : Nat) : vWO V w (nI 5) = fallI V w := by
  unfold vWO
  rw [if_neg (by decide), if_neg (by decide), if_neg (by decide), if_neg (by decide), if_neg (by decide)]
theorem vBO_0 (V : St) (w : Nat) : vBO V w (nI 0) = nI (nv V 39 w) := by
  unfold vBO
  rw [if_pos rfl]
theorem vBO_1 (V : St) (w : Nat) : vBO V w (nI 1) = nI (nv V 44 w) := by
  unfold vBO
  rw [if_neg (by decide), if_pos rfl]
theorem vBO_2 (V : St) (w : Nat) : vBO V w (nI 2) = nI (nv V 45 w) := by
  unfold vBO
  rw [if_neg (by decide), if_neg (by decide), if_pos rfl]
theorem vBO_3 (V : St) (w : Nat) : vBO V w (nI 3) = if nv V 39 w = 1 then nI (nv V 46 w) else -9 := by
  unfold vBO
  rw [if_neg (by decide), if_neg (by decide), if_neg (by decide), if_pos rfl]
theorem vBO_4 (V : St) (w : Nat) : vBO V w (nI 4) = nI (there V w) := by
  unfold vBO
  rw [if_neg (by decide), if_neg (by decide), if_neg (by decide), if_neg (by decide), if_pos rfl]
theorem vBO_5 (V : St) (w : Nat) : vBO V w (nI 5) = nI (nv V 49 w) := by
  unfold vBO
  rw [if_neg (by decide), if_neg (by decide), if_neg (by decide), if_neg (by decide), if_neg (by decide)]
set_option maxRecDepth 100000 in
set_option maxHeartbeats 4000000 in
theorem c_X6_blockOf (σ V : St) (hV : vwM σ = V) (hI : InvN V) (b x : Int32) : Cl LAY yX6_blockOf cX6_blockOf 3 (some .int) 2 43 [.ref 33, .int b, .int x] σ (EI (fun v τ => v = resB (cBO V b x) (vBO V b.toNatClampNeg x) ∧ vwM τ = stO (cBO V b x) V (rfM V (cBO V b x)))) := by
  have hnb := bd hI 33 7 40 rfl rfl
  refine Cl.of 0 rfl rfl EI.ok ?_
  show Rn LAY none RX6 _ _ _ _ 0 [some (.ref 33), some (.int b), some (.int x)] [] _ _
  refine r_aload_n (q := 1) dX6_blockOf_0 rfl rfl ?_
  refine r_iload_n (q := 2) dX6_blockOf_1 rfl rfl ?_
  refine r_cI1 (q := 5) vX6_115 dX6_blockOf_2 rfl LYX6 rfl (Nat.le_of_ble_eq_true rfl) (by decide) (by decide) (c_X6_isBlock _ V hV hI _) ?_
  rintro _ _ ⟨rfl, rfl⟩
  refine r_if_neN (t := 14) (q := 8) dX6_blockOf_5 (by decide) rfl (by have := ix_le b (nv V 33 7); omega) (fun c5 => ?_) (fun c5 => ?_)
  · obtain ⟨b, hb, rfl⟩ := ix_of c5
    have hbc := nI_clamp (n := b) (by omega)
    refine r_iload_n (q := 15) dX6_blockOf_14 rfl rfl ?_
    rcases sw6 x with rfl | rfl | rfl | rfl | rfl | rfl | hsw
    · refine r_tableIn (q := 52) dX6_blockOf_15 (by decide) (by decide) rfl (by decide) ?_
      refine r_aload_n (q := 53) dX6_blockOf_52 rfl rfl ?_
      refine gX6_29 (q := 56) dX6_blockOf_53 rfl ?_
      refine r_iload_n (q := 57) dX6_blockOf_56 rfl rfl ?_
      refine r_ialdVM (q := 58) hV hI dX6_blockOf_57 rfl LA39 rfl rfl (by decide) (by omega) ?_
      exact r_retI dX6_blockOf_58 (eb_ok (by rw [cBO, if_neg c5]; exact if_neg (by decide)) (by rw [hbc, vBO_0]) hV)
    · refine r_tableIn (q := 59) dX6_blockOf_15 (by decide) (by decide) rfl (by decide) ?_
      refine r_aload_n (q := 60) dX6_blockOf_59 rfl rfl ?_
      refine gX6_44 (q := 63) dX6_blockOf_60 rfl ?_
      refine r_iload_n (q := 64) dX6_blockOf_63 rfl rfl ?_
      refine r_ialdVM (q := 65) hV hI dX6_blockOf_64 rfl LA44 rfl rfl (by decide) (by omega) ?_
      exact r_retI dX6_blockOf_65 (eb_ok (by rw [cBO, if_neg c5]; exact if_neg (by decide)) (by rw [hbc, vBO_1]) hV)
    · refine r_tableIn (q := 66) dX6_blockOf_15 (by decide) (by decide) rfl (by decide) ?_
      refine r_aload_n (q := 67) dX6_blockOf_66 rfl rfl ?_
      refine gX6_47 (q := 70) dX6_blockOf_67 rfl ?_
      refine r_iload_n (q := 71) dX6_blockOf_70 rfl rfl ?_
      refine r_ialdVM (q := 72) hV hI dX6_blockOf_71 rfl LA45 rfl rfl (by decide) (by omega) ?_
      exact r_retI dX6_blockOf_72 (eb_ok (by rw [cBO, if_neg c5]; exact if_neg (by decide)) (by rw [hbc, vBO_2]) hV)
    · refine r_tableIn (q := 73) dX6_blockOf_15 (by decide) (by decide) rfl (by decide) ?_
      refine r_aload_n (q := 74) dX6_blockOf_73 rfl rfl ?_
      refine gX6_29 (q := 77) dX6_blockOf_74 rfl ?_
      refine r_iload_n (q := 78) dX6_blockOf_77 rfl rfl ?_
      refine r_ialdVM (q := 79) hV hI dX6_blockOf_78 rfl LA39 rfl rfl (by decide) (by omega) ?_
      refine r_iconst (q := 80) (v := nI 1) dX6_blockOf_79 rfl (by decide) ?_
      refine r_icmp_neN (t := 92) (q := 83) dX6_blockOf_80 (by decide) rfl (by have := bd hI 39 b 3 rfl rfl; omega) (by omega) (fun c80 => ?_) (fun c80 => ?_)
      · refine r_bipush (q := 94) (v := -9) dX6_blockOf_92 rfl (by decide) ?_
        exact r_retI dX6_blockOf_94 (eb_ok (by rw [cBO, if_neg c5]; exact if_neg (by decide)) (by rw [hbc, vBO_3]; first | rw [if_pos (by assumption)] | rw [if_neg (by assumption)]) hV)
      · refine r_aload_n (q := 84) dX6_blockOf_83 rfl rfl ?_
        refine gX6_50 (q := 87) dX6_blockOf_84 rfl ?_
        refine r_iload_n (q := 88) dX6_blockOf_87 rfl rfl ?_
        refine r_ialdVM (q := 89) hV hI dX6_blockOf_88 rfl LA46 rfl rfl (by decide) (by omega) ?_
        refine r_goto (q := 94) dX6_blockOf_89 (by decide) ?_
        exact r_retI dX6_blockOf_94 (eb_ok (by rw [cBO, if_neg c5]; exact if_neg (by decide)) (by rw [hbc, vBO_3]; first | rw [if_pos (by assumption)] | rw [if_neg (by assumption)]) hV)
    · refine r_tableIn (q := 95) dX6_blockOf_15 (by decide) (by decide) rfl (by decide) ?_
      refine r_aload_n (q := 96) dX6_blockOf_95 rfl rfl ?_
      refine r_iload_n (q := 97) dX6_blockOf_96 rfl rfl ?_
      refine r_cI1 (q := 100) vX6_173 dX6_blockOf_97 rfl LYX6 rfl (Nat.le_of_ble_eq_true rfl) (by decide) (by decide) (c_X6_isThere _ V hV hI b (by omega)) ?_
      rintro _ _ ⟨rfl, rfl⟩
      refine r_if_eqN (t := 107) (q := 103) dX6_blockOf_100 (by decide) rfl (by have := there_le V b; omega) (fun c100 => ?_) (fun c100 => ?_)
      · refine r_iconst (q := 108) (v := nI 0) dX6_blockOf_107 rfl (by decide) ?_
        exact r_retI dX6_blockOf_108 (eb_ok (by rw [cBO, if_neg c5]; exact if_neg (by decide)) (by have h1 := there_le V b; rw [hbc, vBO_4]; congr 1; omega) hV)
      · refine r_iconst (q := 104) (v := nI 1) dX6_blockOf_103 rfl (by decide) ?_
        refine r_goto (q := 108) dX6_blockOf_104 (by decide) ?_
        exact r_retI dX6_blockOf_108 (eb_ok (by rw [cBO, if_neg c5]; exact if_neg (by decide)) (by have h1 := there_le V b; rw [hbc, vBO_4]; congr 1; omega) hV)
    · refine r_tableIn (q := 109) dX6_blockOf_15 (by decide) (by decide) rfl (by decide) ?_
      refine r_aload_n (q := 110) dX6_blockOf_109 rfl rfl ?_
      refine gX6_60 (q := 113) dX6_blockOf_110 rfl ?_
      refine r_iload_n (q := 114) dX6_blockOf_113 rfl rfl ?_
      refine r_zaldVM (q := 115) hV hI dX6_blockOf_114 rfl LA49 rfl rfl (by decide) (by omega) ?_
      refine r_if_eqN (t := 122) (q := 118) dX6_blockOf_115 (by decide) rfl (by have := bd hI 49 b 1 rfl rfl; omega) (fun c115 => ?_) (fun c115 => ?_)
      · refine r_iconst (q := 123) (v := nI 0) dX6_blockOf_122 rfl (by decide) ?_
        exact r_retI dX6_blockOf_123 (eb_ok (by rw [cBO, if_neg c5]; exact if_neg (by decide)) (by have h1 := bd hI 49 b 1 rfl rfl; rw [hbc, vBO_5]; congr 1; omega) hV)
      · refine r_iconst (q := 119) (v := nI 1) dX6_blockOf_118 rfl (by decide) ?_
        refine r_goto (q := 123) dX6_blockOf_119 (by decide) ?_
        exact r_retI dX6_blockOf_123 (eb_ok (by rw [cBO, if_neg c5]; exact if_neg (by decide)) (by have h1 := bd hI 49 b 1 rfl rfl; rw [hbc, vBO_5]; congr 1; omega) hV)
    · refine r_tableOut (q := 124) dX6_blockOf_15 hsw (by decide) ?_
      refine r_aload_n (q := 125) dX6_blockOf_124 rfl rfl ?_
      refine r_bipush (q := 127) (v := -2) dX6_blockOf_125 rfl (by decide) ?_
      refine r_cI1 (q := 130) vX6_203 dX6_blockOf_127 rfl LYX6 rfl (Nat.le_of_ble_eq_true rfl) (by decide) (by decide) (c_X6_refuseBig _ V hV (-2) 2 rfl (by decide)) ?_
      rintro _ τ ⟨rfl, hR⟩
      exact r_retI dX6_blockOf_130 (eb_bad (by rw [cBO, if_neg c5, if_pos (ix6 hsw)]) (by decide) hR)
  · refine r_aload_n (q := 9) dX6_blockOf_8 rfl rfl ?_
    refine r_iconst (q := 10) (v := -1) dX6_blockOf_9 rfl (by decide) ?_
    refine r_cI1 (q := 13) vX6_203 dX6_blockOf_10 rfl LYX6 rfl (Nat.le_of_ble_eq_true rfl) (by decide) (by decide) (c_X6_refuseBig _ V hV (-1) 1 rfl (by decide)) ?_
    rintro _ τ ⟨rfl, hR⟩
    exact r_retI dX6_blockOf_13 (eb_bad (by rw [cBO, if_pos c5]) (by decide) hR)
set_option maxRecDepth 100000 in
set_option maxHeartbeats 4000000 in
theorem c_X6_windowOf (σ V : St) (hV : vwM σ = V) (hF : WF V) (w x : Int32) : Cl LAY yX6_windowOf cX6_windowOf 3 (some .int) 6 146 [.ref 33, .int w, .int x] σ (EI (fun v τ => v = resB (cWO V w x) (vWO V w.toNatClampNeg x) ∧ vwM τ = stO (cWO V w x) V (rfM V (cWO V w x)))) := by
  have hI := hF.1
  have hnw := bd hI 33 19 20 rfl rfl
  have hnb := bd hI 33 7 40 rfl rfl
  refine Cl.of 0 rfl rfl EI.ok ?_
  show Rn LAY none RX6 _ _ _ _ 0 [some (.ref 33), some (.int w), some (.int x)] [] _ _
  refine r_aload_n (q := 1) dX6_windowOf_0 rfl rfl ?_
  refine r_iload_n (q := 2) dX6_windowOf_1 rfl rfl ?_
  refine r_cI1 (q := 5) vX6_194 dX6_windowOf_2 rfl LYX6 rfl (Nat.le_of_ble_eq_true rfl) (by decide) (by decide) (c_X6_isWindow _ V hV hI _) ?_
  rintro _ _ ⟨rfl, rfl⟩
  refine r_if_neN (t := 14) (q := 8) dX6_windowOf_5 (by decide) rfl (by have := ix_le w (nv V 33 19); omega) (fun c5 => ?_) (fun c5 => ?_)
  · obtain ⟨w, hw, rfl⟩ := ix_of c5
    have hwc := nI_clamp (n := w) (by omega)
    refine r_iload_n (q := 15) dX6_windowOf_14 rfl rfl ?_
    rcases sw6 x with rfl | rfl | rfl | rfl | rfl | rfl | hsw
    · refine r_tableIn (q := 52) dX6_windowOf_15 (by decide) (by decide) rfl (by decide) ?_
      refine r_aload_n (q := 53) dX6_windowOf_52 rfl rfl ?_
      refine gX6_63 (q := 56) dX6_windowOf_53 rfl ?_
      refine r_iload_n (q := 57) dX6_windowOf_56 rfl rfl ?_
      refine r_ialdVM (q := 58) hV hI dX6_windowOf_57 rfl LA50 rfl rfl (by decide) (by omega) ?_
      exact r_retI dX6_windowOf_58 (eb_ok (by rw [cWO, if_neg c5]; exact if_neg (by decide)) (by rw [hwc, vWO_0]) hV)
    · refine r_tableIn (q := 59) dX6_windowOf_15 (by decide) (by decide) rfl (by decide) ?_
      refine r_aload_n (q := 60) dX6_windowOf_59 rfl rfl ?_
      refine r_iload_n (q := 61) dX6_windowOf_60 rfl rfl ?_
      refine r_cI1 (q := 64) vX6_179 dX6_windowOf_61 rfl LYX6 rfl (Nat.le_of_ble_eq_true rfl) (by decide) (by decide) (c_X6_cellsOf _ V hV hI hF.2.1 w (by omega)) ?_
      rintro _ _ ⟨rfl, rfl⟩
      exact r_retI dX6_windowOf_64 (eb_ok (by rw [cWO, if_neg c5]; exact if_neg (by decide)) (by rw [hwc, vWO_1]) hV)
    · refine r_tableIn (q := 65) dX6_windowOf_15 (by decide) (by decide) rfl (by decide) ?_
      refine r_aload_n (q := 66) dX6_windowOf_65 rfl rfl ?_
      refine gX6_81 (q := 69) dX6_windowOf_66 rfl ?_
      refine r_iload_n (q := 70) dX6_windowOf_69 rfl rfl ?_
      refine r_ialdWM (q := 71) hV dX6_windowOf_70 rfl LA56 rfl (by decide) (by omega) ?_
      exact r_retI dX6_windowOf_71 (eb_ok (by rw [cWO, if_neg c5]; exact if_neg (by decide)) (by rw [hwc, vWO_2]) hV)
    · refine r_tableIn (q := 72) dX6_windowOf_15 (by decide) (by decide) rfl (by decide) ?_
      refine r_aload_n (q := 73) dX6_windowOf_72 rfl rfl ?_
      refine r_iload_n (q := 74) dX6_windowOf_73 rfl rfl ?_
      refine r_cI1 (q := 77) vX6_213 dX6_windowOf_74 rfl LYX6 rfl (Nat.le_of_ble_eq_true rfl) (by decide) (by decide) (c_X6_fallsOn _ V hV hF w (by omega) hw) ?_
      rintro _ τ ⟨rfl, hV1⟩
      refine r_bipush (q := 79) (v := -9) dX6_windowOf_77 rfl (by decide) ?_
      refine r_icmp_ne (t := 86) (q := 82) dX6_windowOf_79 (by decide) rfl (fun c79 => ?_) (fun c79 => ?_)
      · refine r_iconst (q := 87) (v := nI 0) dX6_windowOf_86 rfl (by decide) ?_
        exact r_retI dX6_windowOf_87 (eb_ok (by rw [cWO, if_neg c5]; exact if_neg (by decide)) (by rw [hwc, vWO_3]; first | rw [if_pos (by assumption)] | rw [if_neg (by assumption)]) hV1)
      · refine r_iconst (q := 83) (v := nI 1) dX6_windowOf_82 rfl (by decide) ?_
        refine r_goto (q := 87) dX6_windowOf_83 (by decide) ?_
        exact r_retI dX6_windowOf_87 (eb_ok (by rw [cWO, if_neg c5]; exact if_neg (by decide)) (by rw [hwc, vWO_3]; first | rw [if_pos (by assumption)] | rw [if_neg (by assumption)]) hV1)
    · refine r_tableIn (q := 88) dX6_windowOf_15 (by decide) (by decide) rfl (by decide) ?_
      refine r_aload_n (q := 89) dX6_windowOf_88 rfl rfl ?_
      refine r_iload_n (q := 90) dX6_windowOf_89 rfl rfl ?_
      refine r_cI1 (q := 93) vX6_210 dX6_windowOf_90 rfl LYX6 rfl (Nat.le_of_ble_eq_true rfl) (by decide) (by decide) (c_X6_isKept _ V hV hI w (by omega)) ?_
      rintro _ _ ⟨rfl, rfl⟩
      refine r_if_eqN (t := 100) (q := 96) dX6_windowOf_93 (by decide) rfl (by have := kept_le V w; omega) (fun c93 => ?_) (fun c93 => ?_)
      · refine r_iconst (q := 101) (v := nI 0) dX6_windowOf_100 rfl (by decide) ?_
        exact r_retI dX6_windowOf_101 (eb_ok (by rw [cWO, if_neg c5]; exact if_neg (by decide)) (by have h1 := kept_le V w; rw [hwc, vWO_4]; congr 1; omega) hV)
      · refine r_iconst (q := 97) (v := nI 1) dX6_windowOf_96 rfl (by decide) ?_
        refine r_goto (q := 101) dX6_windowOf_97 (by decide) ?_
        exact r_retI dX6_windowOf_101 (eb_ok (by rw [cWO, if_neg c5]; exact if_neg (by decide)) (by have h1 := kept_le V w; rw [hwc, vWO_4]; congr 1; omega) hV)
    · refine r_tableIn (q := 102) dX6_windowOf_15 (by decide) (by decide) rfl (by decide) ?_
      refine r_aload_n (q := 103) dX6_windowOf_102 rfl rfl ?_
      refine r_iload_n (q := 104) dX6_windowOf_103 rfl rfl ?_
      refine r_cI1 (q := 107) vX6_213 dX6_windowOf_104 rfl LYX6 rfl (Nat.le_of_ble_eq_true rfl) (by decide) (by decide) (c_X6_fallsOn _ V hV hF w (by omega) hw) ?_
      rintro _ τ ⟨rfl, hV1⟩
      exact r_retI dX6_windowOf_107 (eb_ok (by rw [cWO, if_neg c5]; exact if_neg (by decide)) (by rw [hwc, vWO_5]) hV1)
    · refine r_tableOut (q := 108) dX6_windowOf_15 hsw (by decide) ?_
      refine r_aload_n (q := 109) dX6_windowOf_108 rfl rfl ?_
      refine r_bipush (q := 111) (v := -2) dX6_windowOf_109 rfl (by decide) ?_
      refine r_cI1 (q := 114) vX6_203 dX6_windowOf_111 rfl LYX6 rfl (Nat.le_of_ble_eq_true rfl) (by decide) (by decide) (c_X6_refuseBig _ V hV (-2) 2 rfl (by decide)) ?_
      rintro _ τ ⟨rfl, hR⟩
      exact r_retI dX6_windowOf_114 (eb_bad (by rw [cWO, if_neg c5, if_pos (ix6 hsw)]) (by decide) hR)
  · refine r_aload_n (q := 9) dX6_windowOf_8 rfl rfl ?_
    refine r_iconst (q := 10) (v := -1) dX6_windowOf_9 rfl (by decide) ?_
    refine r_cI1 (q := 13) vX6_203 dX6_windowOf_10 rfl LYX6 rfl (Nat.le_of_ble_eq_true rfl) (by decide) (by decide) (c_X6_refuseBig _ V hV (-1) 1 rfl (by decide)) ?_
    rintro _ τ ⟨rfl, hR⟩
    exact r_retI dX6_windowOf_13 (eb_bad (by rw [cWO, if_pos c5]) (by decide) hR)
def mnS (V : St) : Nat → Nat
  | 0 => 0
  | d + 1 => mnS V d + nv V 34 d
def lwS (V : St) : Nat → Nat
  | 0 => 0
  | w + 1 => lwS V w + (if fallI V w = -9 then 1 else 0)
def kpS (V : St) : Nat → Nat
  | 0 => 0
  | w + 1 => kpS V w + kept V w
def vCn (V : St) (x : Int32) : Int32 := if x = nI 0 then nI (nv V 33 6) else if x = nI 1 then nI (nv V 33 7) else if x = nI 2 then nI (nv V 33 19) else if x = nI 3 then nI (mnS V 8) else if x = nI 4 then nI (lwS V (nv V 33 19)) else if x = nI 5 then nI (kpS V (nv V 33 19)) else if inN x (nI 11) (nI 16) = 0 then -9 else V 58 (x - nI 10).toNatClampNeg
theorem vCn_0 (V : St) : vCn V (nI 0) = nI (nv V 33 6) := by
  unfold vCn
  rw [if_pos rfl]
theorem vCn_1 (V : St) : vCn V (nI 1) = nI (nv V 33 7) := by
  unfold vCn
  rw [if_neg (by decide), if_pos rfl]
theorem vCn_2 (V : St) : vCn V (nI 2) = nI (nv V 33 19) := by
  unfold vCn
  rw [if_neg (by decide), if_neg (by decide), if_pos rfl]
theorem vCn_3 (V : St) : vCn V (nI 3) = nI (mnS V 8) := by
  unfold vCn
  rw [if_neg (by decide), if_neg (by decide), if_neg (by decide), if_pos rfl]
theorem vCn_4 (V : St) : vCn V (nI 4) = nI (lwS V (nv V 33 19)) := by
  unfold vCn
  rw [if_neg (by decide), if_neg (by decide), if_neg (by decide), if_neg (by decide), if_pos rfl]
theorem vCn_5 (V : St) : vCn V (nI 5) = nI (kpS V (nv V 33 19)) := by
  unfold vCn
  rw [if_neg (by decide), if_neg (by decide), if_neg (by decide), if_neg (by decide), if_neg (by decide), if_pos rfl]
set_option maxRecDepth 100000 in
set_option maxHeartbeats 4000000 in
theorem l_X6_count3 {V : St} (hI : InvN V) {x1 : Option Value} {σ : St} (hV : vwM σ = V) : ∀ (n d : Nat), d + n = 8 → Rn LAY none RX6 cX6_count 4 6 146 57 [some (.ref 33), x1, some (.int (nI (mnS V d))), some (.int (nI d))] [] σ (EI (fun v τ => v = nI (mnS V 8) ∧ vwM τ = V)) := by
  intro n
  induction n with
  | zero =>
    intro d hb
    refine r_iload_n (q := 58) dX6_count_57 rfl rfl ?_
    refine r_bipush (q := 60) (v := nI 8) dX6_count_58 rfl (by decide) ?_
    refine r_icmp_geN (t := 78) (q := 63) dX6_count_60 (by decide) rfl (by omega) (by omega) (fun c60 => ?_) (fun c60 => absurd (by omega) c60)
    refine r_iload_n (q := 79) dX6_count_78 rfl rfl ?_
    exact r_retI dX6_count_79 ⟨by rw [show d = 8 by omega], hV⟩
  | succ n ih =>
    intro d hb
    refine r_iload_n (q := 58) dX6_count_57 rfl rfl ?_
    refine r_bipush (q := 60) (v := nI 8) dX6_count_58 rfl (by decide) ?_
    refine r_icmp_geN (t := 78) (q := 63) dX6_count_60 (by decide) rfl (by omega) (by omega) (fun c60 => absurd c60 (by omega)) (fun c60 => ?_)
    refine r_iload_n (q := 64) dX6_count_63 rfl rfl ?_
    refine r_aload_n (q := 65) dX6_count_64 rfl rfl ?_
    refine gX6_7 (q := 68) dX6_count_65 rfl ?_
    refine r_iload_n (q := 69) dX6_count_68 rfl rfl ?_
    refine r_ialdVM (q := 70) hV hI dX6_count_69 rfl LA34 rfl rfl (by decide) (by omega) ?_
    refine r_iaddN (q := 71) dX6_count_70 rfl ?_
    refine r_istore_n (q := 72) dX6_count_71 rfl (Nat.le_of_ble_eq_true rfl) ?_
    refine r_iinc (q := 75) (v := nI (d + 1)) dX6_count_72 rfl rfl (by rw [show Int32.ofInt 1 = nI 1 from rfl]; exact nI_add _ _) ?_
    refine r_goto (q := 57) dX6_count_75 (by decide) ?_
    exact ih (d + 1) (by omega)
set_option maxRecDepth 100000 in
set_option maxHeartbeats 4000000 in
theorem l_X6_count4 {V : St} (hF : WF V) : ∀ (n w : Nat) (σ : St), vwM σ = V → w + n = nv V 33 19 → Rn LAY none RX6 cX6_count 4 6 146 82 [some (.ref 33), some (.int (nI 4)), some (.int (nI (lwS V w))), some (.int (nI w))] [] σ (EI (fun v τ => v = nI (lwS V (nv V 33 19)) ∧ vwM τ = V)) := by
  have hI := hF.1
  have hnw := bd hI 33 19 20 rfl rfl
  intro n
  induction n with
  | zero =>
    intro w σ hV hb
    refine r_iload_n (q := 83) dX6_count_82 rfl rfl ?_
    refine r_aload_n (q := 84) dX6_count_83 rfl rfl ?_
    refine gvX6_104 (q := 87) hV hI dX6_count_84 rfl ?_
    refine r_icmp_geN (t := 130) (q := 90) dX6_count_87 (by decide) rfl (by omega) (by have := bd hI 33 19 20 rfl rfl; omega) (fun c87 => ?_) (fun c87 => absurd (by omega) c87)
    refine r_iload_n (q := 131) dX6_count_130 rfl rfl ?_
    exact r_retI dX6_count_131 ⟨by rw [show w = nv V 33 19 by omega], hV⟩
  | succ n ih =>
    intro w σ hV hb
    refine r_iload_n (q := 83) dX6_count_82 rfl rfl ?_
    refine r_aload_n (q := 84) dX6_count_83 rfl rfl ?_
    refine gvX6_104 (q := 87) hV hI dX6_count_84 rfl ?_
    refine r_icmp_geN (t := 130) (q := 90) dX6_count_87 (by decide) rfl (by omega) (by have := bd hI 33 19 20 rfl rfl; omega) (fun c87 => absurd c87 (by omega)) (fun c87 => ?_)
    refine r_iload_n (q := 91) dX6_count_90 rfl rfl ?_
    refine r_iload_n (q := 92) dX6_count_91 rfl rfl ?_
    refine r_iconst (q := 93) (v := nI 4) dX6_count_92 rfl (by decide) ?_
    refine r_icmp_neN (t := 109) (q := 96) dX6_count_93 (by decide) rfl (by omega) (by omega) (fun c93 => absurd rfl c93) (fun c93 => ?_)
    refine r_aload_n (q := 97) dX6_count_96 rfl rfl ?_
    refine r_iload_n (q := 98) dX6_count_97 rfl rfl ?_
    refine r_cI1 (q := 101) vX6_213 dX6_count_98 rfl LYX6 rfl (Nat.le_of_ble_eq_true rfl) (by decide) (by decide) (c_X6_fallsOn _ V hV hF w (by omega) (by omega)) ?_
    rintro _ τ ⟨rfl, hV1⟩
    refine r_bipush (q := 103) (v := -9) dX6_count_101 rfl (by decide) ?_
    refine r_icmp_ne (t := 121) (q := 106) dX6_count_103 (by decide) rfl (fun c103 => ?_) (fun c103 => ?_)
    · refine r_iconst (q := 122) (v := nI 0) dX6_count_121 rfl (by decide) ?_
      refine r_iaddN (q := 123) dX6_count_122 rfl ?_
      refine r_istore_n (q := 124) dX6_count_123 rfl (Nat.le_of_ble_eq_true rfl) ?_
      refine r_iinc (q := 127) (v := nI (w + 1)) dX6_count_124 rfl rfl (by rw [show Int32.ofInt 1 = nI 1 from rfl]; exact nI_add _ _) ?_
      refine r_goto (q := 82) dX6_count_127 (by decide) ?_
      have e : lwS V (w + 1) = (lwS V w + 0) := by rw [lwS, if_neg c103]
      rw [← e]
      exact ih (w + 1) _ hV1 (by omega)
    · refine r_goto (q := 117) dX6_count_106 (by decide) ?_
      refine r_iconst (q := 118) (v := nI 1) dX6_count_117 rfl (by decide) ?_
      refine r_goto (q := 122) dX6_count_118 (by decide) ?_
      refine r_iaddN (q := 123) dX6_count_122 rfl ?_
      refine r_istore_n (q := 124) dX6_count_123 rfl (Nat.le_of_ble_eq_true rfl) ?_
      refine r_iinc (q := 127) (v := nI (w + 1)) dX6_count_124 rfl rfl (by rw [show Int32.ofInt 1 = nI 1 from rfl]; exact nI_add _ _) ?_
      refine r_goto (q := 82) dX6_count_127 (by decide) ?_
      have e : lwS V (w + 1) = (lwS V w + 1) := by rw [lwS, if_pos c103]
      rw [← e]
      exact ih (w + 1) _ hV1 (by omega)
set_option maxRecDepth 100000 in
set_option maxHeartbeats 4000000 in
theorem l_X6_count5 {V : St} (hF : WF V) : ∀ (n w : Nat) (σ : St), vwM σ = V → w + n = nv V 33 19 → Rn LAY none RX6 cX6_count 4 6 146 82 [some (.ref 33), some (.int (nI 5)), some (.int (nI (kpS V w))), some (.int (nI w))] [] σ (EI (fun v τ => v = nI (kpS V (nv V 33 19)) ∧ vwM τ = V)) := by
  have hI := hF.1
  have hnw := bd hI 33 19 20 rfl rfl
  intro n
  induction n with
  | zero =>
    intro w σ hV hb
    refine r_iload_n (q := 83) dX6_count_82 rfl rfl ?_
    refine r_aload_n (q := 84) dX6_count_83 rfl rfl ?_
    refine gvX6_104 (q := 87) hV hI dX6_count_84 rfl ?_
    refine r_icmp_geN (t := 130) (q := 90) dX6_count_87 (by decide) rfl (by omega) (by have := bd hI 33 19 20 rfl rfl; omega) (fun c87 => ?_) (fun c87 => absurd (by omega) c87)
    refine r_iload_n (q := 131) dX6_count_130 rfl rfl ?_
    exact r_retI dX6_count_131 ⟨by rw [show w = nv V 33 19 by omega], hV⟩
  | succ n ih =>
    intro w σ hV hb
    refine r_iload_n (q := 83) dX6_count_82 rfl rfl ?_
    refine r_aload_n (q := 84) dX6_count_83 rfl rfl ?_
    refine gvX6_104 (q := 87) hV hI dX6_count_84 rfl ?_
    refine r_icmp_geN (t := 130) (q := 90) dX6_count_87 (by decide) rfl (by omega) (by have := bd hI 33 19 20 rfl rfl; omega) (fun c87 => absurd c87 (by omega)) (fun c87 => ?_)
    refine r_iload_n (q := 91) dX6_count_90 rfl rfl ?_
    refine r_iload_n (q := 92) dX6_count_91 rfl rfl ?_
    refine r_iconst (q := 93) (v := nI 4) dX6_count_92 rfl (by decide) ?_
    refine r_icmp_neN (t := 109) (q := 96) dX6_count_93 (by decide) rfl (by omega) (by omega) (fun c93 => ?_) (fun c93 => absurd c93 (by decide))
    refine r_aload_n (q := 110) dX6_count_109 rfl rfl ?_
    refine r_iload_n (q := 111) dX6_count_110 rfl rfl ?_
    refine r_cI1 (q := 114) vX6_210 dX6_count_111 rfl LYX6 rfl (Nat.le_of_ble_eq_true rfl) (by decide) (by decide) (c_X6_isKept _ V hV hI w (by omega)) ?_
    rintro _ _ ⟨rfl, rfl⟩
    refine r_if_eqN (t := 121) (q := 117) dX6_count_114 (by decide) rfl (by have := kept_le V w; omega) (fun c114 => ?_) (fun c114 => ?_)
    · refine r_iconst (q := 122) (v := nI 0) dX6_count_121 rfl (by decide) ?_
      refine r_iaddN (q := 123) dX6_count_122 rfl ?_
      refine r_istore_n (q := 124) dX6_count_123 rfl (Nat.le_of_ble_eq_true rfl) ?_
      refine r_iinc (q := 127) (v := nI (w + 1)) dX6_count_124 rfl rfl (by rw [show Int32.ofInt 1 = nI 1 from rfl]; exact nI_add _ _) ?_
      refine r_goto (q := 82) dX6_count_127 (by decide) ?_
      have e : kpS V (w + 1) = (kpS V w + 0) := by have h1 := kept_le V w; rw [kpS]; omega
      rw [← e]
      exact ih (w + 1) _ hV (by omega)
    · refine r_iconst (q := 118) (v := nI 1) dX6_count_117 rfl (by decide) ?_
      refine r_goto (q := 122) dX6_count_118 (by decide) ?_
      refine r_iaddN (q := 123) dX6_count_122 rfl ?_
      refine r_istore_n (q := 124) dX6_count_123 rfl (Nat.le_of_ble_eq_true rfl) ?_
      refine r_iinc (q := 127) (v := nI (w + 1)) dX6_count_124 rfl rfl (by rw [show Int32.ofInt 1 = nI 1 from rfl]; exact nI_add _ _) ?_
      refine r_goto (q := 82) dX6_count_127 (by decide) ?_
      have e : kpS V (w + 1) = (kpS V w + 1) := by have h1 := kept_le V w; rw [kpS]; omega
      rw [← e]
      exact ih (w + 1) _ hV (by omega)
theorem in_10 {x : Int32} (h : ¬ inN x (nI 11) (nI 16) = 0) : ∃ j, j < 7 ∧ x - nI 10 = nI j := by
  unfold inN at h
  split at h
  · omega
  · split at h
    · omega
    · rename_i h1 h2
      rw [Int32.lt_iff_toInt_lt, show (nI 11).toInt = 11 from rfl] at h1
      rw [Int32.lt_iff_toInt_lt, show (nI 16).toInt = 16 from rfl] at h2
      have e := t_sub (x := x) (y := nI 10) rfl (show (nI 10).toInt = 10 from rfl) (by omega) (by omega)
      refine ⟨(x.toInt - 10).toNat, by omega, ?_⟩
      apply Int32.toInt_inj.mp
      rw [e, nI_toInt (by omega)]
      omega
theorem ne_out {x : Int32} (h : x.toInt < 0 ∨ 5 < x.toInt) : ¬ x = nI 0 ∧ ¬ x = nI 1 ∧ ¬ x = nI 2 ∧ ¬ x = nI 3 ∧ ¬ x = nI 4 ∧ ¬ x = nI 5 := by
  refine ⟨?_, ?_, ?_, ?_, ?_, ?_⟩ <;> (rintro rfl; revert h; decide)
theorem vCn_out {V : St} {x : Int32} (h : x.toInt < 0 ∨ 5 < x.toInt) : vCn V x = if inN x (nI 11) (nI 16) = 0 then -9 else V 58 (x - nI 10).toNatClampNeg := by
  obtain ⟨h0, h1, h2, h3, h4, h5⟩ := ne_out h
  unfold vCn
  rw [if_neg h0, if_neg h1, if_neg h2, if_neg h3, if_neg h4, if_neg h5]
set_option maxRecDepth 100000 in
set_option maxHeartbeats 4000000 in
theorem c_X6_count (σ V : St) (hV : vwM σ = V) (hF : WF V) (x : Int32) : Cl LAY yX6_count cX6_count 4 (some .int) 6 146 [.ref 33, .int x] σ (EI (fun v τ => v = vCn V x ∧ vwM τ = V)) := by
  have hI := hF.1
  have hnw := bd hI 33 19 20 rfl rfl
  have hnb := bd hI 33 7 40 rfl rfl
  refine Cl.of 2 rfl rfl EI.ok ?_
  show Rn LAY none RX6 _ _ _ _ 0 [some (.ref 33), some (.int x), none, none] [] _ _
  refine r_iconst (q := 1) (v := nI 0) dX6_count_0 rfl (by decide) ?_
  refine r_istore_n (q := 2) dX6_count_1 rfl (Nat.le_of_ble_eq_true rfl) ?_
  refine r_iload_n (q := 3) dX6_count_2 rfl rfl ?_
  rcases sw6 x with rfl | rfl | rfl | rfl | rfl | rfl | hsw
  · refine r_tableIn (q := 40) dX6_count_3 (by decide) (by decide) rfl (by decide) ?_
    refine r_aload_n (q := 41) dX6_count_40 rfl rfl ?_
    refine gvX6_222 (q := 44) hV hI dX6_count_41 rfl ?_
    exact r_retI dX6_count_44 ⟨(vCn_0 V).symm, hV⟩
  · refine r_tableIn (q := 45) dX6_count_3 (by decide) (by decide) rfl (by decide) ?_
    refine r_aload_n (q := 46) dX6_count_45 rfl rfl ?_
    refine gvX6_97 (q := 49) hV hI dX6_count_46 rfl ?_
    exact r_retI dX6_count_49 ⟨(vCn_1 V).symm, hV⟩
  · refine r_tableIn (q := 50) dX6_count_3 (by decide) (by decide) rfl (by decide) ?_
    refine r_aload_n (q := 51) dX6_count_50 rfl rfl ?_
    refine gvX6_104 (q := 54) hV hI dX6_count_51 rfl ?_
    exact r_retI dX6_count_54 ⟨(vCn_2 V).symm, hV⟩
  · refine r_tableIn (q := 55) dX6_count_3 (by decide) (by decide) rfl (by decide) ?_
    refine r_iconst (q := 56) (v := nI 0) dX6_count_55 rfl (by decide) ?_
    refine r_istore_n (q := 57) dX6_count_56 rfl (Nat.le_of_ble_eq_true rfl) ?_
    refine (l_X6_count3 hI hV 8 0 (by omega)).mono ?_
    rintro r τ ⟨v, rfl, rfl, h⟩
    exact ⟨_, rfl, (vCn_3 V).symm, h⟩
  · refine r_tableIn (q := 80) dX6_count_3 (by decide) (by decide) rfl (by decide) ?_
    refine r_iconst (q := 81) (v := nI 0) dX6_count_80 rfl (by decide) ?_
    refine r_istore_n (q := 82) dX6_count_81 rfl (Nat.le_of_ble_eq_true rfl) ?_
    first | (refine (l_X6_count4 hF (nv V 33 19) 0 _ hV (by omega)).mono ?_; rintro r τ ⟨v, rfl, rfl, h⟩; exact ⟨_, rfl, (vCn_4 V).symm, h⟩) | (refine (l_X6_count5 hF (nv V 33 19) 0 _ hV (by omega)).mono ?_; rintro r τ ⟨v, rfl, rfl, h⟩; exact ⟨_, rfl, (vCn_5 V).symm, h⟩)
  · refine r_tableIn (q := 80) dX6_count_3 (by decide) (by decide) rfl (by decide) ?_
    refine r_iconst (q := 81) (v := nI 0) dX6_count_80 rfl (by decide) ?_
    refine r_istore_n (q := 82) dX6_count_81 rfl (Nat.le_of_ble_eq_true rfl) ?_
    first | (refine (l_X6_count4 hF (nv V 33 19) 0 _ hV (by omega)).mono ?_; rintro r τ ⟨v, rfl, rfl, h⟩; exact ⟨_, rfl, (vCn_4 V).symm, h⟩) | (refine (l_X6_count5 hF (nv V 33 19) 0 _ hV (by omega)).mono ?_; rintro r τ ⟨v, rfl, rfl, h⟩; exact ⟨_, rfl, (vCn_5 V).symm, h⟩)
  · refine r_tableOut (q := 132) dX6_count_3 hsw (by decide) ?_
    refine r_iload_n (q := 133) dX6_count_132 rfl rfl ?_
    refine r_bipush (q := 135) (v := nI 11) dX6_count_133 rfl (by decide) ?_
    refine r_bipush (q := 137) (v := nI 16) dX6_count_135 rfl (by decide) ?_
    refine r_sI3 (q := 140) vX6_100 dX6_count_137 rfl (Nat.le_of_ble_eq_true rfl) (by decide) (by decide) (c_X6_in _ _ _ _) ?_
    rintro _ _ ⟨rfl, rfl⟩
    refine r_if_eqN (t := 155) (q := 143) dX6_count_140 (by decide) rfl (by have := inN_le x (nI 11) (nI 16); omega) (fun c140 => ?_) (fun c140 => ?_)
    · refine r_bipush (q := 157) (v := -9) dX6_count_155 rfl (by decide) ?_
      exact r_retI dX6_count_157 ⟨by rw [vCn_out hsw, if_pos c140], hV⟩
    · obtain ⟨j, hj, ej⟩ := in_10 c140
      refine r_aload_n (q := 144) dX6_count_143 rfl rfl ?_
      refine gX6_87 (q := 147) dX6_count_144 rfl ?_
      refine r_iload_n (q := 148) dX6_count_147 rfl rfl ?_
      refine r_bipush (q := 150) (v := nI 10) dX6_count_148 rfl (by decide) ?_
      refine r_isub (q := 151) dX6_count_150 rfl ?_
      refine r_as ej ?_
      refine r_ialdWM (q := 152) hV dX6_count_151 rfl LA58 rfl (by decide) (by omega) ?_
      refine r_goto (q := 157) dX6_count_152 (by decide) ?_
      exact r_retI dX6_count_157 ⟨by rw [vCn_out hsw, if_neg c140, ej, nI_clamp (by omega)], hV⟩
