/-! ===== ends of the class's public methods ===== -/
def fin (V' τ : St) : Prop := vw τ = V' ∧ J V' τ
theorem mskL_c {V V' : St} {w : Nat} (ho : GEo V V') (hw : GEw V V' w) (d : Nat) : mskL V' w d = mskL V w d := by
  unfold mskL nv
  rw [show litN V' w d = litN V w d from funext fun m => litN_c ho hw d m, ho.2.2.2.2.1]
theorem J_c {V V' σ : St} (h : J V σ) (ho : GEo V V') (hw : ∀ w, w < nv V 33 19 → GEw V V' w) (hn : nv V 33 19 ≤ nv V' 33 19) : J V' σ := by
  intro w d h1 h2
  rcases h w d h1 h2 with e | ⟨e1, e2⟩
  · exact Or.inl e
  · exact Or.inr ⟨by omega, by rw [e2, mskL_c ho (hw w e1)]⟩
theorem J_all {V σ : St} (h : ∀ i, i < 160 → σ 32 i = -1) : J V σ := fun w d h1 h2 => Or.inl (h _ (by omega))
theorem rfB_at (V : St) (c : Int32) (k i : Nat) (h1 : ¬ k = 31) (h2 : ¬ k = 58) : rfB V c k i = V k i := by
  unfold rfB rfM rfC
  rw [wr_at, if_neg (by omega), wr_at, if_neg (by omega)]
theorem rfB_row (V : St) (c : Int32) (k : Nat) (h1 : ¬ k = 31) (h2 : ¬ k = 58) : rfB V c k = V k := funext fun i => rfB_at V c k i h1 h2
theorem rfB_J {V σ : St} {c : Int32} (h : J V σ) : J (rfB V c) σ := by
  refine J_c h ?_ (fun w hw => ?_) ?_
  · unfold GEo
    refine ⟨?_, ?_, ?_, ?_, ?_, ?_, ?_, ?_, ?_, ?_, ?_, ?_, ?_, ?_, ?_, ?_, ?_, ?_⟩ <;> first | exact rfB_at V c _ _ (by decide) (by decide) | exact rfB_row V c _ (by decide) (by decide)
  · unfold GEw
    refine ⟨?_, ?_, ?_, ?_, ?_, ?_⟩ <;> exact rfB_at V c _ _ (by decide) (by decide)
  · unfold nv
    rw [rfB_at V c 33 19 (by decide) (by decide)]
    exact Nat.le_refl _
theorem fo_bad {c k val : Int32} {V V' τ : St} (hc : c = k) (hk : k ≠ 0) (h : vw τ = rfB V k) (hJ : J V τ) : k = resO c val ∧ fin (stO c V' (rfB V c)) τ := by
  subst hc
  refine ⟨(if_neg hk).symm, ?_⟩
  rw [stO, if_neg hk]
  exact ⟨h, rfB_J hJ⟩
theorem fb_bad {c k val : Int32} {V V' τ : St} (hc : c = k) (hk : k ≠ 0) (h : vw τ = rfB V k) (hJ : J V τ) : 1000000 - k = resB c val ∧ fin (stO c V' (rfB V c)) τ := by
  subst hc
  refine ⟨(if_neg hk).symm, ?_⟩
  rw [stO, if_neg hk]
  exact ⟨h, rfB_J hJ⟩
theorem fo_ok {c v val : Int32} {V' R τ : St} (hc : c = 0) (hv : v = val) (h : vw τ = V') (hJ : J V' τ) : v = resO c val ∧ fin (stO c V' R) τ := by
  refine ⟨hv.trans (if_pos hc).symm, ?_⟩
  rw [stO, if_pos hc]
  exact ⟨h, hJ⟩
theorem fb_ok {c v val : Int32} {V' R τ : St} (hc : c = 0) (hv : v = val) (h : vw τ = V') (hJ : J V' τ) : v = resB c val ∧ fin (stO c V' R) τ := by
  refine ⟨hv.trans (if_pos hc).symm, ?_⟩
  rw [stO, if_pos hc]
  exact ⟨h, hJ⟩
/-! the first BREACH, as the class counts it -/
def brC (V U : St) : Nat → Nat → Int32
  | _, 0 => -9
  | w, n + 1 => if kept V w = 0 then brC V U (w + 1) n else if fallI V w = -9 then (if fallI U w = -9 then brC V U (w + 1) n else nI (8 * w) + fallI U w) else brC V U (w + 1) n
set_option maxRecDepth 100000 in
set_option maxHeartbeats 4000000 in
theorem l_X5_firstBreach {V U : St} (hG : GOOD V) {p : Int32} {t : Nat} (hPL : PL V p t U) : ∀ (n w : Nat) (σ : St) (z4 : Option Value), w + n = nv V 33 19 → vw σ = V → J V σ → Rn LAYC none RX5 cX5_firstBreach 5 5 144 2 [some (.ref 0), some (.int p), some (.int (nI t)), some (.int (nI w)), z4] [] σ (EI (fun v τ => v = brC V U w n ∧ vw τ = V ∧ J V τ)) := by
  have hI := hG.1.1
  have hR := hG.2
  have hnw := bd hI 33 19 20 rfl rfl
  have hrel := hR.nw
  intro n
  induction n with
  | zero =>
    intro w σ z4 hb hV hJ
    refine r_iload_n (q := 3) dX5_firstBreach_2 rfl rfl ?_
    refine r_aload_n (q := 4) dX5_firstBreach_3 rfl rfl ?_
    refine gX5_26 (q := 7) dX5_firstBreach_4 rfl ?_
    refine gvX5_208 (q := 10) hV hI dX5_firstBreach_7 rfl ?_
    refine r_icmp_geN (t := 64) (q := 13) dX5_firstBreach_10 (by decide) rfl (by omega) (by omega) (fun c10 => ?_) (fun c10 => absurd (by omega) c10)
    refine r_bipush (q := 66) (v := -9) dX5_firstBreach_64 rfl (by decide) ?_
    exact r_retI dX5_firstBreach_66 ⟨rfl, hV, hJ⟩
  | succ n ih =>
    intro w σ z4 hb hV hJ
    refine r_iload_n (q := 3) dX5_firstBreach_2 rfl rfl ?_
    refine r_aload_n (q := 4) dX5_firstBreach_3 rfl rfl ?_
    refine gX5_26 (q := 7) dX5_firstBreach_4 rfl ?_
    refine gvX5_208 (q := 10) hV hI dX5_firstBreach_7 rfl ?_
    refine r_icmp_geN (t := 64) (q := 13) dX5_firstBreach_10 (by decide) rfl (by omega) (by omega) (fun c10 => absurd c10 (by omega)) (fun c10 => ?_)
    refine r_aload_n (q := 14) dX5_firstBreach_13 rfl rfl ?_
    refine gX5_26 (q := 17) dX5_firstBreach_14 rfl ?_
    refine r_iload_n (q := 18) dX5_firstBreach_17 rfl rfl ?_
    refine r_cI1 (q := 21) vX5_202 dX5_firstBreach_18 rfl LYX4 rfl (Nat.le_of_ble_eq_true rfl) (by decide) (by decide) (c_X4_isKept _ V hV hG w (by omega)) ?_
    rintro _ τ0 ⟨rfl, hτ0⟩
    rw [hτ0]
    clear hτ0
    refine r_if_eqN (t := 58) (q := 24) dX5_firstBreach_21 (by decide) rfl (by have := kept_le V w; omega) (fun c21 => ?_) (fun c21 => ?_)
    · refine r_iinc (q := 61) (v := nI (w + 1)) dX5_firstBreach_58 rfl rfl (by rw [show Int32.ofInt 1 = nI 1 from rfl]; exact nI_add _ _) ?_
      refine r_goto (q := 2) dX5_firstBreach_61 (by decide) ?_
      refine (ih (w + 1) _ _ (by omega) hV hJ).mono ?_
      rintro r τ ⟨v, rfl, rfl, h⟩
      exact ⟨_, rfl, by rw [brC, if_pos c21], h⟩
    · refine r_aload_n (q := 25) dX5_firstBreach_24 rfl rfl ?_
      refine r_iload_n (q := 26) dX5_firstBreach_25 rfl rfl ?_
      refine r_cI1 (q := 29) vX5_199 dX5_firstBreach_26 rfl LYX5 rfl (Nat.le_of_ble_eq_true rfl) (by decide) (by decide) (c_X5_firstFall _ V hV hG hJ w (by omega) (by omega)) ?_
      rintro _ s26 ⟨rfl, hV26, hJ26⟩
      refine r_bipush (q := 31) (v := -9) dX5_firstBreach_29 rfl (by decide) ?_
      refine r_icmp_ne (t := 58) (q := 34) dX5_firstBreach_31 (by decide) rfl (fun c31 => ?_) (fun c31 => ?_)
      · refine r_iinc (q := 61) (v := nI (w + 1)) dX5_firstBreach_58 rfl rfl (by rw [show Int32.ofInt 1 = nI 1 from rfl]; exact nI_add _ _) ?_
        refine r_goto (q := 2) dX5_firstBreach_61 (by decide) ?_
        refine (ih (w + 1) _ _ (by omega) hV26 hJ26).mono ?_
        rintro r τ ⟨v, rfl, rfl, h⟩
        exact ⟨_, rfl, by rw [brC, if_neg c21, if_neg c31], h⟩
      · refine r_aload_n (q := 35) dX5_firstBreach_34 rfl rfl ?_
        refine r_iload_n (q := 36) dX5_firstBreach_35 rfl rfl ?_
        refine r_iload_n (q := 37) dX5_firstBreach_36 rfl rfl ?_
        refine r_iload_n (q := 38) dX5_firstBreach_37 rfl rfl ?_
        refine r_cI3 (q := 41) vX5_235 dX5_firstBreach_38 rfl LYX5 rfl (Nat.le_of_ble_eq_true rfl) (by decide) (by decide) (c_X5_firstFallWith _ V hV26 hG hJ26 U p t w hPL (by omega) (by omega)) ?_
        rintro _ s38 ⟨rfl, hV38, hJ38⟩
        refine r_istore (q := 43) dX5_firstBreach_41 rfl (Nat.le_of_ble_eq_true rfl) ?_
        refine r_iload (q := 45) dX5_firstBreach_43 rfl rfl ?_
        refine r_bipush (q := 47) (v := -9) dX5_firstBreach_45 rfl (by decide) ?_
        refine r_icmp_eq (t := 58) (q := 50) dX5_firstBreach_47 (by decide) rfl (fun c47 => ?_) (fun c47 => ?_)
        · refine r_iinc (q := 61) (v := nI (w + 1)) dX5_firstBreach_58 rfl rfl (by rw [show Int32.ofInt 1 = nI 1 from rfl]; exact nI_add _ _) ?_
          refine r_goto (q := 2) dX5_firstBreach_61 (by decide) ?_
          refine (ih (w + 1) _ _ (by omega) hV38 hJ38).mono ?_
          rintro r τ ⟨v, rfl, rfl, h⟩
          exact ⟨_, rfl, by rw [brC, if_neg c21, if_pos c31, if_pos c47], h⟩
        · refine r_bipush (q := 52) (v := nI 8) dX5_firstBreach_50 rfl (by decide) ?_
          refine r_iload_n (q := 53) dX5_firstBreach_52 rfl rfl ?_
          refine r_imulN (q := 54) dX5_firstBreach_53 rfl ?_
          refine r_iload (q := 56) dX5_firstBreach_54 rfl rfl ?_
          refine r_iadd (q := 57) dX5_firstBreach_56 rfl ?_
          exact r_retI dX5_firstBreach_57 ⟨by rw [brC, if_neg c21, if_pos c31, if_neg c47], hV38, hJ38⟩
set_option maxRecDepth 100000 in
set_option maxHeartbeats 4000000 in
theorem c_X5_firstBreach (σ V : St) (hV : vw σ = V) (hG : GOOD V) (hJ : J V σ) (U : St) (p : Int32) (t : Nat) (hPL : PL V p t U) : Cl LAYC yX5_firstBreach cX5_firstBreach 5 (some .int) 5 144 [.ref 0, .int p, .int (nI t)] σ (EI (fun v τ => v = brC V U 0 (nv V 33 19) ∧ vw τ = V ∧ J V τ)) := by
  refine Cl.of 2 rfl rfl EI.ok ?_
  show Rn LAYC none RX5 _ _ _ _ 0 [some (.ref 0), some (.int p), some (.int (nI t)), none, none] [] _ _
  refine r_iconst (q := 1) (v := nI 0) dX5_firstBreach_0 rfl (by decide) ?_
  refine r_istore_n (q := 2) dX5_firstBreach_1 rfl (Nat.le_of_ble_eq_true rfl) ?_
  exact l_X5_firstBreach hG hPL (nv V 33 19) 0 _ none (Nat.zero_add _) hV hJ
set_option maxRecDepth 100000 in
set_option maxHeartbeats 4000000 in
theorem l_X5_lawfulWindows {V : St} (hG : GOOD V) : ∀ (n w : Nat) (σ : St), w + n = nv V 33 19 → vw σ = V → J V σ → Rn LAYC none RX5 cX5_lawfulWindows 3 5 138 4 [some (.ref 0), some (.int (nI (lwS V w))), some (.int (nI w))] [] σ (EI (fun v τ => v = nI (lwS V (nv V 33 19)) ∧ vw τ = V ∧ J V τ)) := by
  have hI := hG.1.1
  have hR := hG.2
  have hnw := bd hI 33 19 20 rfl rfl
  have hrel := hR.nw
  intro n
  induction n with
  | zero =>
    intro w σ hb hV hJ
    refine r_iload_n (q := 5) dX5_lawfulWindows_4 rfl rfl ?_
    refine r_aload_n (q := 6) dX5_lawfulWindows_5 rfl rfl ?_
    refine gX5_26 (q := 9) dX5_lawfulWindows_6 rfl ?_
    refine gvX5_208 (q := 12) hV hI dX5_lawfulWindows_9 rfl ?_
    refine r_icmp_geN (t := 34) (q := 15) dX5_lawfulWindows_12 (by decide) rfl (by omega) (by omega) (fun c12 => ?_) (fun c12 => absurd (by omega) c12)
    refine r_iload_n (q := 35) dX5_lawfulWindows_34 rfl rfl ?_
    exact r_retI dX5_lawfulWindows_35 ⟨by rw [show nv V 33 19 = w by omega], hV, hJ⟩
  | succ n ih =>
    intro w σ hb hV hJ
    refine r_iload_n (q := 5) dX5_lawfulWindows_4 rfl rfl ?_
    refine r_aload_n (q := 6) dX5_lawfulWindows_5 rfl rfl ?_
    refine gX5_26 (q := 9) dX5_lawfulWindows_6 rfl ?_
    refine gvX5_208 (q := 12) hV hI dX5_lawfulWindows_9 rfl ?_
    refine r_icmp_geN (t := 34) (q := 15) dX5_lawfulWindows_12 (by decide) rfl (by omega) (by omega) (fun c12 => absurd c12 (by omega)) (fun c12 => ?_)
    refine r_aload_n (q := 16) dX5_lawfulWindows_15 rfl rfl ?_
    refine r_iload_n (q := 17) dX5_lawfulWindows_16 rfl rfl ?_
    refine r_cI1 (q := 20) vX5_199 dX5_lawfulWindows_17 rfl LYX5 rfl (Nat.le_of_ble_eq_true rfl) (by decide) (by decide) (c_X5_firstFall _ V hV hG hJ w (by omega) (by omega)) ?_
    rintro _ s17 ⟨rfl, hV17, hJ17⟩
    refine r_bipush (q := 22) (v := -9) dX5_lawfulWindows_20 rfl (by decide) ?_
    refine r_icmp_ne (t := 28) (q := 25) dX5_lawfulWindows_22 (by decide) rfl (fun c22 => ?_) (fun c22 => ?_)
    · refine r_iinc (q := 31) (v := nI (w + 1)) dX5_lawfulWindows_28 rfl rfl (by rw [show Int32.ofInt 1 = nI 1 from rfl]; exact nI_add _ _) ?_
      refine r_goto (q := 4) dX5_lawfulWindows_31 (by decide) ?_
      have e : lwS V (w + 1) = lwS V w := by rw [lwS, if_neg c22]; try rfl
      rw [← e]
      exact ih (w + 1) _ (by omega) hV17 hJ17
    · refine r_iinc (q := 28) (v := nI (lwS V w + 1)) dX5_lawfulWindows_25 rfl rfl (by rw [show Int32.ofInt 1 = nI 1 from rfl]; exact nI_add _ _) ?_
      refine r_iinc (q := 31) (v := nI (w + 1)) dX5_lawfulWindows_28 rfl rfl (by rw [show Int32.ofInt 1 = nI 1 from rfl]; exact nI_add _ _) ?_
      refine r_goto (q := 4) dX5_lawfulWindows_31 (by decide) ?_
      have e : lwS V (w + 1) = lwS V w + 1 := by rw [lwS, if_pos c22]; try rfl
      rw [← e]
      exact ih (w + 1) _ (by omega) hV17 hJ17
set_option maxRecDepth 100000 in
set_option maxHeartbeats 4000000 in
theorem c_X5_lawfulWindows (σ V : St) (hV : vw σ = V) (hG : GOOD V) (hJ : J V σ) : Cl LAYC yX5_lawfulWindows cX5_lawfulWindows 3 (some .int) 5 138 [.ref 0] σ (EI (fun v τ => v = nI (lwS V (nv V 33 19)) ∧ vw τ = V ∧ J V τ)) := by
  refine Cl.of 2 rfl rfl EI.ok ?_
  show Rn LAYC none RX5 _ _ _ _ 0 [some (.ref 0), none, none] [] _ _
  refine r_iconst (q := 1) (v := nI 0) dX5_lawfulWindows_0 rfl (by decide) ?_
  refine r_istore_n (q := 2) dX5_lawfulWindows_1 rfl (Nat.le_of_ble_eq_true rfl) ?_
  refine r_iconst (q := 3) (v := nI 0) dX5_lawfulWindows_2 rfl (by decide) ?_
  refine r_istore_n (q := 4) dX5_lawfulWindows_3 rfl (Nat.le_of_ble_eq_true rfl) ?_
  exact l_X5_lawfulWindows hG (nv V 33 19) 0 _ (Nat.zero_add _) hV hJ
set_option maxRecDepth 100000 in
set_option maxHeartbeats 4000000 in
theorem c_X5_sun (σ V : St) (hV : vw σ = V) (hG : GOOD V) (hJ : J V σ) (w d m : Int32) : Cl LAYC yX5_sun cX5_sun 4 (some .int) 3 90 [.ref 0, .int w, .int d, .int m] σ (EI (fun v τ => v = resO (cSun V w d m) (nI (sunN V w.toNatClampNeg d.toNatClampNeg m.toNatClampNeg)) ∧ fin (stO (cSun V w d m) (V) (rfB V (cSun V w d m))) τ)) := by
  have hI := hG.1.1
  have hR := hG.2
  have hnw := bd hI 33 19 20 rfl rfl
  have hnb := bd hI 33 7 40 rfl rfl
  refine Cl.of 0 rfl rfl EI.ok ?_
  show Rn LAYC none RX5 _ _ _ _ 0 [some (.ref 0), some (.int w), some (.int d), some (.int m)] [] _ _
  refine r_aload_n (q := 1) dX5_sun_0 rfl rfl ?_
  refine gX5_26 (q := 4) dX5_sun_1 rfl ?_
  refine r_iload_n (q := 5) dX5_sun_4 rfl rfl ?_
  refine r_cI1 (q := 8) vX5_127 dX5_sun_5 rfl LYX4 rfl (Nat.le_of_ble_eq_true rfl) (by decide) (by decide) (c_X4_has _ V hV hG _) ?_
  rintro _ τ0 ⟨rfl, hτ0⟩
  rw [hτ0]
  clear hτ0
  refine r_if_eqN (t := 23) (q := 11) dX5_sun_8 (by decide) rfl (by have := ix_le w (nv V 33 19); omega) (fun c8 => ?_) (fun c8 => ?_)
  · refine r_aload_n (q := 24) dX5_sun_23 rfl rfl ?_
    refine r_iconst (q := 25) (v := -1) dX5_sun_24 rfl (by decide) ?_
    refine r_cI1 (q := 28) vX5_71 dX5_sun_25 rfl LYX5 rfl (Nat.le_of_ble_eq_true rfl) (by decide) (by decide) (c_X5_refuse _ V hV (-1) 1 rfl (by decide) (by decide)) ?_
    rintro _ τR ⟨rfl, hRf, r32⟩
    exact r_retI dX5_sun_28 (fo_bad (by first | (simp [cSun, *]; done) | (unfold cSun; (try simp only [hwc, hdc, hmc]); (repeat' split); all_goals first | rfl | contradiction | omega | (exfalso; simp only [Int32.lt_iff_toInt_lt, Int32.le_iff_toInt_le] at *; omega))) (by decide) hRf (hJ.c r32))
  · obtain ⟨w, hw, rfl⟩ := ix_of c8
    have hwc := nI_clamp (n := w) (by omega)
    refine r_aload_n (q := 12) dX5_sun_11 rfl rfl ?_
    refine gX5_10 (q := 15) dX5_sun_12 rfl ?_
    refine r_iload_n (q := 16) dX5_sun_15 rfl rfl ?_
    refine r_iload_n (q := 17) dX5_sun_16 rfl rfl ?_
    refine r_cI2 (q := 20) vX5_128 dX5_sun_17 rfl LYX3 rfl (Nat.le_of_ble_eq_true rfl) (by decide) (by decide) (c_X3_has _ V hV hG _ _) ?_
    rintro _ τ0 ⟨rfl, hτ0⟩
    rw [hτ0]
    clear hτ0
    refine r_if_neN (t := 29) (q := 23) dX5_sun_20 (by decide) rfl (by have := isMin_le V d m; omega) (fun c20 => ?_) (fun c20 => ?_)
    · obtain ⟨d, m, hd, hm, rfl, rfl⟩ := isMin_of c20
      have hmn := bd hI 34 d 24 rfl rfl
      have hdc := nI_clamp (n := d) (by omega)
      have hmc := nI_clamp (n := m) (by omega)
      refine r_aload_n (q := 30) dX5_sun_29 rfl rfl ?_
      refine r_iload_n (q := 31) dX5_sun_30 rfl rfl ?_
      refine r_iload_n (q := 32) dX5_sun_31 rfl rfl ?_
      refine r_iload_n (q := 33) dX5_sun_32 rfl rfl ?_
      refine r_bipush (q := 35) (v := -9) dX5_sun_33 rfl (by decide) ?_
      refine r_iconst (q := 36) (v := nI 0) dX5_sun_35 rfl (by decide) ?_
      refine r_cI5 (q := 39) vX5_131 dX5_sun_36 rfl LYX5 rfl (Nat.le_of_ble_eq_true rfl) (by decide) (by decide) (c_X5_sunAt _ V hV hG V (-9) 0 w d m (Or.inl ⟨rfl, rfl, rfl⟩) (by omega) hw hd hm) ?_
      rintro _ s36 ⟨rfl, hV36, r36⟩
      exact r_retI dX5_sun_39 (fo_ok (by first | (simp [cSun, *]; done) | (unfold cSun; (try simp only [hwc, hdc, hmc]); (repeat' split); all_goals first | rfl | contradiction | omega | (exfalso; simp only [Int32.lt_iff_toInt_lt, Int32.le_iff_toInt_le] at *; omega))) (by rw [hwc, hdc, hmc]) hV36 (hJ.c r36))
    · refine r_aload_n (q := 24) dX5_sun_23 rfl rfl ?_
      refine r_iconst (q := 25) (v := -1) dX5_sun_24 rfl (by decide) ?_
      refine r_cI1 (q := 28) vX5_71 dX5_sun_25 rfl LYX5 rfl (Nat.le_of_ble_eq_true rfl) (by decide) (by decide) (c_X5_refuse _ V hV (-1) 1 rfl (by decide) (by decide)) ?_
      rintro _ τR ⟨rfl, hRf, r32⟩
      exact r_retI dX5_sun_28 (fo_bad (by first | (simp [cSun, *]; done) | (unfold cSun; (try simp only [hwc, hdc, hmc]); (repeat' split); all_goals first | rfl | contradiction | omega | (exfalso; simp only [Int32.lt_iff_toInt_lt, Int32.le_iff_toInt_le] at *; omega))) (by decide) hRf (hJ.c r32))
theorem isCell_of {V : St} {x y : Int32} (h : ¬ isCell V x y = 0) : ∃ w c, w < nv V 33 19 ∧ c < cls V w ∧ x = nI w ∧ y = nI c ∧ (w < 2 ^ 31 → ix (nI w) (nv V 33 19) = 1 ∧ (c < 2 ^ 31 → ix (nI c) (cls V (nI w).toNatClampNeg) = 1)) := by
  unfold isCell at h
  split at h
  · omega
  · rename_i h1
    obtain ⟨w, hw, rfl⟩ := ix_of h1
    by_cases hb : w < 2 ^ 31
    · rw [nI_clamp hb] at h
      obtain ⟨c, hc, rfl⟩ := ix_of h
      exact ⟨w, c, hw, hc, rfl, rfl, fun _ => ⟨ix_nI hw hb, fun hcb => by rw [nI_clamp hb]; exact ix_nI hc hcb⟩⟩
    · exfalso
      have := nv_lt V 33 19
      omega
theorem cLight_c (V : St) (w c d m : Int32) : cLight V w c d m = if isCell V w c = 0 then -1 else if isMin V d m = 0 then -1 else 0 := by
  unfold cLight isCell
  by_cases h : ix w (nv V 33 19) = 0
  · rw [if_pos h, if_pos h, if_pos rfl]
  · rw [if_neg h, if_neg h]
set_option maxRecDepth 100000 in
set_option maxHeartbeats 4000000 in
theorem c_X5_light (σ V : St) (hV : vw σ = V) (hG : GOOD V) (hJ : J V σ) (w c d m : Int32) : Cl LAYC yX5_light cX5_light 5 (some .int) 2 62 [.ref 0, .int w, .int c, .int d, .int m] σ (EI (fun v τ => v = resO (cLight V w c d m) (nI (lightN V w.toNatClampNeg c.toNatClampNeg d.toNatClampNeg m.toNatClampNeg)) ∧ fin (stO (cLight V w c d m) V (rfB V (cLight V w c d m))) τ)) := by
  have hI := hG.1.1
  have hR := hG.2
  have hnw := bd hI 33 19 20 rfl rfl
  have hnb := bd hI 33 7 40 rfl rfl
  refine Cl.of 0 rfl rfl EI.ok ?_
  show Rn LAYC none RX5 _ _ _ _ 0 [some (.ref 0), some (.int w), some (.int c), some (.int d), some (.int m)] [] _ _
  refine r_aload_n (q := 1) dX5_light_0 rfl rfl ?_
  refine gX5_26 (q := 4) dX5_light_1 rfl ?_
  refine r_iload_n (q := 5) dX5_light_4 rfl rfl ?_
  refine r_iload_n (q := 6) dX5_light_5 rfl rfl ?_
  refine r_cI2 (q := 9) vX5_135 dX5_light_6 rfl LYX4 rfl (Nat.le_of_ble_eq_true rfl) (by decide) (by decide) (c_X4_hasCell _ V hV hG _ _) ?_
  rintro _ τ0 ⟨rfl, hτ0⟩
  rw [hτ0]
  clear hτ0
  refine r_if_eqN (t := 25) (q := 12) dX5_light_9 (by decide) rfl (by have := isCell_le V w c; omega) (fun c9 => ?_) (fun c9 => ?_)
  · refine r_aload_n (q := 26) dX5_light_25 rfl rfl ?_
    refine r_iconst (q := 27) (v := -1) dX5_light_26 rfl (by decide) ?_
    refine r_cI1 (q := 30) vX5_71 dX5_light_27 rfl LYX5 rfl (Nat.le_of_ble_eq_true rfl) (by decide) (by decide) (c_X5_refuse _ V hV (-1) 1 rfl (by decide) (by decide)) ?_
    rintro _ τR ⟨rfl, hRf, r32⟩
    exact r_retI dX5_light_30 (fo_bad (by rw [cLight_c, if_pos c9]) (by decide) hRf (hJ.c r32))
  · obtain ⟨w, c, hw, hc, rfl, rfl, -⟩ := isCell_of c9
    have hcl := (hG.1.2.1 w).2.2.1
    have hwc := nI_clamp (n := w) (by omega)
    have hcc := nI_clamp (n := c) (by omega)
    refine r_aload_n (q := 13) dX5_light_12 rfl rfl ?_
    refine gX5_10 (q := 16) dX5_light_13 rfl ?_
    refine r_iload_n (q := 17) dX5_light_16 rfl rfl ?_
    refine r_iload (q := 19) dX5_light_17 rfl rfl ?_
    refine r_cI2 (q := 22) vX5_128 dX5_light_19 rfl LYX3 rfl (Nat.le_of_ble_eq_true rfl) (by decide) (by decide) (c_X3_has _ V hV hG _ _) ?_
    rintro _ τ0 ⟨rfl, hτ0⟩
    rw [hτ0]
    clear hτ0
    refine r_if_neN (t := 31) (q := 25) dX5_light_22 (by decide) rfl (by have := isMin_le V d m; omega) (fun c22 => ?_) (fun c22 => ?_)
    · obtain ⟨d, m, hd, hm, rfl, rfl⟩ := isMin_of c22
      have hmn := bd hI 34 d 24 rfl rfl
      have hdc := nI_clamp (n := d) (by omega)
      have hmc := nI_clamp (n := m) (by omega)
      refine r_aload_n (q := 32) dX5_light_31 rfl rfl ?_
      refine r_iload_n (q := 33) dX5_light_32 rfl rfl ?_
      refine r_iload_n (q := 34) dX5_light_33 rfl rfl ?_
      refine r_iload (q := 36) dX5_light_34 rfl rfl ?_
      refine r_cI3 (q := 39) vX5_138 dX5_light_36 rfl LYX5 rfl (Nat.le_of_ble_eq_true rfl) (by decide) (by decide) (c_X5_aim _ V hV hG w d m (by omega) hd (by omega)) ?_
      rintro _ s36 ⟨rfl, hV36, w36, r36⟩
      have hz := hG.1.2.2.2 d m hd hm
      refine r_if_neN (t := 44) (q := 42) dX5_light_39 (by decide) rfl (by have := front_le V w (24 * d + m); omega) (fun c39 => ?_) (fun c39 => ?_)
      · refine r_aload_n (q := 45) dX5_light_44 rfl rfl ?_
        refine gX5_26 (q := 48) dX5_light_45 rfl ?_
        refine r_iload_n (q := 49) dX5_light_48 rfl rfl ?_
        refine r_iload_n (q := 50) dX5_light_49 rfl rfl ?_
        refine r_aload_n (q := 51) dX5_light_50 rfl rfl ?_
        refine gX5_33 (q := 54) dX5_light_51 rfl ?_
        refine r_cV3 (q := 57) vX5_142 dX5_light_54 rfl LYX4 rfl (Nat.le_of_ble_eq_true rfl) (by decide) (by decide) (c_X4_standOn _ V hV36 hG w c (by omega) hw (by omega)) ?_
        rintro s54 ⟨hV54, p54, o54⟩
        have w54 := o54.way w36
        refine r_aload_n (q := 58) dX5_light_57 rfl rfl ?_
        refine gX5_40 (q := 61) dX5_light_58 rfl ?_
        refine r_aload_n (q := 62) dX5_light_61 rfl rfl ?_
        refine gX5_19 (q := 65) dX5_light_62 rfl ?_
        refine r_aload_n (q := 66) dX5_light_65 rfl rfl ?_
        refine gX5_33 (q := 69) dX5_light_66 rfl ?_
        refine r_iload_n (q := 70) dX5_light_69 rfl rfl ?_
        refine r_bipush (q := 72) (v := -9) dX5_light_70 rfl (by decide) ?_
        refine r_iconst (q := 73) (v := nI 0) dX5_light_72 rfl (by decide) ?_
        refine r_cV5 (q := 76) vX5_146 dX5_light_73 rfl LYX2 rfl (Nat.le_of_ble_eq_true rfl) (by decide) (by decide) (c_X2_gather _ V hV54 hG (-9) 0 d (by omega) hd) ?_
        rintro s73 ⟨hV73, o73, g73⟩
        have hl := goodL_one (c := c) hG (p := -9) (t := 0) (U := V) (Or.inl ⟨rfl, rfl, rfl⟩) hd hw hc hz w54 p54
        generalize sel V (-9) d (fun x => mHit s54 V x (topP V (-9) 0 x)) (nv V 33 7) = l at g73 hl
        have p73 : pointIs V w c s73 := by { unfold pointIs; rw [o73 24 (by decide) (by decide) (by decide) (by decide) (by decide), o73 25 (by decide) (by decide) (by decide) (by decide) (by decide)]; exact p54 }
        refine r_aload_n (q := 77) dX5_light_76 rfl rfl ?_
        refine gX5_40 (q := 80) dX5_light_77 rfl ?_
        refine r_aload_n (q := 81) dX5_light_80 rfl rfl ?_
        refine gX5_19 (q := 84) dX5_light_81 rfl ?_
        refine r_aload_n (q := 85) dX5_light_84 rfl rfl ?_
        refine gX5_33 (q := 88) dX5_light_85 rfl ?_
        refine r_cI2 (q := 91) vX5_150 dX5_light_88 rfl LYX2 rfl (Nat.le_of_ble_eq_true rfl) (by decide) (by decide) (c_X2_lightAlong _ V hV73 hG (-9) 0 w c d (24 * d + m) l (by omega) hw hc hz ⟨g73, o73.way w54, p73, hl.1, hl.2.1⟩) ?_
        rintro _ sz ⟨rfl, hVz, oz⟩
        rw [laI_all, hl.2.2.1]
        have rz : sz 32 = σ 32 := (oz 32 (by decide)).trans ((o73 32 (by decide) (by decide) (by decide) (by decide) (by decide)).trans ((o54 32 (by decide) (by decide)).trans r36))
        exact r_retI dX5_light_91 (fo_ok (by rw [cLight_c, if_neg c9, if_neg c22]) (by rw [hwc, hcc, hdc, hmc, lightN, if_neg c39]) hVz (hJ.c rz))
      · refine r_iconst (q := 43) (v := nI 0) dX5_light_42 rfl (by decide) ?_
        exact r_retI dX5_light_43 (fo_ok (by rw [cLight_c, if_neg c9, if_neg c22]) (by rw [hwc, hcc, hdc, hmc, lightN, if_pos c39]; try rfl) hV36 (hJ.c r36))
    · refine r_aload_n (q := 26) dX5_light_25 rfl rfl ?_
      refine r_iconst (q := 27) (v := -1) dX5_light_26 rfl (by decide) ?_
      refine r_cI1 (q := 30) vX5_71 dX5_light_27 rfl LYX5 rfl (Nat.le_of_ble_eq_true rfl) (by decide) (by decide) (c_X5_refuse _ V hV (-1) 1 rfl (by decide) (by decide)) ?_
      rintro _ τR ⟨rfl, hRf, r32⟩
      exact r_retI dX5_light_30 (fo_bad (by rw [cLight_c, if_neg c9, if_pos c22]) (by decide) hRf (hJ.c r32))
set_option maxRecDepth 100000 in
set_option maxHeartbeats 4000000 in
theorem c_X5_taker (σ V : St) (hV : vw σ = V) (hG : GOOD V) (hJ : J V σ) (w c d m : Int32) : Cl LAYC yX5_taker cX5_taker 5 (some .int) 2 62 [.ref 0, .int w, .int c, .int d, .int m] σ (EI (fun v τ => v = resB (cLight V w c d m) (takN V w.toNatClampNeg c.toNatClampNeg d.toNatClampNeg m.toNatClampNeg) ∧ fin (stO (cLight V w c d m) V (rfB V (cLight V w c d m))) τ)) := by
  have hI := hG.1.1
  have hR := hG.2
  have hnw := bd hI 33 19 20 rfl rfl
  have hnb := bd hI 33 7 40 rfl rfl
  refine Cl.of 0 rfl rfl EI.ok ?_
  show Rn LAYC none RX5 _ _ _ _ 0 [some (.ref 0), some (.int w), some (.int c), some (.int d), some (.int m)] [] _ _
  refine r_aload_n (q := 1) dX5_taker_0 rfl rfl ?_
  refine gX5_26 (q := 4) dX5_taker_1 rfl ?_
  refine r_iload_n (q := 5) dX5_taker_4 rfl rfl ?_
  refine r_iload_n (q := 6) dX5_taker_5 rfl rfl ?_
  refine r_cI2 (q := 9) vX5_135 dX5_taker_6 rfl LYX4 rfl (Nat.le_of_ble_eq_true rfl) (by decide) (by decide) (c_X4_hasCell _ V hV hG _ _) ?_
  rintro _ τ0 ⟨rfl, hτ0⟩
  rw [hτ0]
  clear hτ0
  refine r_if_eqN (t := 25) (q := 12) dX5_taker_9 (by decide) rfl (by have := isCell_le V w c; omega) (fun c9 => ?_) (fun c9 => ?_)
  · refine r_aload_n (q := 26) dX5_taker_25 rfl rfl ?_
    refine r_iconst (q := 27) (v := -1) dX5_taker_26 rfl (by decide) ?_
    refine r_cI1 (q := 30) vX5_154 dX5_taker_27 rfl LYX5 rfl (Nat.le_of_ble_eq_true rfl) (by decide) (by decide) (c_X5_refuseAsTold _ V hV (-1) 1 rfl (by decide) (by decide)) ?_
    rintro _ τR ⟨rfl, hRf, r32⟩
    exact r_retI dX5_taker_30 (fb_bad (by rw [cLight_c, if_pos c9]) (by decide) hRf (hJ.c r32))
  · obtain ⟨w, c, hw, hc, rfl, rfl, -⟩ := isCell_of c9
    have hcl := (hG.1.2.1 w).2.2.1
    have hwc := nI_clamp (n := w) (by omega)
    have hcc := nI_clamp (n := c) (by omega)
    refine r_aload_n (q := 13) dX5_taker_12 rfl rfl ?_
    refine gX5_10 (q := 16) dX5_taker_13 rfl ?_
    refine r_iload_n (q := 17) dX5_taker_16 rfl rfl ?_
    refine r_iload (q := 19) dX5_taker_17 rfl rfl ?_
    refine r_cI2 (q := 22) vX5_128 dX5_taker_19 rfl LYX3 rfl (Nat.le_of_ble_eq_true rfl) (by decide) (by decide) (c_X3_has _ V hV hG _ _) ?_
    rintro _ τ0 ⟨rfl, hτ0⟩
    rw [hτ0]
    clear hτ0
    refine r_if_neN (t := 31) (q := 25) dX5_taker_22 (by decide) rfl (by have := isMin_le V d m; omega) (fun c22 => ?_) (fun c22 => ?_)
    · obtain ⟨d, m, hd, hm, rfl, rfl⟩ := isMin_of c22
      have hmn := bd hI 34 d 24 rfl rfl
      have hdc := nI_clamp (n := d) (by omega)
      have hmc := nI_clamp (n := m) (by omega)
      refine r_aload_n (q := 32) dX5_taker_31 rfl rfl ?_
      refine r_iload_n (q := 33) dX5_taker_32 rfl rfl ?_
      refine r_iload_n (q := 34) dX5_taker_33 rfl rfl ?_
      refine r_iload (q := 36) dX5_taker_34 rfl rfl ?_
      refine r_cI3 (q := 39) vX5_138 dX5_taker_36 rfl LYX5 rfl (Nat.le_of_ble_eq_true rfl) (by decide) (by decide) (c_X5_aim _ V hV hG w d m (by omega) hd (by omega)) ?_
      rintro _ s36 ⟨rfl, hV36, w36, r36⟩
      have hz := hG.1.2.2.2 d m hd hm
      refine r_if_neN (t := 45) (q := 42) dX5_taker_39 (by decide) rfl (by have := front_le V w (24 * d + m); omega) (fun c39 => ?_) (fun c39 => ?_)
      · refine r_aload_n (q := 46) dX5_taker_45 rfl rfl ?_
        refine gX5_26 (q := 49) dX5_taker_46 rfl ?_
        refine r_iload_n (q := 50) dX5_taker_49 rfl rfl ?_
        refine r_iload_n (q := 51) dX5_taker_50 rfl rfl ?_
        refine r_aload_n (q := 52) dX5_taker_51 rfl rfl ?_
        refine gX5_33 (q := 55) dX5_taker_52 rfl ?_
        refine r_cV3 (q := 58) vX5_142 dX5_taker_55 rfl LYX4 rfl (Nat.le_of_ble_eq_true rfl) (by decide) (by decide) (c_X4_standOn _ V hV36 hG w c (by omega) hw (by omega)) ?_
        rintro s54 ⟨hV54, p54, o54⟩
        have w54 := o54.way w36
        refine r_aload_n (q := 59) dX5_taker_58 rfl rfl ?_
        refine gX5_40 (q := 62) dX5_taker_59 rfl ?_
        refine r_aload_n (q := 63) dX5_taker_62 rfl rfl ?_
        refine gX5_19 (q := 66) dX5_taker_63 rfl ?_
        refine r_aload_n (q := 67) dX5_taker_66 rfl rfl ?_
        refine gX5_33 (q := 70) dX5_taker_67 rfl ?_
        refine r_iload_n (q := 71) dX5_taker_70 rfl rfl ?_
        refine r_bipush (q := 73) (v := -9) dX5_taker_71 rfl (by decide) ?_
        refine r_iconst (q := 74) (v := nI 0) dX5_taker_73 rfl (by decide) ?_
        refine r_cV5 (q := 77) vX5_146 dX5_taker_74 rfl LYX2 rfl (Nat.le_of_ble_eq_true rfl) (by decide) (by decide) (c_X2_gather _ V hV54 hG (-9) 0 d (by omega) hd) ?_
        rintro s73 ⟨hV73, o73, g73⟩
        have hl := goodL_one (c := c) hG (p := -9) (t := 0) (U := V) (Or.inl ⟨rfl, rfl, rfl⟩) hd hw hc hz w54 p54
        generalize sel V (-9) d (fun x => mHit s54 V x (topP V (-9) 0 x)) (nv V 33 7) = l at g73 hl
        have p73 : pointIs V w c s73 := by { unfold pointIs; rw [o73 24 (by decide) (by decide) (by decide) (by decide) (by decide), o73 25 (by decide) (by decide) (by decide) (by decide) (by decide)]; exact p54 }
        refine r_aload_n (q := 78) dX5_taker_77 rfl rfl ?_
        refine gX5_40 (q := 81) dX5_taker_78 rfl ?_
        refine r_aload_n (q := 82) dX5_taker_81 rfl rfl ?_
        refine gX5_19 (q := 85) dX5_taker_82 rfl ?_
        refine r_aload_n (q := 86) dX5_taker_85 rfl rfl ?_
        refine gX5_33 (q := 89) dX5_taker_86 rfl ?_
        refine r_cI2 (q := 92) vX5_157 dX5_taker_89 rfl LYX2 rfl (Nat.le_of_ble_eq_true rfl) (by decide) (by decide) (c_X2_nearestAlong _ V hV73 hG (-9) 0 w c d (24 * d + m) l (by omega) hw hc hz ⟨g73, o73.way w54, p73, hl.1, hl.2.1⟩) ?_
        rintro _ sz ⟨rfl, hVz, oz⟩
        rw [neI_all, hl.2.2.2]
        have rz : sz 32 = σ 32 := (oz 32 (by decide)).trans ((o73 32 (by decide) (by decide) (by decide) (by decide) (by decide)).trans ((o54 32 (by decide) (by decide)).trans r36))
        exact r_retI dX5_taker_92 (fb_ok (by rw [cLight_c, if_neg c9, if_neg c22]) (by rw [hwc, hcc, hdc, hmc, takN, if_neg c39]) hVz (hJ.c rz))
      · refine r_bipush (q := 44) (v := -8) dX5_taker_42 rfl (by decide) ?_
        exact r_retI dX5_taker_44 (fb_ok (by rw [cLight_c, if_neg c9, if_neg c22]) (by rw [hwc, hcc, hdc, hmc, takN, if_pos c39]; try rfl) hV36 (hJ.c r36))
    · refine r_aload_n (q := 26) dX5_taker_25 rfl rfl ?_
      refine r_iconst (q := 27) (v := -1) dX5_taker_26 rfl (by decide) ?_
      refine r_cI1 (q := 30) vX5_154 dX5_taker_27 rfl LYX5 rfl (Nat.le_of_ble_eq_true rfl) (by decide) (by decide) (c_X5_refuseAsTold _ V hV (-1) 1 rfl (by decide) (by decide)) ?_
      rintro _ τR ⟨rfl, hRf, r32⟩
      exact r_retI dX5_taker_30 (fb_bad (by rw [cLight_c, if_neg c9, if_pos c22]) (by decide) hRf (hJ.c r32))
set_option maxRecDepth 100000 in
set_option maxHeartbeats 4000000 in
theorem c_X5_hours (σ V : St) (hV : vw σ = V) (hG : GOOD V) (hJ : J V σ) (w d : Int32) : Cl LAYC yX5_hours cX5_hours 3 (some .int) 4 115 [.ref 0, .int w, .int d] σ (EI (fun v τ => v = resO (cHours V w d) (nI (hoursN V w.toNatClampNeg d.toNatClampNeg)) ∧ fin (stO (cHours V w d) (V) (rfB V (cHours V w d))) τ)) := by
  have hI := hG.1.1
  have hR := hG.2
  have hnw := bd hI 33 19 20 rfl rfl
  have hnb := bd hI 33 7 40 rfl rfl
  refine Cl.of 0 rfl rfl EI.ok ?_
  show Rn LAYC none RX5 _ _ _ _ 0 [some (.ref 0), some (.int w), some (.int d)] [] _ _
  refine r_aload_n (q := 1) dX5_hours_0 rfl rfl ?_
  refine gX5_26 (q := 4) dX5_hours_1 rfl ?_
  refine r_iload_n (q := 5) dX5_hours_4 rfl rfl ?_
  refine r_cI1 (q := 8) vX5_127 dX5_hours_5 rfl LYX4 rfl (Nat.le_of_ble_eq_true rfl) (by decide) (by decide) (c_X4_has _ V hV hG _) ?_
  rintro _ τ0 ⟨rfl, hτ0⟩
  rw [hτ0]
  clear hτ0
  refine r_if_eqN (t := 18) (q := 11) dX5_hours_8 (by decide) rfl (by have := ix_le w (nv V 33 19); omega) (fun c8 => ?_) (fun c8 => ?_)
  · refine r_aload_n (q := 19) dX5_hours_18 rfl rfl ?_
    refine r_iconst (q := 20) (v := -1) dX5_hours_19 rfl (by decide) ?_
    refine r_cI1 (q := 23) vX5_71 dX5_hours_20 rfl LYX5 rfl (Nat.le_of_ble_eq_true rfl) (by decide) (by decide) (c_X5_refuse _ V hV (-1) 1 rfl (by decide) (by decide)) ?_
    rintro _ τR ⟨rfl, hRf, r32⟩
    exact r_retI dX5_hours_23 (fo_bad (by first | (simp [cHours, *]; done) | (unfold cHours; (try simp only [hwc, hdc]); (repeat' split); all_goals first | rfl | contradiction | omega | (exfalso; simp only [Int32.lt_iff_toInt_lt, Int32.le_iff_toInt_le] at *; omega))) (by decide) hRf (hJ.c r32))
  · obtain ⟨w, hw, rfl⟩ := ix_of c8
    have hwc := nI_clamp (n := w) (by omega)
    refine r_iload_n (q := 12) dX5_hours_11 rfl rfl ?_
    refine r_sI1 (q := 15) vX5_67 dX5_hours_12 rfl (Nat.le_of_ble_eq_true rfl) (by decide) (by decide) (c_X5_isDay _ _) ?_
    rintro _ τ0 ⟨rfl, hτ0⟩
    rw [hτ0]
    clear hτ0
    refine r_if_neN (t := 24) (q := 18) dX5_hours_15 (by decide) rfl (by have := ix_le d 8; omega) (fun c15 => ?_) (fun c15 => ?_)
    · obtain ⟨d, hd, rfl⟩ := ix_of c15
      have hdc := nI_clamp (n := d) (by omega)
      refine r_aload_n (q := 25) dX5_hours_24 rfl rfl ?_
      refine r_iload_n (q := 26) dX5_hours_25 rfl rfl ?_
      refine r_iload_n (q := 27) dX5_hours_26 rfl rfl ?_
      refine r_cI2 (q := 30) vX5_166 dX5_hours_27 rfl LYX5 rfl (Nat.le_of_ble_eq_true rfl) (by decide) (by decide) (c_X5_litMinutes _ V hV hG hJ w d (by omega) hw hd) ?_
      rintro _ s27 ⟨rfl, hV27, hJ27⟩
      refine r_sI1 (q := 33) vX5_170 dX5_hours_30 rfl (Nat.le_of_ble_eq_true rfl) (by decide) (by decide) (c_bitCount _ _ (mskL_lt hI w d)) ?_
      rintro _ τ0 ⟨rfl, hτ0⟩
      rw [hτ0]
      clear hτ0
      rw [mskL_pop hI]
      exact r_retI dX5_hours_33 (fo_ok (by first | (simp [cHours, *]; done) | (unfold cHours; (try simp only [hwc, hdc]); (repeat' split); all_goals first | rfl | contradiction | omega | (exfalso; simp only [Int32.lt_iff_toInt_lt, Int32.le_iff_toInt_le] at *; omega))) (by rw [hwc, hdc]) hV27 hJ27)
    · refine r_aload_n (q := 19) dX5_hours_18 rfl rfl ?_
      refine r_iconst (q := 20) (v := -1) dX5_hours_19 rfl (by decide) ?_
      refine r_cI1 (q := 23) vX5_71 dX5_hours_20 rfl LYX5 rfl (Nat.le_of_ble_eq_true rfl) (by decide) (by decide) (c_X5_refuse _ V hV (-1) 1 rfl (by decide) (by decide)) ?_
      rintro _ τR ⟨rfl, hRf, r32⟩
      exact r_retI dX5_hours_23 (fo_bad (by first | (simp [cHours, *]; done) | (unfold cHours; (try simp only [hwc, hdc]); (repeat' split); all_goals first | rfl | contradiction | omega | (exfalso; simp only [Int32.lt_iff_toInt_lt, Int32.le_iff_toInt_le] at *; omega))) (by decide) hRf (hJ.c r32))
