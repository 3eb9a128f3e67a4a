def tkC (V : St) (w d m : Nat) (x : Int32) : Nat → Nat
  | 0 => 0
  | c + 1 => tkC V w d m x c + (if takN V w c d m = x then 1 else 0)
def tkM (V : St) (w d : Nat) (x : Int32) : Nat → Nat
  | 0 => 0
  | m + 1 => tkM V w d x m + tkC V w d m x (cls V w)
set_option maxRecDepth 100000 in
set_option maxHeartbeats 4000000 in
theorem l_X6_takes1 {V : St} (hF : WF V) {w d b : Nat} (h20 : w < 20) (hn : w < nv V 33 19) (hd : d < 8) {m : Nat} (hm : m < nv V 34 d) (K : ∀ σ, vwM σ = V → Rn LAY none RX6 cX6_takes 7 3 77 89 [some (.ref 33), some (.int (nI w)), some (.int (nI d)), some (.int (nI b)), some (.int (nI (tkM V w d (nI b) m + tkC V w d m (nI b) (cls V w)))), some (.int (nI m)), some (.int (nI (cls V w)))] [] σ (EI (fun v τ => v = nI (tkM V w d (nI b) (nv V 34 d)) ∧ vwM τ = V))) : ∀ (n c : Nat) (σ : St), vwM σ = V → c + n = cls V w → Rn LAY none RX6 cX6_takes 7 3 77 49 [some (.ref 33), some (.int (nI w)), some (.int (nI d)), some (.int (nI b)), some (.int (nI (tkM V w d (nI b) m + tkC V w d m (nI b) c))), some (.int (nI m)), some (.int (nI c))] [] σ (EI (fun v τ => v = nI (tkM V w d (nI b) (nv V 34 d)) ∧ vwM τ = V)) := by
  have hI := hF.1
  have hcl := (hF.2.1 w).2.2.1
  intro n
  induction n with
  | zero =>
    intro c σ hV hb
    refine r_iload (q := 51) dX6_takes_49 rfl rfl ?_
    refine r_aload_n (q := 52) dX6_takes_51 rfl rfl ?_
    refine r_iload_n (q := 53) dX6_takes_52 rfl rfl ?_
    refine r_cI1 (q := 56) vX6_179 dX6_takes_53 rfl LYX6 rfl (Nat.le_of_ble_eq_true rfl) (by decide) (by decide) (c_X6_cellsOf _ V hV hI hF.2.1 w h20) ?_
    rintro _ _ ⟨rfl, rfl⟩
    refine r_icmp_geN (t := 89) (q := 59) dX6_takes_56 (by decide) rfl (by omega) (by omega) (fun c56 => ?_) (fun c56 => absurd (by omega) c56)
    have e : c = cls V w := by omega
    rw [e]
    exact K _ hV
  | succ n ih =>
    intro c σ hV hb
    refine r_iload (q := 51) dX6_takes_49 rfl rfl ?_
    refine r_aload_n (q := 52) dX6_takes_51 rfl rfl ?_
    refine r_iload_n (q := 53) dX6_takes_52 rfl rfl ?_
    refine r_cI1 (q := 56) vX6_179 dX6_takes_53 rfl LYX6 rfl (Nat.le_of_ble_eq_true rfl) (by decide) (by decide) (c_X6_cellsOf _ V hV hI hF.2.1 w h20) ?_
    rintro _ _ ⟨rfl, rfl⟩
    refine r_icmp_geN (t := 89) (q := 59) dX6_takes_56 (by decide) rfl (by omega) (by omega) (fun c56 => absurd c56 (by omega)) (fun c56 => ?_)
    refine r_iload (q := 61) dX6_takes_59 rfl rfl ?_
    refine r_aload_n (q := 62) dX6_takes_61 rfl rfl ?_
    refine r_iload_n (q := 63) dX6_takes_62 rfl rfl ?_
    refine r_iload (q := 65) dX6_takes_63 rfl rfl ?_
    refine r_iload_n (q := 66) dX6_takes_65 rfl rfl ?_
    refine r_iload (q := 68) dX6_takes_66 rfl rfl ?_
    refine r_cI4 (q := 71) vX6_200 dX6_takes_68 rfl LYX6 rfl (Nat.le_of_ble_eq_true rfl) (by decide) (by decide) (c_X6_takerOf _ V hV hF w c d m h20 hn (by omega) hd hm) ?_
    rintro _ τ ⟨rfl, hV1⟩
    refine r_iload_n (q := 72) dX6_takes_71 rfl rfl ?_
    refine r_icmp_ne (t := 79) (q := 75) dX6_takes_72 (by decide) rfl (fun c72 => ?_) (fun c72 => ?_)
    · refine r_iconst (q := 80) (v := nI 0) dX6_takes_79 rfl (by decide) ?_
      refine r_iaddN (q := 81) dX6_takes_80 rfl ?_
      refine r_istore (q := 83) dX6_takes_81 rfl (Nat.le_of_ble_eq_true rfl) ?_
      refine r_iinc (q := 86) (v := nI (c + 1)) dX6_takes_83 rfl rfl (by rw [show Int32.ofInt 1 = nI 1 from rfl]; exact nI_add _ _) ?_
      refine r_goto (q := 49) dX6_takes_86 (by decide) ?_
      have e : tkM V w d (nI b) m + tkC V w d m (nI b) (c + 1) = (tkM V w d (nI b) m + tkC V w d m (nI b) c + 0) := by
        rw [tkC, if_neg c72]; omega
      rw [← e]
      exact ih (c + 1) _ hV1 (by omega)
    · refine r_iconst (q := 76) (v := nI 1) dX6_takes_75 rfl (by decide) ?_
      refine r_goto (q := 80) dX6_takes_76 (by decide) ?_
      refine r_iaddN (q := 81) dX6_takes_80 rfl ?_
      refine r_istore (q := 83) dX6_takes_81 rfl (Nat.le_of_ble_eq_true rfl) ?_
      refine r_iinc (q := 86) (v := nI (c + 1)) dX6_takes_83 rfl rfl (by rw [show Int32.ofInt 1 = nI 1 from rfl]; exact nI_add _ _) ?_
      refine r_goto (q := 49) dX6_takes_86 (by decide) ?_
      have e : tkM V w d (nI b) m + tkC V w d m (nI b) (c + 1) = (tkM V w d (nI b) m + tkC V w d m (nI b) c + 1) := by
        rw [tkC, if_pos c72]; omega
      rw [← e]
      exact ih (c + 1) _ hV1 (by omega)
set_option maxRecDepth 100000 in
set_option maxHeartbeats 4000000 in
theorem l_X6_takes {V : St} (hF : WF V) {w d b : Nat} (h20 : w < 20) (hn : w < nv V 33 19) (hd : d < 8) : ∀ (n m : Nat) (σ : St) (z6 : Option Value), vwM σ = V → m + n = nv V 34 d → Rn LAY none RX6 cX6_takes 7 3 77 35 [some (.ref 33), some (.int (nI w)), some (.int (nI d)), some (.int (nI b)), some (.int (nI (tkM V w d (nI b) m))), some (.int (nI m)), z6] [] σ (EI (fun v τ => v = nI (tkM V w d (nI b) (nv V 34 d)) ∧ vwM τ = V)) := by
  have hI := hF.1
  have hmn := bd hI 34 d 24 rfl rfl
  intro n
  induction n with
  | zero =>
    intro m σ z6 hV hb
    refine r_iload (q := 37) dX6_takes_35 rfl rfl ?_
    refine r_aload_n (q := 38) dX6_takes_37 rfl rfl ?_
    refine gX6_7 (q := 41) dX6_takes_38 rfl ?_
    refine r_iload_n (q := 42) dX6_takes_41 rfl rfl ?_
    refine r_ialdVM (q := 43) hV hI dX6_takes_42 rfl LA34 rfl rfl (by decide) (by omega) ?_
    refine r_icmp_geN (t := 95) (q := 46) dX6_takes_43 (by decide) rfl (by omega) (by have := bd hI 34 d 24 rfl rfl; omega) (fun c43 => ?_) (fun c43 => absurd (by omega) c43)
    refine r_iload (q := 97) dX6_takes_95 rfl rfl ?_
    exact r_retI dX6_takes_97 ⟨by rw [show m = nv V 34 d by omega], hV⟩
  | succ n ih =>
    intro m σ z6 hV hb
    refine r_iload (q := 37) dX6_takes_35 rfl rfl ?_
    refine r_aload_n (q := 38) dX6_takes_37 rfl rfl ?_
    refine gX6_7 (q := 41) dX6_takes_38 rfl ?_
    refine r_iload_n (q := 42) dX6_takes_41 rfl rfl ?_
    refine r_ialdVM (q := 43) hV hI dX6_takes_42 rfl LA34 rfl rfl (by decide) (by omega) ?_
    refine r_icmp_geN (t := 95) (q := 46) dX6_takes_43 (by decide) rfl (by omega) (by have := bd hI 34 d 24 rfl rfl; omega) (fun c43 => absurd c43 (by omega)) (fun c43 => ?_)
    refine r_iconst (q := 47) (v := nI 0) dX6_takes_46 rfl (by decide) ?_
    refine r_istore (q := 49) dX6_takes_47 rfl (Nat.le_of_ble_eq_true rfl) ?_
    refine l_X6_takes1 hF h20 hn hd (m := m) (by omega) (fun τ hV1 => ?_) (cls V w) 0 _ hV (by omega)
    refine r_iinc (q := 92) (v := nI (m + 1)) dX6_takes_89 rfl rfl (by rw [show Int32.ofInt 1 = nI 1 from rfl]; exact nI_add _ _) ?_
    refine r_goto (q := 35) dX6_takes_92 (by decide) ?_
    exact ih (m + 1) _ _ hV1 (by omega)
set_option maxRecDepth 100000 in
set_option maxHeartbeats 4000000 in
theorem c_X6_takes (σ V : St) (hV : vwM σ = V) (hF : WF V) (w d b : Int32) : Cl LAY yX6_takes cX6_takes 7 (some .int) 3 77 [.ref 33, .int w, .int d, .int b] σ (EI (fun v τ => v = resO (cTakes V w d b) (nI (tkM V w.toNatClampNeg d.toNatClampNeg b (nv V 34 d.toNatClampNeg))) ∧ vwM τ = stO (cTakes V w d b) V (rfM V (cTakes V w d b)))) := by
  have hI := hF.1
  have hnw := bd hI 33 19 20 rfl rfl
  have hnb := bd hI 33 7 40 rfl rfl
  refine Cl.of 3 rfl rfl EI.ok ?_
  show Rn LAY none RX6 _ _ _ _ 0 [some (.ref 33), some (.int w), some (.int d), some (.int b), none, none, none] [] _ _
  refine r_aload_n (q := 1) dX6_takes_0 rfl rfl ?_
  refine r_iload_n (q := 2) dX6_takes_1 rfl rfl ?_
  refine r_cI1 (q := 5) vX6_194 dX6_takes_2 rfl LYX6 rfl (Nat.le_of_ble_eq_true rfl) (by decide) (by decide) (c_X6_isWindow _ V hV hI _) ?_
  rintro _ _ ⟨rfl, rfl⟩
  refine r_if_eqN (t := 23) (q := 8) dX6_takes_5 (by decide) rfl (by have := ix_le w (nv V 33 19); omega) (fun c5 => ?_) (fun c5 => ?_)
  · refine r_aload_n (q := 24) dX6_takes_23 rfl rfl ?_
    refine r_iconst (q := 25) (v := -1) dX6_takes_24 rfl (by decide) ?_
    refine r_cI1 (q := 28) vX6_111 dX6_takes_25 rfl LYX6 rfl (Nat.le_of_ble_eq_true rfl) (by decide) (by decide) (c_X6_refuse _ V hV (-1) 1 rfl (by decide)) ?_
    rintro _ τ ⟨rfl, hR⟩
    exact r_retI dX6_takes_28 (eo_bad (by simp [cTakes, *]) (by decide) hR)
  · obtain ⟨w, hw, rfl⟩ := ix_of c5
    have hwc := nI_clamp (n := w) (by omega)
    refine r_iload_n (q := 9) dX6_takes_8 rfl rfl ?_
    refine r_sI1 (q := 12) vX6_107 dX6_takes_9 rfl (Nat.le_of_ble_eq_true rfl) (by decide) (by decide) (c_X6_isDay _ _) ?_
    rintro _ _ ⟨rfl, rfl⟩
    refine r_if_eqN (t := 23) (q := 15) dX6_takes_12 (by decide) rfl (by have := ix_le d 8; omega) (fun c12 => ?_) (fun c12 => ?_)
    · refine r_aload_n (q := 24) dX6_takes_23 rfl rfl ?_
      refine r_iconst (q := 25) (v := -1) dX6_takes_24 rfl (by decide) ?_
      refine r_cI1 (q := 28) vX6_111 dX6_takes_25 rfl LYX6 rfl (Nat.le_of_ble_eq_true rfl) (by decide) (by decide) (c_X6_refuse _ V hV (-1) 1 rfl (by decide)) ?_
      rintro _ τ ⟨rfl, hR⟩
      exact r_retI dX6_takes_28 (eo_bad (by simp [cTakes, *]) (by decide) hR)
    · obtain ⟨d, hd, rfl⟩ := ix_of c12
      have hdc := nI_clamp (n := d) (by omega)
      refine r_aload_n (q := 16) dX6_takes_15 rfl rfl ?_
      refine r_iload_n (q := 17) dX6_takes_16 rfl rfl ?_
      refine r_cI1 (q := 20) vX6_115 dX6_takes_17 rfl LYX6 rfl (Nat.le_of_ble_eq_true rfl) (by decide) (by decide) (c_X6_isBlock _ V hV hI _) ?_
      rintro _ _ ⟨rfl, rfl⟩
      refine r_if_neN (t := 29) (q := 23) dX6_takes_20 (by decide) rfl (by have := ix_le b (nv V 33 7); omega) (fun c20 => ?_) (fun c20 => ?_)
      · obtain ⟨b, hb, rfl⟩ := ix_of c20
        have hbc := nI_clamp (n := b) (by omega)
        refine r_iconst (q := 30) (v := nI 0) dX6_takes_29 rfl (by decide) ?_
        refine r_istore (q := 32) dX6_takes_30 rfl (Nat.le_of_ble_eq_true rfl) ?_
        refine r_iconst (q := 33) (v := nI 0) dX6_takes_32 rfl (by decide) ?_
        refine r_istore (q := 35) dX6_takes_33 rfl (Nat.le_of_ble_eq_true rfl) ?_
        refine (l_X6_takes hF (b := b) (by omega) hw hd (nv V 34 d) 0 _ none hV (by omega)).mono ?_
        rintro r τ ⟨v, rfl, rfl, h⟩
        exact ⟨_, rfl, eo_ok (by simp [cTakes, *]) (by rw [hwc, hdc]) h⟩
      · refine r_aload_n (q := 24) dX6_takes_23 rfl rfl ?_
        refine r_iconst (q := 25) (v := -1) dX6_takes_24 rfl (by decide) ?_
        refine r_cI1 (q := 28) vX6_111 dX6_takes_25 rfl LYX6 rfl (Nat.le_of_ble_eq_true rfl) (by decide) (by decide) (c_X6_refuse _ V hV (-1) 1 rfl (by decide)) ?_
        rintro _ τ ⟨rfl, hR⟩
        exact r_retI dX6_takes_28 (eo_bad (by simp [cTakes, *]) (by decide) hR)
set_option maxRecDepth 100000 in
set_option maxHeartbeats 4000000 in
theorem c_X6_think (σ V : St) (hV : vwM σ = V) (x t : Int32) : Cl LAY yX6_think cX6_think 3 (none) 0 0 [.ref 33, .int x, .int t] σ (EV (fun τ => vwM τ = thk V x t)) := by
  refine Cl.of 0 rfl rfl EV.ok ?_
  show Rn LAY none RX6 _ _ _ _ 0 [some (.ref 33), some (.int x), some (.int t)] [] _ _
  refine r_aload_n (q := 1) dX6_think_0 rfl rfl ?_
  refine r_iload_n (q := 2) dX6_think_1 rfl rfl ?_
  refine ppX6_90 (q := 5) hV dX6_think_2 rfl (fun s2 hV2 => ?_)
  refine r_aload_n (q := 6) dX6_think_5 rfl rfl ?_
  refine r_iload_n (q := 7) dX6_think_6 rfl rfl ?_
  refine ppX6_121 (q := 10) hV2 dX6_think_7 rfl (fun s7 hV7 => ?_)
  exact r_retV dX6_think_10 hV7
set_option maxRecDepth 100000 in
set_option maxHeartbeats 4000000 in
theorem c_X6_loss (σ V : St) (hV : vwM σ = V) (hF : WF V) (h29 : V 33 29 = -1) (h30 : V 33 30 = nI 0) (b w d : Int32) : Cl LAY yX6_loss cX6_loss 7 (some .int) 5 124 [.ref 33, .int b, .int w, .int d] σ (EI (fun v τ => v = resB (cLoss V b w d) (nI (hoursN V w.toNatClampNeg d.toNatClampNeg) - nI (hoursN (thk V b (nI (nv V 45 b.toNatClampNeg))) w.toNatClampNeg d.toNatClampNeg)) ∧ vwM τ = stO (cLoss V b w d) V (rfM V (cLoss V b w d)))) := by
  have hI := hF.1
  have hnw := bd hI 33 19 20 rfl rfl
  have hnb := bd hI 33 7 40 rfl rfl
  refine Cl.of 3 rfl rfl EI.ok ?_
  show Rn LAY none RX6 _ _ _ _ 0 [some (.ref 33), some (.int b), some (.int w), some (.int d), none, none, none] [] _ _
  refine r_aload_n (q := 1) dX6_loss_0 rfl rfl ?_
  refine r_iload_n (q := 2) dX6_loss_1 rfl rfl ?_
  refine r_cI1 (q := 5) vX6_115 dX6_loss_2 rfl LYX6 rfl (Nat.le_of_ble_eq_true rfl) (by decide) (by decide) (c_X6_isBlock _ V hV hI _) ?_
  rintro _ _ ⟨rfl, rfl⟩
  refine r_if_eqN (t := 23) (q := 8) dX6_loss_5 (by decide) rfl (by have := ix_le b (nv V 33 7); omega) (fun c5 => ?_) (fun c5 => ?_)
  · refine r_aload_n (q := 24) dX6_loss_23 rfl rfl ?_
    refine r_iconst (q := 25) (v := -1) dX6_loss_24 rfl (by decide) ?_
    refine r_cI1 (q := 28) vX6_203 dX6_loss_25 rfl LYX6 rfl (Nat.le_of_ble_eq_true rfl) (by decide) (by decide) (c_X6_refuseBig _ V hV (-1) 1 rfl (by decide)) ?_
    rintro _ τ ⟨rfl, hR⟩
    exact r_retI dX6_loss_28 (eb_bad (by simp only [cLoss]; simp [lack, *]) (by decide) hR)
  · obtain ⟨b, hb, rfl⟩ := ix_of c5
    have hbc := nI_clamp (n := b) (by omega)
    refine r_aload_n (q := 9) dX6_loss_8 rfl rfl ?_
    refine r_iload_n (q := 10) dX6_loss_9 rfl rfl ?_
    refine r_cI1 (q := 13) vX6_194 dX6_loss_10 rfl LYX6 rfl (Nat.le_of_ble_eq_true rfl) (by decide) (by decide) (c_X6_isWindow _ V hV hI _) ?_
    rintro _ _ ⟨rfl, rfl⟩
    refine r_if_eqN (t := 23) (q := 16) dX6_loss_13 (by decide) rfl (by have := ix_le w (nv V 33 19); omega) (fun c13 => ?_) (fun c13 => ?_)
    · refine r_aload_n (q := 24) dX6_loss_23 rfl rfl ?_
      refine r_iconst (q := 25) (v := -1) dX6_loss_24 rfl (by decide) ?_
      refine r_cI1 (q := 28) vX6_203 dX6_loss_25 rfl LYX6 rfl (Nat.le_of_ble_eq_true rfl) (by decide) (by decide) (c_X6_refuseBig _ V hV (-1) 1 rfl (by decide)) ?_
      rintro _ τ ⟨rfl, hR⟩
      exact r_retI dX6_loss_28 (eb_bad (by simp only [cLoss]; simp [lack, *]) (by decide) hR)
    · obtain ⟨w, hw, rfl⟩ := ix_of c13
      have hwc := nI_clamp (n := w) (by omega)
      refine r_iload_n (q := 17) dX6_loss_16 rfl rfl ?_
      refine r_sI1 (q := 20) vX6_107 dX6_loss_17 rfl (Nat.le_of_ble_eq_true rfl) (by decide) (by decide) (c_X6_isDay _ _) ?_
      rintro _ _ ⟨rfl, rfl⟩
      refine r_if_neN (t := 29) (q := 23) dX6_loss_20 (by decide) rfl (by have := ix_le d 8; omega) (fun c20 => ?_) (fun c20 => ?_)
      · obtain ⟨d, hd, rfl⟩ := ix_of c20
        have hdc := nI_clamp (n := d) (by omega)
        refine r_aload_n (q := 30) dX6_loss_29 rfl rfl ?_
        refine r_iload_n (q := 31) dX6_loss_30 rfl rfl ?_
        refine r_cI1 (q := 34) vX6_118 dX6_loss_31 rfl LYX6 rfl (Nat.le_of_ble_eq_true rfl) (by decide) (by decide) (c_X6_lackOfPlan _ V hV hI _) ?_
        rintro _ _ ⟨rfl, rfl⟩
        refine r_istore (q := 36) dX6_loss_34 rfl (Nat.le_of_ble_eq_true rfl) ?_
        refine r_iload (q := 38) dX6_loss_36 rfl rfl ?_
        refine r_if_ge (t := 48) (q := 41) dX6_loss_38 (by decide) rfl (fun c38 => ?_) (fun c38 => ?_)
        · have h0 := lack_pos c38
          refine r_aload_n (q := 49) dX6_loss_48 rfl rfl ?_
          refine r_iload_n (q := 50) dX6_loss_49 rfl rfl ?_
          refine r_iload_n (q := 51) dX6_loss_50 rfl rfl ?_
          refine r_cI2 (q := 54) vX6_190 dX6_loss_51 rfl LYX6 rfl (Nat.le_of_ble_eq_true rfl) (by decide) (by decide) (c_X6_hoursOf _ V hV hF w d (by omega) hw hd) ?_
          rintro _ τ ⟨rfl, hV1⟩
          refine r_istore (q := 56) dX6_loss_54 rfl (Nat.le_of_ble_eq_true rfl) ?_
          refine r_aload_n (q := 57) dX6_loss_56 rfl rfl ?_
          refine r_iload_n (q := 58) dX6_loss_57 rfl rfl ?_
          refine r_aload_n (q := 59) dX6_loss_58 rfl rfl ?_
          refine gX6_47 (q := 62) dX6_loss_59 rfl ?_
          refine r_iload_n (q := 63) dX6_loss_62 rfl rfl ?_
          refine r_ialdVM (q := 64) hV1 hI dX6_loss_63 rfl LA45 rfl rfl (by decide) (by omega) ?_
          refine r_cV2 (q := 67) vX6_206 dX6_loss_64 rfl LYX6 rfl (Nat.le_of_ble_eq_true rfl) (by decide) (by decide) (c_X6_think _ V hV1 _ _) ?_
          rintro τ hV2
          have hF2 : WF (thk V (nI b) (nI (nv V 45 b))) := thk_WF hF (nI b) (bd hI 45 b 200 rfl rfl)
          have hw2 : w < nv (thk V (nI b) (nI (nv V 45 b))) 33 19 := hw
          refine r_aload_n (q := 68) dX6_loss_67 rfl rfl ?_
          refine r_iload_n (q := 69) dX6_loss_68 rfl rfl ?_
          refine r_iload_n (q := 70) dX6_loss_69 rfl rfl ?_
          refine r_cI2 (q := 73) vX6_190 dX6_loss_70 rfl LYX6 rfl (Nat.le_of_ble_eq_true rfl) (by decide) (by decide) (c_X6_hoursOf _ _ hV2 hF2 w d (by omega) hw2 hd) ?_
          rintro _ τ ⟨rfl, hV3⟩
          refine r_istore (q := 75) dX6_loss_73 rfl (Nat.le_of_ble_eq_true rfl) ?_
          refine r_aload_n (q := 76) dX6_loss_75 rfl rfl ?_
          refine r_iconst (q := 77) (v := -1) dX6_loss_76 rfl (by decide) ?_
          refine r_iconst (q := 78) (v := nI 0) dX6_loss_77 rfl (by decide) ?_
          refine r_cV2 (q := 81) vX6_206 dX6_loss_78 rfl LYX6 rfl (Nat.le_of_ble_eq_true rfl) (by decide) (by decide) (c_X6_think _ _ hV3 _ _) ?_
          rintro τ hV4
          rw [thk_back h29 h30] at hV4
          refine r_iload (q := 83) dX6_loss_81 rfl rfl ?_
          refine r_iload (q := 85) dX6_loss_83 rfl rfl ?_
          refine r_isub (q := 86) dX6_loss_85 rfl ?_
          exact r_retI dX6_loss_86 (eb_ok (by simp [cLoss, *]) (by rw [hwc, hdc, hbc]) hV4)
        · obtain ⟨j, hj7, hj, hne⟩ := lack_neg c38
          refine r_aload_n (q := 42) dX6_loss_41 rfl rfl ?_
          refine r_iload (q := 44) dX6_loss_42 rfl rfl ?_
          refine r_cI1 (q := 47) vX6_203 dX6_loss_44 rfl LYX6 rfl (Nat.le_of_ble_eq_true rfl) (by decide) (by decide) (c_X6_refuseBig _ V hV _ j hj hj7) ?_
          rintro _ τ ⟨rfl, hR⟩
          exact r_retI dX6_loss_47 (eb_bad (by simp [cLoss, *]) hne hR)
      · refine r_aload_n (q := 24) dX6_loss_23 rfl rfl ?_
        refine r_iconst (q := 25) (v := -1) dX6_loss_24 rfl (by decide) ?_
        refine r_cI1 (q := 28) vX6_203 dX6_loss_25 rfl LYX6 rfl (Nat.le_of_ble_eq_true rfl) (by decide) (by decide) (c_X6_refuseBig _ V hV (-1) 1 rfl (by decide)) ?_
        rintro _ τ ⟨rfl, hR⟩
        exact r_retI dX6_loss_28 (eb_bad (by simp only [cLoss]; simp [lack, *]) (by decide) hR)
def askN (V : St) (w : Nat) : Nat := if kept V w = 0 then 0 else if fallI V w = -9 then 1 else 0
def askW (V : St) (n : Nat) : St := fun k i => if k = 59 ∧ i < n then nI (askN V i) else V k i
def askV (V : St) : St := askW V (nv V 33 19)
theorem askW_at (V : St) (n k i : Nat) (h : ¬ k = 59) : askW V n k i = V k i := if_neg (fun e => h e.1)
theorem askW_row (V : St) (n k : Nat) (h : ¬ k = 59) : askW V n k = V k := funext fun i => askW_at V n k i h
theorem askW_nv (V : St) (n k i : Nat) (h : ¬ k = 59) : nv (askW V n) k i = nv V k i := by unfold nv; rw [askW_at V n k i h]
theorem askW_GEo (V : St) (n : Nat) : GEo V (askW V n) := by
  unfold GEo
  refine ⟨?_, ?_, ?_, ?_, ?_, ?_, ?_, ?_, ?_, ?_, ?_, ?_, ?_, ?_, ?_, ?_, ?_, ?_⟩ <;> first | exact askW_at V n _ _ (by decide) | exact askW_row V n _ (by decide)
theorem askW_GEw (V : St) (n w : Nat) : GEw V (askW V n) w := by
  unfold GEw
  refine ⟨?_, ?_, ?_, ?_, ?_, ?_⟩ <;> exact askW_at V n _ _ (by decide)
theorem askN_le (V : St) (w : Nat) : askN V w ≤ 1 := by unfold askN; (repeat' split); all_goals omega
theorem askW_WF {V : St} (hF : WF V) (n : Nat) : WF (askW V n) := by
  obtain ⟨hI, hW, hG⟩ := hF
  refine ⟨fun k i hn => ?_, fun w => ?_, fun k => ?_, fun d m hd hm => ?_⟩
  · by_cases h : k = 59 ∧ i < n
    · have e : askW V n k i = nI (askN V i) := if_pos h
      have hle := askN_le V i
      have e2 : nv (askW V n) k i = askN V i := by unfold nv; rw [e]; exact nI_clamp (by omega)
      rw [e, e2]
      refine ⟨rfl, ?_⟩
      rw [h.1]
      exact hle
    · have e : askW V n k i = V k i := if_neg h
      have e2 : nv (askW V n) k i = nv V k i := by unfold nv; rw [e]
      rw [e, e2]
      exact hI k i hn
  · have := hW w
    simp only [cls, askW_nv V n 52 w (by decide), askW_nv V n 53 w (by decide), askW_nv V n 54 w (by decide), askW_nv V n 55 w (by decide), askW_nv V n 33 19 (by decide)]
    exact this
  · rw [askW_at V n 35 k (by decide), askW_at V n 36 k (by decide)]
    exact hG.1 k
  · rw [askW_nv V n 34 d (by decide)] at hm
    rw [askW_nv V n 37 _ (by decide)]
    exact hG.2 d m hd hm
theorem askW_kept (V : St) (n w : Nat) : kept (askW V n) w = kept V w := by
  unfold kept nv
  rw [askW_at V n 56 w (by decide), askW_at V n 57 w (by decide)]
theorem askW_fall (V : St) (n w : Nat) : fallI (askW V n) w = fallI V w := fallI_c (askW_GEo V n) (askW_GEw V n w) (askW_row V n 38 (by decide))
theorem askW_0 (V : St) : askW V 0 = V := by
  funext k i
  exact if_neg (by omega)
theorem askW_s (V : St) (n : Nat) {x : Int32} (hx : x = nI (askN V n)) : wr (askW V n) 59 n x = askW V (n + 1) := by
  funext k i
  rw [wr_at, hx]
  unfold askW
  by_cases h1 : k = 59 ∧ i = n
  · rw [if_pos h1, if_pos (by omega), h1.2]
  · rw [if_neg h1]
    by_cases h2 : k = 59 ∧ i < n
    · rw [if_pos h2, if_pos (by omega)]
    · rw [if_neg h2, if_neg (by omega)]
set_option maxRecDepth 100000 in
set_option maxHeartbeats 4000000 in
theorem l_X6_ask {V : St} (hF : WF V) : ∀ (n w : Nat) (σ : St), vwM σ = askW V w → w + n = nv V 33 19 → Rn LAY none RX6 cX6_ask 2 6 146 2 [some (.ref 33), some (.int (nI w))] [] σ (EV (fun τ => vwM τ = askV V)) := by
  have hnw := bd hF.1 33 19 20 rfl rfl
  intro n
  induction n with
  | zero =>
    intro w σ hV hb
    have hI := (askW_WF hF w).1
    have hnv : nv (askW V w) 33 19 = nv V 33 19 := askW_nv V w 33 19 (by decide)
    refine r_iload_n (q := 3) dX6_ask_2 rfl rfl ?_
    refine r_aload_n (q := 4) dX6_ask_3 rfl rfl ?_
    refine gvX6_104 (q := 7) hV hI dX6_ask_4 rfl ?_
    refine r_icmp_geN (t := 45) (q := 10) dX6_ask_7 (by decide) rfl (by omega) (by rw [hnv]; omega) (fun c7 => ?_) (fun c7 => absurd (by rw [hnv]; omega) c7)
    exact r_retV dX6_ask_45 (by rw [hV, askV, show w = nv V 33 19 by omega])
  | succ n ih =>
    intro w σ hV hb
    have hI := (askW_WF hF w).1
    have hnv : nv (askW V w) 33 19 = nv V 33 19 := askW_nv V w 33 19 (by decide)
    refine r_iload_n (q := 3) dX6_ask_2 rfl rfl ?_
    refine r_aload_n (q := 4) dX6_ask_3 rfl rfl ?_
    refine gvX6_104 (q := 7) hV hI dX6_ask_4 rfl ?_
    refine r_icmp_geN (t := 45) (q := 10) dX6_ask_7 (by decide) rfl (by omega) (by rw [hnv]; omega) (fun c7 => absurd c7 (by rw [hnv]; omega)) (fun c7 => ?_)
    refine r_aload_n (q := 11) dX6_ask_10 rfl rfl ?_
    refine gX6_93 (q := 14) dX6_ask_11 rfl ?_
    refine r_iload_n (q := 15) dX6_ask_14 rfl rfl ?_
    refine r_aload_n (q := 16) dX6_ask_15 rfl rfl ?_
    refine r_iload_n (q := 17) dX6_ask_16 rfl rfl ?_
    refine r_cI1 (q := 20) vX6_210 dX6_ask_17 rfl LYX6 rfl (Nat.le_of_ble_eq_true rfl) (by decide) (by decide) (c_X6_isKept _ _ hV hI w (by omega)) ?_
    rintro _ _ ⟨rfl, rfl⟩
    rw [askW_kept]
    refine r_if_eqN (t := 37) (q := 23) dX6_ask_20 (by decide) rfl (by have := kept_le V w; omega) (fun c20 => ?_) (fun c20 => ?_)
    · refine r_iconst (q := 38) (v := nI 0) dX6_ask_37 rfl (by decide) ?_
      refine r_zastPM (q := 39) hV dX6_ask_38 rfl LA59 rfl (by omega) (by decide) (by first | exact Or.inl rfl | exact Or.inr rfl) (fun s38 hV38 => ?_)
      refine r_iinc (q := 42) (v := nI (w + 1)) dX6_ask_39 rfl rfl (by rw [show Int32.ofInt 1 = nI 1 from rfl]; exact nI_add _ _) ?_
      refine r_goto (q := 2) dX6_ask_42 (by decide) ?_
      rw [askW_s V w (by rw [askN, if_pos c20])] at hV38
      exact ih (w + 1) _ hV38 (by omega)
    · refine r_aload_n (q := 24) dX6_ask_23 rfl rfl ?_
      refine r_iload_n (q := 25) dX6_ask_24 rfl rfl ?_
      refine r_cI1 (q := 28) vX6_213 dX6_ask_25 rfl LYX6 rfl (Nat.le_of_ble_eq_true rfl) (by decide) (by decide) (c_X6_fallsOn _ _ hV (askW_WF hF w) w (by omega) (by rw [hnv]; omega)) ?_
      rintro _ τ ⟨rfl, hV1⟩
      rw [askW_fall]
      refine r_bipush (q := 30) (v := -9) dX6_ask_28 rfl (by decide) ?_
      refine r_icmp_ne (t := 37) (q := 33) dX6_ask_30 (by decide) rfl (fun c30 => ?_) (fun c30 => ?_)
      · refine r_iconst (q := 38) (v := nI 0) dX6_ask_37 rfl (by decide) ?_
        refine r_zastPM (q := 39) hV1 dX6_ask_38 rfl LA59 rfl (by omega) (by decide) (by first | exact Or.inl rfl | exact Or.inr rfl) (fun s38 hV38 => ?_)
        refine r_iinc (q := 42) (v := nI (w + 1)) dX6_ask_39 rfl rfl (by rw [show Int32.ofInt 1 = nI 1 from rfl]; exact nI_add _ _) ?_
        refine r_goto (q := 2) dX6_ask_42 (by decide) ?_
        rw [askW_s V w (by rw [askN, if_neg c20, if_neg c30])] at hV38
        exact ih (w + 1) _ hV38 (by omega)
      · refine r_iconst (q := 34) (v := nI 1) dX6_ask_33 rfl (by decide) ?_
        refine r_goto (q := 38) dX6_ask_34 (by decide) ?_
        refine r_zastPM (q := 39) hV1 dX6_ask_38 rfl LA59 rfl (by omega) (by decide) (by first | exact Or.inl rfl | exact Or.inr rfl) (fun s38 hV38 => ?_)
        refine r_iinc (q := 42) (v := nI (w + 1)) dX6_ask_39 rfl rfl (by rw [show Int32.ofInt 1 = nI 1 from rfl]; exact nI_add _ _) ?_
        refine r_goto (q := 2) dX6_ask_42 (by decide) ?_
        rw [askW_s V w (by rw [askN, if_neg c20, if_pos c30])] at hV38
        exact ih (w + 1) _ hV38 (by omega)
set_option maxRecDepth 100000 in
set_option maxHeartbeats 4000000 in
theorem c_X6_ask (σ V : St) (hV : vwM σ = V) (hF : WF V) : Cl LAY yX6_ask cX6_ask 2 (none) 6 146 [.ref 33] σ (EV (fun τ => vwM τ = askV V)) := by
  refine Cl.of 1 rfl rfl EV.ok ?_
  show Rn LAY none RX6 _ _ _ _ 0 [some (.ref 33), none] [] _ _
  refine r_iconst (q := 1) (v := nI 0) dX6_ask_0 rfl (by decide) ?_
  refine r_istore_n (q := 2) dX6_ask_1 rfl (Nat.le_of_ble_eq_true rfl) ?_
  exact l_X6_ask hF (nv V 33 19) 0 _ (by rw [askW_0]; exact hV) (by omega)
def brF (V : St) : Nat → Nat → Int32
  | _, 0 => -9
  | w, n + 1 => if nv V 59 w = 0 then brF V (w + 1) n else if fallI V w = -9 then brF V (w + 1) n else nI (8 * w) + fallI V w
theorem br_ne {V : St} {w : Nat} (hw : w < 1000) (h : ¬ fallI V w = -9) : ¬ nI (8 * w) + fallI V w = -9 := by
  rcases fallI_cases V w with e | ⟨d, hd, e⟩
  · exact absurd e h
  · rw [e, nI_add]
    intro q
    have h2 : (nI (8 * w + d)).toInt = (-9 : Int32).toInt := by rw [q]
    rw [nI_toInt (by omega)] at h2
    have : (-9 : Int32).toInt = -9 := rfl
    omega
def brI (V : St) (b t : Int32) : Int32 := brF (thk V b t) 0 (nv V 33 19)
set_option maxRecDepth 100000 in
set_option maxHeartbeats 4000000 in
theorem l_X6_fbx {V : St} (h29 : V 33 29 = -1) (h30 : V 33 30 = nI 0) {b t : Nat} (hF : WF (thk V (nI b) (nI t))) {w : Nat} {x : Int32} {z5 : Option Value} {σ : St} (hw : w ≤ 20) (hV : vwM σ = (thk V (nI b) (nI t))) (hx : ¬ x = -9) : Rn LAY none RX6 cX6_firstBreach 6 6 146 12 [some (.ref 33), some (.int (nI b)), some (.int (nI t)), some (.int x), some (.int (nI w)), z5] [] σ (EI (fun v τ => v = x ∧ vwM τ = V)) := by
  have hI := hF.1
  refine r_iload (q := 14) dX6_firstBreach_12 rfl rfl ?_
  refine r_aload_n (q := 15) dX6_firstBreach_14 rfl rfl ?_
  refine gvX6_104 (q := 18) hV hI dX6_firstBreach_15 rfl ?_
  refine r_icmp_geN (t := 77) (q := 21) dX6_firstBreach_18 (by decide) rfl (by omega) (by have := nv_lt (thk V (nI b) (nI t)) 33 19; omega) (fun c18 => ?_) (fun c18 => ?_)
  · refine r_aload_n (q := 78) dX6_firstBreach_77 rfl rfl ?_
    refine r_iconst (q := 79) (v := -1) dX6_firstBreach_78 rfl (by decide) ?_
    refine r_iconst (q := 80) (v := nI 0) dX6_firstBreach_79 rfl (by decide) ?_
    refine r_cV2 (q := 83) vX6_206 dX6_firstBreach_80 rfl LYX6 rfl (Nat.le_of_ble_eq_true rfl) (by decide) (by decide) (c_X6_think _ _ hV _ _) ?_
    rintro τ hV4
    rw [thk_back h29 h30] at hV4
    refine r_iload_n (q := 84) dX6_firstBreach_83 rfl rfl ?_
    exact r_retI dX6_firstBreach_84 ⟨rfl, hV4⟩
  · refine r_iload_n (q := 22) dX6_firstBreach_21 rfl rfl ?_
    refine r_bipush (q := 24) (v := -9) dX6_firstBreach_22 rfl (by decide) ?_
    refine r_icmp_ne (t := 77) (q := 27) dX6_firstBreach_24 (by decide) rfl (fun c24 => ?_) (fun c24 => absurd c24 hx)
    refine r_aload_n (q := 78) dX6_firstBreach_77 rfl rfl ?_
    refine r_iconst (q := 79) (v := -1) dX6_firstBreach_78 rfl (by decide) ?_
    refine r_iconst (q := 80) (v := nI 0) dX6_firstBreach_79 rfl (by decide) ?_
    refine r_cV2 (q := 83) vX6_206 dX6_firstBreach_80 rfl LYX6 rfl (Nat.le_of_ble_eq_true rfl) (by decide) (by decide) (c_X6_think _ _ hV _ _) ?_
    rintro τ hV4
    rw [thk_back h29 h30] at hV4
    refine r_iload_n (q := 84) dX6_firstBreach_83 rfl rfl ?_
    exact r_retI dX6_firstBreach_84 ⟨rfl, hV4⟩
set_option maxRecDepth 100000 in
set_option maxHeartbeats 4000000 in
theorem l_X6_firstBreach {V : St} (h29 : V 33 29 = -1) (h30 : V 33 30 = nI 0) {b t : Nat} (hF : WF (thk V (nI b) (nI t))) (hn : nv (thk V (nI b) (nI t)) 33 19 ≤ 20) : ∀ (n w : Nat) (σ : St) (z5 : Option Value), vwM σ = (thk V (nI b) (nI t)) → w + n = nv (thk V (nI b) (nI t)) 33 19 → Rn LAY none RX6 cX6_firstBreach 6 6 146 12 [some (.ref 33), some (.int (nI b)), some (.int (nI t)), some (.int (-9)), some (.int (nI w)), z5] [] σ (EI (fun v τ => v = brF (thk V (nI b) (nI t)) w n ∧ vwM τ = V)) := by
  have hI := hF.1
  intro n
  induction n with
  | zero =>
    intro w σ z5 hV hb
    refine r_iload (q := 14) dX6_firstBreach_12 rfl rfl ?_
    refine r_aload_n (q := 15) dX6_firstBreach_14 rfl rfl ?_
    refine gvX6_104 (q := 18) hV hI dX6_firstBreach_15 rfl ?_
    refine r_icmp_geN (t := 77) (q := 21) dX6_firstBreach_18 (by decide) rfl (by omega) (by omega) (fun c18 => ?_) (fun c18 => absurd (by omega) c18)
    refine r_aload_n (q := 78) dX6_firstBreach_77 rfl rfl ?_
    refine r_iconst (q := 79) (v := -1) dX6_firstBreach_78 rfl (by decide) ?_
    refine r_iconst (q := 80) (v := nI 0) dX6_firstBreach_79 rfl (by decide) ?_
    refine r_cV2 (q := 83) vX6_206 dX6_firstBreach_80 rfl LYX6 rfl (Nat.le_of_ble_eq_true rfl) (by decide) (by decide) (c_X6_think _ _ hV _ _) ?_
    rintro τ hV4
    rw [thk_back h29 h30] at hV4
    refine r_iload_n (q := 84) dX6_firstBreach_83 rfl rfl ?_
    exact r_retI dX6_firstBreach_84 ⟨rfl, hV4⟩
  | succ n ih =>
    intro w σ z5 hV hb
    refine r_iload (q := 14) dX6_firstBreach_12 rfl rfl ?_
    refine r_aload_n (q := 15) dX6_firstBreach_14 rfl rfl ?_
    refine gvX6_104 (q := 18) hV hI dX6_firstBreach_15 rfl ?_
    refine r_icmp_geN (t := 77) (q := 21) dX6_firstBreach_18 (by decide) rfl (by omega) (by omega) (fun c18 => absurd c18 (by omega)) (fun c18 => ?_)
    refine r_iload_n (q := 22) dX6_firstBreach_21 rfl rfl ?_
    refine r_bipush (q := 24) (v := -9) dX6_firstBreach_22 rfl (by decide) ?_
    refine r_icmp_ne (t := 77) (q := 27) dX6_firstBreach_24 (by decide) rfl (fun c24 => absurd rfl c24) (fun c24 => ?_)
    refine r_aload_n (q := 28) dX6_firstBreach_27 rfl rfl ?_
    refine gX6_93 (q := 31) dX6_firstBreach_28 rfl ?_
    refine r_iload (q := 33) dX6_firstBreach_31 rfl rfl ?_
    refine r_zaldVM (q := 34) hV hI dX6_firstBreach_33 rfl LA59 rfl rfl (by decide) (by omega) ?_
    refine r_if_eqN (t := 46) (q := 37) dX6_firstBreach_34 (by decide) rfl (by have := bd hI 59 w 1 rfl rfl; omega) (fun c34 => ?_) (fun c34 => ?_)
    · refine r_bipush (q := 48) (v := -9) dX6_firstBreach_46 rfl (by decide) ?_
      refine r_istore (q := 50) dX6_firstBreach_48 rfl (Nat.le_of_ble_eq_true rfl) ?_
      refine r_iload (q := 52) dX6_firstBreach_50 rfl rfl ?_
      refine r_bipush (q := 54) (v := -9) dX6_firstBreach_52 rfl (by decide) ?_
      refine r_icmp_ne (t := 62) (q := 57) dX6_firstBreach_54 (by decide) rfl (fun c54 => absurd rfl c54) (fun c54 => ?_)
      refine r_bipush (q := 59) (v := -9) dX6_firstBreach_57 rfl (by decide) ?_
      refine r_goto (q := 70) dX6_firstBreach_59 (by decide) ?_
      refine r_istore_n (q := 71) dX6_firstBreach_70 rfl (Nat.le_of_ble_eq_true rfl) ?_
      refine r_iinc (q := 74) (v := nI (w + 1)) dX6_firstBreach_71 rfl rfl (by rw [show Int32.ofInt 1 = nI 1 from rfl]; exact nI_add _ _) ?_
      refine r_goto (q := 12) dX6_firstBreach_74 (by decide) ?_
      refine (ih (w + 1) _ _ hV (by omega)).mono ?_
      rintro r τ2 ⟨v, rfl, rfl, h⟩
      exact ⟨_, rfl, by rw [brF, if_pos c34], h⟩
    · refine r_aload_n (q := 38) dX6_firstBreach_37 rfl rfl ?_
      refine r_iload (q := 40) dX6_firstBreach_38 rfl rfl ?_
      refine r_cI1 (q := 43) vX6_213 dX6_firstBreach_40 rfl LYX6 rfl (Nat.le_of_ble_eq_true rfl) (by decide) (by decide) (c_X6_fallsOn _ _ hV hF w (by omega) (by omega)) ?_
      rintro _ τ ⟨rfl, hV1⟩
      refine r_goto (q := 48) dX6_firstBreach_43 (by decide) ?_
      refine r_istore (q := 50) dX6_firstBreach_48 rfl (Nat.le_of_ble_eq_true rfl) ?_
      refine r_iload (q := 52) dX6_firstBreach_50 rfl rfl ?_
      refine r_bipush (q := 54) (v := -9) dX6_firstBreach_52 rfl (by decide) ?_
      refine r_icmp_ne (t := 62) (q := 57) dX6_firstBreach_54 (by decide) rfl (fun c54 => ?_) (fun c54 => ?_)
      · refine r_bipush (q := 64) (v := nI 8) dX6_firstBreach_62 rfl (by decide) ?_
        refine r_iload (q := 66) dX6_firstBreach_64 rfl rfl ?_
        refine r_imulN (q := 67) dX6_firstBreach_66 rfl ?_
        refine r_iload (q := 69) dX6_firstBreach_67 rfl rfl ?_
        refine r_iadd (q := 70) dX6_firstBreach_69 rfl ?_
        refine r_istore_n (q := 71) dX6_firstBreach_70 rfl (Nat.le_of_ble_eq_true rfl) ?_
        refine r_iinc (q := 74) (v := nI (w + 1)) dX6_firstBreach_71 rfl rfl (by rw [show Int32.ofInt 1 = nI 1 from rfl]; exact nI_add _ _) ?_
        refine r_goto (q := 12) dX6_firstBreach_74 (by decide) ?_
        refine (l_X6_fbx h29 h30 hF (by omega) hV1 (br_ne (by omega) c54)).mono ?_
        rintro r τ2 ⟨v, rfl, rfl, h⟩
        exact ⟨_, rfl, by rw [brF, if_neg c34, if_neg c54], h⟩
      · refine r_bipush (q := 59) (v := -9) dX6_firstBreach_57 rfl (by decide) ?_
        refine r_goto (q := 70) dX6_firstBreach_59 (by decide) ?_
        refine r_istore_n (q := 71) dX6_firstBreach_70 rfl (Nat.le_of_ble_eq_true rfl) ?_
        refine r_iinc (q := 74) (v := nI (w + 1)) dX6_firstBreach_71 rfl rfl (by rw [show Int32.ofInt 1 = nI 1 from rfl]; exact nI_add _ _) ?_
        refine r_goto (q := 12) dX6_firstBreach_74 (by decide) ?_
        refine (ih (w + 1) _ _ hV1 (by omega)).mono ?_
        rintro r τ2 ⟨v, rfl, rfl, h⟩
        exact ⟨_, rfl, by rw [brF, if_neg c34, if_pos c54], h⟩
set_option maxRecDepth 100000 in
set_option maxHeartbeats 4000000 in
theorem c_X6_firstBreach (σ V : St) (hV : vwM σ = V) (hF : WF V) (h29 : V 33 29 = -1) (h30 : V 33 30 = nI 0) (b t : Nat) (ht : t ≤ 200) : Cl LAY yX6_firstBreach cX6_firstBreach 6 (some .int) 6 146 [.ref 33, .int (nI b), .int (nI t)] σ (EI (fun v τ => v = brI V (nI b) (nI t) ∧ vwM τ = V)) := by
  refine Cl.of 3 rfl rfl EI.ok ?_
  show Rn LAY none RX6 _ _ _ _ 0 [some (.ref 33), some (.int (nI b)), some (.int (nI t)), none, none, none] [] _ _
  refine r_aload_n (q := 1) dX6_firstBreach_0 rfl rfl ?_
  refine r_iload_n (q := 2) dX6_firstBreach_1 rfl rfl ?_
  refine r_iload_n (q := 3) dX6_firstBreach_2 rfl rfl ?_
  refine r_cV2 (q := 6) vX6_206 dX6_firstBreach_3 rfl LYX6 rfl (Nat.le_of_ble_eq_true rfl) (by decide) (by decide) (c_X6_think _ V hV _ _) ?_
  rintro τ hV1
  refine r_bipush (q := 8) (v := -9) dX6_firstBreach_6 rfl (by decide) ?_
  refine r_istore_n (q := 9) dX6_firstBreach_8 rfl (Nat.le_of_ble_eq_true rfl) ?_
  refine r_iconst (q := 10) (v := nI 0) dX6_firstBreach_9 rfl (by decide) ?_
  refine r_istore (q := 12) dX6_firstBreach_10 rfl (Nat.le_of_ble_eq_true rfl) ?_
  have hF1 := thk_WF hF (nI b) ht
  exact l_X6_firstBreach h29 h30 hF1 (bd hF.1 33 19 20 rfl rfl) (nv V 33 19) 0 _ none hV1 (Nat.zero_add _)
def hiR (V : St) (b : Int32) : Nat → Nat → Nat → Nat
  | 0, g, _ => g
  | n + 1, g, e => if e - g ≤ 1 then g else if brI V b (nI ((g + e) / 2)) = -9 then hiR V b n ((g + e) / 2) e else hiR V b n g ((g + e) / 2)
set_option maxRecDepth 100000 in
set_option maxHeartbeats 4000000 in
theorem l_X6_high {A : St} (hF : WF A) (h29 : A 33 29 = -1) (h30 : A 33 30 = nI 0) {b : Nat} {x2 : Option Value} : ∀ (n g e : Nat) (σ : St) (z5 : Option Value), vwM σ = A → g < e → e ≤ 201 → e - g ≤ n → Rn LAY none RX6 cX6_high 6 7 171 32 [some (.ref 33), some (.int (nI b)), x2, some (.int (nI g)), some (.int (nI e)), z5] [] σ (EI (fun v τ => v = nI (hiR A (nI b) n g e) ∧ vwM τ = A)) := by
  intro n
  induction n with
  | zero =>
    intro g e σ z5 hV h1 h2 h3
    omega
  | succ n ih =>
    intro g e σ z5 hV h1 h2 h3
    refine r_iload (q := 34) dX6_high_32 rfl rfl ?_
    refine r_iload_n (q := 35) dX6_high_34 rfl rfl ?_
    refine r_isubN (q := 36) dX6_high_35 rfl (by omega) ?_
    refine r_iconst (q := 37) (v := nI 1) dX6_high_36 rfl (by decide) ?_
    refine r_icmp_leN (t := 73) (q := 40) dX6_high_37 (by decide) rfl (by omega) (by omega) (fun c37 => ?_) (fun c37 => ?_)
    · refine r_iload_n (q := 74) dX6_high_73 rfl rfl ?_
      exact r_retI dX6_high_74 ⟨by rw [hiR, if_pos c37], hV⟩
    · refine r_iload_n (q := 41) dX6_high_40 rfl rfl ?_
      refine r_iload (q := 43) dX6_high_41 rfl rfl ?_
      refine r_iaddN (q := 44) dX6_high_43 rfl ?_
      refine r_iconst (q := 45) (v := nI 2) dX6_high_44 rfl (by decide) ?_
      refine r_idivN (q := 46) dX6_high_45 rfl (by omega) (by omega) (by omega) ?_
      refine r_istore (q := 48) dX6_high_46 rfl (Nat.le_of_ble_eq_true rfl) ?_
      refine r_aload_n (q := 49) dX6_high_48 rfl rfl ?_
      refine r_iload_n (q := 50) dX6_high_49 rfl rfl ?_
      refine r_iload (q := 52) dX6_high_50 rfl rfl ?_
      refine r_cI2 (q := 55) vX6_219 dX6_high_52 rfl LYX6 rfl (Nat.le_of_ble_eq_true rfl) (by decide) (by decide) (c_X6_firstBreach _ A hV hF h29 h30 b ((g + e) / 2) (by omega)) ?_
      rintro _ τ ⟨rfl, hV1⟩
      refine r_bipush (q := 57) (v := -9) dX6_high_55 rfl (by decide) ?_
      refine r_icmp_ne (t := 66) (q := 60) dX6_high_57 (by decide) rfl (fun c57 => ?_) (fun c57 => ?_)
      · refine r_iload (q := 68) dX6_high_66 rfl rfl ?_
        refine r_istore (q := 70) dX6_high_68 rfl (Nat.le_of_ble_eq_true rfl) ?_
        refine r_goto (q := 32) dX6_high_70 (by decide) ?_
        refine (ih g ((g + e) / 2) _ _ hV1 (by omega) (by omega) (by omega)).mono ?_
        rintro r τ2 ⟨v, rfl, rfl, h⟩
        exact ⟨_, rfl, by rw [hiR, if_neg c37, if_neg c57], h⟩
      · refine r_iload (q := 62) dX6_high_60 rfl rfl ?_
        refine r_istore_n (q := 63) dX6_high_62 rfl (Nat.le_of_ble_eq_true rfl) ?_
        refine r_goto (q := 70) dX6_high_63 (by decide) ?_
        refine r_goto (q := 32) dX6_high_70 (by decide) ?_
        refine (ih ((g + e) / 2) e _ _ hV1 (by omega) (by omega) (by omega)).mono ?_
        rintro r τ2 ⟨v, rfl, rfl, h⟩
        exact ⟨_, rfl, by rw [hiR, if_neg c37, if_pos c57], h⟩
set_option maxRecDepth 100000 in
set_option maxHeartbeats 4000000 in
theorem c_X6_high (σ V : St) (hV : vwM σ = V) (hF : WF V) (h29 : V 33 29 = -1) (h30 : V 33 30 = nI 0) (b : Int32) : Cl LAY yX6_high cX6_high 6 (some .int) 7 171 [.ref 33, .int b] σ (EI (fun v τ => v = resO (lack V b) (nI (hiR (askV V) b 201 (nv V 44 b.toNatClampNeg) 201)) ∧ vwM τ = stO (lack V b) (askV V) (rfM V (lack V b)))) := by
  have hI := hF.1
  have hnw := bd hI 33 19 20 rfl rfl
  have hnb := bd hI 33 7 40 rfl rfl
  refine Cl.of 4 rfl rfl EI.ok ?_
  show Rn LAY none RX6 _ _ _ _ 0 [some (.ref 33), some (.int b), none, none, none, none] [] _ _
  refine r_aload_n (q := 1) dX6_high_0 rfl rfl ?_
  refine r_iload_n (q := 2) dX6_high_1 rfl rfl ?_
  refine r_cI1 (q := 5) vX6_118 dX6_high_2 rfl LYX6 rfl (Nat.le_of_ble_eq_true rfl) (by decide) (by decide) (c_X6_lackOfPlan _ V hV hI _) ?_
  rintro _ _ ⟨rfl, rfl⟩
  refine r_istore_n (q := 6) dX6_high_5 rfl (Nat.le_of_ble_eq_true rfl) ?_
  refine r_iload_n (q := 7) dX6_high_6 rfl rfl ?_
  refine r_if_ge (t := 16) (q := 10) dX6_high_7 (by decide) rfl (fun c7 => ?_) (fun c7 => ?_)
  · have h0 := lack_pos c7
    obtain ⟨h1, h2, h3, h4⟩ := lack_0 h0
    obtain ⟨b, hb, rfl⟩ := ix_of h1
    have hbc := nI_clamp (n := b) (by omega)
    refine r_aload_n (q := 17) dX6_high_16 rfl rfl ?_
    refine r_cV0 (q := 20) vX6_216 dX6_high_17 rfl LYX6 rfl (Nat.le_of_ble_eq_true rfl) (by decide) (by decide) (c_X6_ask _ V hV hF) ?_
    rintro τ hV1
    refine r_aload_n (q := 21) dX6_high_20 rfl rfl ?_
    refine gX6_44 (q := 24) dX6_high_21 rfl ?_
    refine r_iload_n (q := 25) dX6_high_24 rfl rfl ?_
    refine r_iald (q := 26) dX6_high_25 rfl LA44 (by omega) (by decide) ?_
    refine r_as (y := nI (nv V 44 b)) (by rw [vwM_at hV1 rfl]; exact (askW_at V _ 44 b (by decide)).trans (hI 44 b rfl).1) ?_
    refine r_istore_n (q := 27) dX6_high_26 rfl (Nat.le_of_ble_eq_true rfl) ?_
    refine r_sipush (q := 30) (v := nI 201) dX6_high_27 rfl (by decide) ?_
    refine r_istore (q := 32) dX6_high_30 rfl (Nat.le_of_ble_eq_true rfl) ?_
    have hf := bd hI 44 b 200 rfl rfl
    refine (l_X6_high (askW_WF hF _) h29 h30 201 (nv V 44 b) 201 _ none hV1 (by omega) (by omega) (by omega)).mono ?_
    rintro r τ2 ⟨v, rfl, rfl, h⟩
    exact ⟨_, rfl, eo_ok h0 (by rw [hbc]; rfl) h⟩
  · obtain ⟨j, hj7, hj, hne⟩ := lack_neg c7
    refine r_aload_n (q := 11) dX6_high_10 rfl rfl ?_
    refine r_iload_n (q := 12) dX6_high_11 rfl rfl ?_
    refine r_cI1 (q := 15) vX6_111 dX6_high_12 rfl LYX6 rfl (Nat.le_of_ble_eq_true rfl) (by decide) (by decide) (c_X6_refuse _ V hV _ j hj hj7) ?_
    rintro _ τ ⟨rfl, hR⟩
    exact r_retI dX6_high_15 (eo_bad rfl hne hR)
theorem t_range {t : Int32} {f : Nat} (hf : f ≤ 1000) (h1 : nI f < t) (h2 : t ≤ nI 200) : ∃ j, j ≤ 200 ∧ t = nI j := by
  rw [Int32.lt_iff_toInt_lt, nI_toInt (by omega)] at h1
  rw [Int32.le_iff_toInt_le, nI_toInt (by omega)] at h2
  refine ⟨t.toInt.toNat, by omega, ?_⟩
  apply Int32.toInt_inj.mp
  rw [nI_toInt (by omega)]
  omega
set_option maxRecDepth 100000 in
set_option maxHeartbeats 4000000 in
theorem c_X6_breach (σ V : St) (hV : vwM σ = V) (hF : WF V) (h29 : V 33 29 = -1) (h30 : V 33 30 = nI 0) (b t : Int32) : Cl LAY yX6_breach cX6_breach 4 (some .int) 7 171 [.ref 33, .int b, .int t] σ (EI (fun v τ => v = resB (cBreach V b t) (brI (askV V) b t) ∧ vwM τ = stO (cBreach V b t) (askV V) (rfM V (cBreach V b t)))) := by
  have hI := hF.1
  have hnw := bd hI 33 19 20 rfl rfl
  have hnb := bd hI 33 7 40 rfl rfl
  refine Cl.of 1 rfl rfl EI.ok ?_
  show Rn LAY none RX6 _ _ _ _ 0 [some (.ref 33), some (.int b), some (.int t), none] [] _ _
  refine r_aload_n (q := 1) dX6_breach_0 rfl rfl ?_
  refine r_iload_n (q := 2) dX6_breach_1 rfl rfl ?_
  refine r_cI1 (q := 5) vX6_118 dX6_breach_2 rfl LYX6 rfl (Nat.le_of_ble_eq_true rfl) (by decide) (by decide) (c_X6_lackOfPlan _ V hV hI _) ?_
  rintro _ _ ⟨rfl, rfl⟩
  refine r_istore_n (q := 6) dX6_breach_5 rfl (Nat.le_of_ble_eq_true rfl) ?_
  refine r_iload_n (q := 7) dX6_breach_6 rfl rfl ?_
  refine r_if_ge (t := 14) (q := 10) dX6_breach_7 (by decide) rfl (fun c7 => ?_) (fun c7 => ?_)
  · have h0 := lack_pos c7
    obtain ⟨h1, h2, h3, h4⟩ := lack_0 h0
    obtain ⟨b, hb, rfl⟩ := ix_of h1
    have hbc := nI_clamp (n := b) (by omega)
    refine r_iload_n (q := 15) dX6_breach_14 rfl rfl ?_
    refine r_aload_n (q := 16) dX6_breach_15 rfl rfl ?_
    refine gX6_44 (q := 19) dX6_breach_16 rfl ?_
    refine r_iload_n (q := 20) dX6_breach_19 rfl rfl ?_
    refine r_ialdVM (q := 21) hV hI dX6_breach_20 rfl LA44 rfl rfl (by decide) (by omega) ?_
    refine r_icmp_gt (t := 29) (q := 24) dX6_breach_21 (by decide) rfl (fun c21 => ?_) (fun c21 => ?_)
    · refine r_iload_n (q := 30) dX6_breach_29 rfl rfl ?_
      refine r_sipush (q := 33) (v := nI 200) dX6_breach_30 rfl (by decide) ?_
      refine r_icmp_le (t := 41) (q := 36) dX6_breach_33 (by decide) rfl (fun c33 => ?_) (fun c33 => ?_)
      · have hfb := bd hI 44 b 200 rfl rfl
        obtain ⟨t, ht, rfl⟩ := t_range (Nat.le_trans hfb (by decide)) c21 c33
        refine r_iconst (q := 42) (v := nI 0) dX6_breach_41 rfl (by decide) ?_
        refine r_istore_n (q := 43) dX6_breach_42 rfl (Nat.le_of_ble_eq_true rfl) ?_
        refine r_iload_n (q := 44) dX6_breach_43 rfl rfl ?_
        refine r_if_geN (t := 53) (q := 47) dX6_breach_44 (by decide) rfl (by omega) ?_
        refine r_aload_n (q := 54) dX6_breach_53 rfl rfl ?_
        refine r_cV0 (q := 57) vX6_216 dX6_breach_54 rfl LYX6 rfl (Nat.le_of_ble_eq_true rfl) (by decide) (by decide) (c_X6_ask _ V hV hF) ?_
        rintro τ hV1
        refine r_aload_n (q := 58) dX6_breach_57 rfl rfl ?_
        refine r_iload_n (q := 59) dX6_breach_58 rfl rfl ?_
        refine r_iload_n (q := 60) dX6_breach_59 rfl rfl ?_
        refine r_cI2 (q := 63) vX6_219 dX6_breach_60 rfl LYX6 rfl (Nat.le_of_ble_eq_true rfl) (by decide) (by decide) (c_X6_firstBreach _ _ hV1 (askW_WF hF _) h29 h30 b t ht) ?_
        rintro _ τ ⟨rfl, hV2⟩
        exact r_retI dX6_breach_63 (eb_ok (by rw [cBreach, if_pos h0, hbc, if_neg (Int32.not_le.mpr c21), if_neg (Int32.not_lt.mpr c33)]) rfl hV2)
      · refine r_bipush (q := 38) (v := -6) dX6_breach_36 rfl (by decide) ?_
        refine r_goto (q := 42) dX6_breach_38 (by decide) ?_
        refine r_istore_n (q := 43) dX6_breach_42 rfl (Nat.le_of_ble_eq_true rfl) ?_
        refine r_iload_n (q := 44) dX6_breach_43 rfl rfl ?_
        refine r_if_ge (t := 53) (q := 47) dX6_breach_44 (by decide) rfl (fun c44 => absurd c44 (by decide)) (fun c44 => ?_)
        refine r_aload_n (q := 48) dX6_breach_47 rfl rfl ?_
        refine r_iload_n (q := 49) dX6_breach_48 rfl rfl ?_
        refine r_cI1 (q := 52) vX6_203 dX6_breach_49 rfl LYX6 rfl (Nat.le_of_ble_eq_true rfl) (by decide) (by decide) (c_X6_refuseBig _ V hV (-6) 6 rfl (by decide)) ?_
        rintro _ τ ⟨rfl, hR⟩
        exact r_retI dX6_breach_52 (eb_bad (by rw [cBreach, if_pos h0, hbc, if_neg (Int32.not_le.mpr c21), if_pos (Int32.not_le.mp c33)]) (by decide) hR)
    · refine r_bipush (q := 26) (v := -4) dX6_breach_24 rfl (by decide) ?_
      refine r_goto (q := 42) dX6_breach_26 (by decide) ?_
      refine r_istore_n (q := 43) dX6_breach_42 rfl (Nat.le_of_ble_eq_true rfl) ?_
      refine r_iload_n (q := 44) dX6_breach_43 rfl rfl ?_
      refine r_if_ge (t := 53) (q := 47) dX6_breach_44 (by decide) rfl (fun c44 => absurd c44 (by decide)) (fun c44 => ?_)
      refine r_aload_n (q := 48) dX6_breach_47 rfl rfl ?_
      refine r_iload_n (q := 49) dX6_breach_48 rfl rfl ?_
      refine r_cI1 (q := 52) vX6_203 dX6_breach_49 rfl LYX6 rfl (Nat.le_of_ble_eq_true rfl) (by decide) (by decide) (c_X6_refuseBig _ V hV (-4) 4 rfl (by decide)) ?_
      rintro _ τ ⟨rfl, hR⟩
      exact r_retI dX6_breach_52 (eb_bad (by rw [cBreach, if_pos h0, hbc, if_pos (Int32.not_lt.mp c21)]) (by decide) hR)
  · obtain ⟨j, hj7, hj, hne⟩ := lack_neg c7
    refine r_iload_n (q := 11) dX6_breach_10 rfl rfl ?_
    refine r_goto (q := 42) dX6_breach_11 (by decide) ?_
    refine r_istore_n (q := 43) dX6_breach_42 rfl (Nat.le_of_ble_eq_true rfl) ?_
    refine r_iload_n (q := 44) dX6_breach_43 rfl rfl ?_
    refine r_if_ge (t := 53) (q := 47) dX6_breach_44 (by decide) rfl (fun c44 => absurd c44 c7) (fun c44 => ?_)
    refine r_aload_n (q := 48) dX6_breach_47 rfl rfl ?_
    refine r_iload_n (q := 49) dX6_breach_48 rfl rfl ?_
    refine r_cI1 (q := 52) vX6_203 dX6_breach_49 rfl LYX6 rfl (Nat.le_of_ble_eq_true rfl) (by decide) (by decide) (c_X6_refuseBig _ V hV _ j hj hj7) ?_
    rintro _ τ ⟨rfl, hR⟩
    exact r_retI dX6_breach_52 (eb_bad (by rw [cBreach, if_neg hne]) hne hR)
def relN (V : St) (x : Int32) : Nat := if ix x (nv V 33 19) = 0 then 0 else if nv V 57 x.toNatClampNeg = 0 then 1 else 0
theorem relN_le (V : St) (x : Int32) : relN V x ≤ 1 := by unfold relN; (repeat' split); all_goals omega
def relV (V : St) (x : Int32) (k : Nat) : St := if relN V x = 0 then V else wr V k x.toNatClampNeg (nI 1)
set_option maxRecDepth 100000 in
set_option maxHeartbeats 4000000 in
theorem c_X6_release (σ V : St) (hV : vwM σ = V) (hI : InvN V) (x : Int32) : Cl LAY yX6_release cX6_release 2 (some .boolean) 2 43 [.ref 33, .int x] σ (EI (fun v τ => v = nI (relN V x) ∧ vwM τ = relV V x 57)) := by
  have hnw := bd hI 33 19 20 rfl rfl
  refine Cl.of 0 rfl rfl (EI.okZ (okQ (relN_le _ _))) ?_
  show Rn LAY none RX6 _ _ _ _ 0 [some (.ref 33), some (.int x)] [] _ _
  refine r_aload_n (q := 1) dX6_release_0 rfl rfl ?_
  refine r_iload_n (q := 2) dX6_release_1 rfl rfl ?_
  refine r_cI1 (q := 5) vX6_194 dX6_release_2 rfl LYX6 rfl (Nat.le_of_ble_eq_true rfl) (by decide) (by decide) (c_X6_isWindow _ V hV hI _) ?_
  rintro _ _ ⟨rfl, rfl⟩
  refine r_if_eqN (t := 17) (q := 8) dX6_release_5 (by decide) rfl (by have := ix_le x (nv V 33 19); omega) (fun c5 => ?_) (fun c5 => ?_)
  · refine r_iconst (q := 18) (v := nI 0) dX6_release_17 rfl (by decide) ?_
    have h0 : relN V x = 0 := if_pos c5
    exact r_retI dX6_release_18 ⟨by rw [h0], by rw [relV, if_pos h0]; exact hV⟩
  · obtain ⟨x, hx, rfl⟩ := ix_of c5
    have hxc := nI_clamp (n := x) (by omega)
    refine r_aload_n (q := 9) dX6_release_8 rfl rfl ?_
    refine gX6_84 (q := 12) dX6_release_9 rfl ?_
    refine r_iload_n (q := 13) dX6_release_12 rfl rfl ?_
    refine r_zaldVM (q := 14) hV hI dX6_release_13 rfl LA57 rfl rfl (by decide) (by omega) ?_
    refine r_if_eqN (t := 19) (q := 17) dX6_release_14 (by decide) rfl (by have := bd hI 57 x 1 rfl rfl; omega) (fun c14 => ?_) (fun c14 => ?_)
    · refine r_aload_n (q := 20) dX6_release_19 rfl rfl ?_
      refine gX6_84 (q := 23) dX6_release_20 rfl ?_
      refine r_iload_n (q := 24) dX6_release_23 rfl rfl ?_
      refine r_iconst (q := 25) (v := nI 1) dX6_release_24 rfl (by decide) ?_
      refine r_zastPM (q := 26) hV dX6_release_25 rfl LA57 rfl (by omega) (by decide) (Or.inr rfl) (fun s25 hV25 => ?_)
      refine r_iconst (q := 27) (v := nI 1) dX6_release_26 rfl (by decide) ?_
      have h0 : relN V (nI x) = 1 := (if_neg c5).trans (if_pos (by rw [hxc]; exact c14))
      exact r_retI dX6_release_27 ⟨by rw [h0], by rw [relV, if_neg (by omega), hxc]; exact hV25⟩
    · refine r_iconst (q := 18) (v := nI 0) dX6_release_17 rfl (by decide) ?_
      have h0 : relN V (nI x) = 0 := (if_neg c5).trans (if_neg (by rw [hxc]; exact c14))
      exact r_retI dX6_release_18 ⟨by rw [h0], by rw [relV, if_pos h0]; exact hV⟩
