set_option maxRecDepth 100000 in
set_option maxHeartbeats 4000000 in
theorem l_X5_takes {V : St} (hG : GOOD V) {w d b : Nat} (h20 : w < 20) (hn : w < nv V 33 19) (hd : d < 8) (hb : b < 1000) {r32 : Nat → Int32} : ∀ (n m : Nat) (σ : St), m + n = nv V 34 d → vw σ = V → σ 32 = r32 → Rn LAYC none RX5 cX5_takes 6 3 88 41 [some (.ref 0), some (.int (nI w)), some (.int (nI d)), some (.int (nI b)), some (.int (nI (tkM V w d (nI b) m))), some (.int (nI m))] [] σ (EI (fun v τ => v = nI (tkM V w d (nI b) (nv V 34 d)) ∧ vw τ = V ∧ τ 32 = r32)) := by
  have hI := hG.1.1
  have hR := hG.2
  have hmn := bd hI 34 d 24 rfl rfl
  have hrel := hR.mn d
  intro n
  induction n with
  | zero =>
    intro m σ hm hV h32
    refine r_iload (q := 43) dX5_takes_41 rfl rfl ?_
    refine r_aload_n (q := 44) dX5_takes_43 rfl rfl ?_
    refine gX5_10 (q := 47) dX5_takes_44 rfl ?_
    refine gX5_160 (q := 50) dX5_takes_47 rfl ?_
    refine r_iload_n (q := 51) dX5_takes_50 rfl rfl ?_
    refine r_ialdV (q := 52) hV hI dX5_takes_51 rfl LA2 rfl rfl (by decide) (by omega) ?_
    refine r_icmp_geN (t := 75) (q := 55) dX5_takes_52 (by decide) rfl (by omega) (by omega) (fun c52 => ?_) (fun c52 => absurd (by omega) c52)
    refine r_iload (q := 77) dX5_takes_75 rfl rfl ?_
    exact r_retI dX5_takes_77 ⟨by rw [show nv V 34 d = m by omega], hV, h32⟩
  | succ n ih =>
    intro m σ hm hV h32
    refine r_iload (q := 43) dX5_takes_41 rfl rfl ?_
    refine r_aload_n (q := 44) dX5_takes_43 rfl rfl ?_
    refine gX5_10 (q := 47) dX5_takes_44 rfl ?_
    refine gX5_160 (q := 50) dX5_takes_47 rfl ?_
    refine r_iload_n (q := 51) dX5_takes_50 rfl rfl ?_
    refine r_ialdV (q := 52) hV hI dX5_takes_51 rfl LA2 rfl rfl (by decide) (by omega) ?_
    refine r_icmp_geN (t := 75) (q := 55) dX5_takes_52 (by decide) rfl (by omega) (by omega) (fun c52 => absurd c52 (by omega)) (fun c52 => ?_)
    refine r_iload (q := 57) dX5_takes_55 rfl rfl ?_
    refine r_aload_n (q := 58) dX5_takes_57 rfl rfl ?_
    refine r_iload_n (q := 59) dX5_takes_58 rfl rfl ?_
    refine r_iload_n (q := 60) dX5_takes_59 rfl rfl ?_
    refine r_iload (q := 62) dX5_takes_60 rfl rfl ?_
    refine r_iload_n (q := 63) dX5_takes_62 rfl rfl ?_
    refine r_cI4 (q := 66) vX5_163 dX5_takes_63 rfl LYX5 rfl (Nat.le_of_ble_eq_true rfl) (by decide) (by decide) (c_X5_cellsTaken _ V hV hG w d m b h20 hn hd (by omega) hb) ?_
    rintro _ s63 ⟨rfl, hV63, r63⟩
    refine r_iaddN (q := 67) dX5_takes_66 rfl ?_
    refine r_istore (q := 69) dX5_takes_67 rfl (Nat.le_of_ble_eq_true rfl) ?_
    refine r_iinc (q := 72) (v := nI (m + 1)) dX5_takes_69 rfl rfl (by rw [show Int32.ofInt 1 = nI 1 from rfl]; exact nI_add _ _) ?_
    refine r_goto (q := 41) dX5_takes_72 (by decide) ?_
    exact ih (m + 1) _ (by omega) hV63 (r63.trans h32)
set_option maxRecDepth 100000 in
set_option maxHeartbeats 4000000 in
theorem c_X5_takes (σ V : St) (hV : vw σ = V) (hG : GOOD V) (hJ : J V σ) (w d b : Int32) : Cl LAYC yX5_takes cX5_takes 6 (some .int) 3 88 [.ref 0, .int w, .int d, .int b] σ (EI (fun v τ => v = resO (cTakes V w d b) (nI (tkM V w.toNatClampNeg d.toNatClampNeg b (nv V 34 d.toNatClampNeg))) ∧ fin (stO (cTakes V w d b) (V) (rfB V (cTakes V w d b))) τ)) := by
  have hI := hG.1.1
  have hR := hG.2
  have hnw := bd hI 33 19 20 rfl rfl
  have hnb := bd hI 33 7 40 rfl rfl
  refine Cl.of 2 rfl rfl EI.ok ?_
  show Rn LAYC none RX5 _ _ _ _ 0 [some (.ref 0), some (.int w), some (.int d), some (.int b), none, none] [] _ _
  refine r_aload_n (q := 1) dX5_takes_0 rfl rfl ?_
  refine gX5_26 (q := 4) dX5_takes_1 rfl ?_
  refine r_iload_n (q := 5) dX5_takes_4 rfl rfl ?_
  refine r_cI1 (q := 8) vX5_127 dX5_takes_5 rfl LYX4 rfl (Nat.le_of_ble_eq_true rfl) (by decide) (by decide) (c_X4_has _ V hV hG _) ?_
  rintro _ τ0 ⟨rfl, hτ0⟩
  rw [hτ0]
  clear hτ0
  refine r_if_eqN (t := 29) (q := 11) dX5_takes_8 (by decide) rfl (by have := ix_le w (nv V 33 19); omega) (fun c8 => ?_) (fun c8 => ?_)
  · refine r_aload_n (q := 30) dX5_takes_29 rfl rfl ?_
    refine r_iconst (q := 31) (v := -1) dX5_takes_30 rfl (by decide) ?_
    refine r_cI1 (q := 34) vX5_71 dX5_takes_31 rfl LYX5 rfl (Nat.le_of_ble_eq_true rfl) (by decide) (by decide) (c_X5_refuse _ V hV (-1) 1 rfl (by decide) (by decide)) ?_
    rintro _ τR ⟨rfl, hRf, r32⟩
    exact r_retI dX5_takes_34 (fo_bad (by first | (simp [cTakes, *]; done) | (unfold cTakes; (try simp only []); (repeat' split); all_goals first | rfl | contradiction | omega | (exfalso; simp only [Int32.lt_iff_toInt_lt, Int32.le_iff_toInt_le] at *; omega))) (by decide) hRf (hJ.c r32))
  · obtain ⟨w, hw, rfl⟩ := ix_of c8
    have hwc := nI_clamp (n := w) (by omega)
    refine r_iload_n (q := 12) dX5_takes_11 rfl rfl ?_
    refine r_sI1 (q := 15) vX5_67 dX5_takes_12 rfl (Nat.le_of_ble_eq_true rfl) (by decide) (by decide) (c_X5_isDay _ _) ?_
    rintro _ τ0 ⟨rfl, hτ0⟩
    rw [hτ0]
    clear hτ0
    refine r_if_eqN (t := 29) (q := 18) dX5_takes_15 (by decide) rfl (by have := ix_le d 8; omega) (fun c15 => ?_) (fun c15 => ?_)
    · refine r_aload_n (q := 30) dX5_takes_29 rfl rfl ?_
      refine r_iconst (q := 31) (v := -1) dX5_takes_30 rfl (by decide) ?_
      refine r_cI1 (q := 34) vX5_71 dX5_takes_31 rfl LYX5 rfl (Nat.le_of_ble_eq_true rfl) (by decide) (by decide) (c_X5_refuse _ V hV (-1) 1 rfl (by decide) (by decide)) ?_
      rintro _ τR ⟨rfl, hRf, r32⟩
      exact r_retI dX5_takes_34 (fo_bad (by first | (simp [cTakes, *]; done) | (unfold cTakes; (try simp only []); (repeat' split); all_goals first | rfl | contradiction | omega | (exfalso; simp only [Int32.lt_iff_toInt_lt, Int32.le_iff_toInt_le] at *; omega))) (by decide) hRf (hJ.c r32))
    · obtain ⟨d, hd, rfl⟩ := ix_of c15
      have hdc := nI_clamp (n := d) (by omega)
      refine r_aload_n (q := 19) dX5_takes_18 rfl rfl ?_
      refine gX5_19 (q := 22) dX5_takes_19 rfl ?_
      refine r_iload_n (q := 23) dX5_takes_22 rfl rfl ?_
      refine r_cI1 (q := 26) vX5_120 dX5_takes_23 rfl LYX1 rfl (Nat.le_of_ble_eq_true rfl) (by decide) (by decide) (c_X1_has _ V hV hG _) ?_
      rintro _ τ0 ⟨rfl, hτ0⟩
      rw [hτ0]
      clear hτ0
      refine r_if_neN (t := 35) (q := 29) dX5_takes_26 (by decide) rfl (by have := ix_le b (nv V 33 7); omega) (fun c26 => ?_) (fun c26 => ?_)
      · obtain ⟨b, hb, rfl⟩ := ix_of c26
        have hbc := nI_clamp (n := b) (by omega)
        refine r_iconst (q := 36) (v := nI 0) dX5_takes_35 rfl (by decide) ?_
        refine r_istore (q := 38) dX5_takes_36 rfl (Nat.le_of_ble_eq_true rfl) ?_
        refine r_iconst (q := 39) (v := nI 0) dX5_takes_38 rfl (by decide) ?_
        refine r_istore (q := 41) dX5_takes_39 rfl (Nat.le_of_ble_eq_true rfl) ?_
        refine (l_X5_takes hG (b := b) (by omega) hw hd (by omega) (nv V 34 d) 0 _ (Nat.zero_add _) hV rfl).mono ?_
        rintro r τ ⟨v, rfl, rfl, h, h32⟩
        exact ⟨_, rfl, fo_ok (by simp [cTakes, *]) (by rw [hwc, hdc]) h (hJ.c h32)⟩
      · refine r_aload_n (q := 30) dX5_takes_29 rfl rfl ?_
        refine r_iconst (q := 31) (v := -1) dX5_takes_30 rfl (by decide) ?_
        refine r_cI1 (q := 34) vX5_71 dX5_takes_31 rfl LYX5 rfl (Nat.le_of_ble_eq_true rfl) (by decide) (by decide) (c_X5_refuse _ V hV (-1) 1 rfl (by decide) (by decide)) ?_
        rintro _ τR ⟨rfl, hRf, r32⟩
        exact r_retI dX5_takes_34 (fo_bad (by first | (simp [cTakes, *]; done) | (unfold cTakes; (try simp only []); (repeat' split); all_goals first | rfl | contradiction | omega | (exfalso; simp only [Int32.lt_iff_toInt_lt, Int32.le_iff_toInt_le] at *; omega))) (by decide) hRf (hJ.c r32))
theorem lack_ne {V : St} {x : Int32} (h : ¬ lack V x = 0) : ∃ j, 1 ≤ j ∧ j < 7 ∧ -lack V x = nI j := by
  rcases lack_cases V x with e | e | e | e <;> rw [e] at h ⊢
  · exact absurd rfl h
  · exact ⟨1, by decide, by decide, by decide⟩
  · exact ⟨2, by decide, by decide, by decide⟩
  · exact ⟨3, by decide, by decide, by decide⟩
theorem PL_of {V : St} {b t : Nat} (hb : b < nv V 33 7) (hbc : (nI b).toNatClampNeg = b) (h0 : lack V (nI b) = 0) (ht : t ≤ 200) : PL V (nI b) t (thk V (nI b) (nI t)) := by
  obtain ⟨-, h2, h3, h4⟩ := lack_0 h0
  rw [hbc] at h2 h3 h4
  exact Or.inr ⟨b, hb, rfl, h2, h3, h4, ht, rfl⟩
set_option maxRecDepth 100000 in
set_option maxHeartbeats 4000000 in
theorem c_X5_loss (σ V : St) (hV : vw σ = V) (hG : GOOD V) (hJ : J V σ) (b w d : Int32) : Cl LAYC yX5_loss cX5_loss 6 (some .int) 4 118 [.ref 0, .int b, .int w, .int d] σ (EI (fun v τ => v = resB (cLoss V b w d) (nI (hoursN V w.toNatClampNeg d.toNatClampNeg) - nI (hoursN (thk V b (nI (nv V 45 b.toNatClampNeg))) w.toNatClampNeg d.toNatClampNeg)) ∧ fin (stO (cLoss V b w d) V (rfB V (cLoss V b w d))) τ)) := by
  have hI := hG.1.1
  have hR := hG.2
  have hnw := bd hI 33 19 20 rfl rfl
  have hnb := bd hI 33 7 40 rfl rfl
  refine Cl.of 2 rfl rfl EI.ok ?_
  show Rn LAYC none RX5 _ _ _ _ 0 [some (.ref 0), some (.int b), some (.int w), some (.int d), none, none] [] _ _
  refine r_aload_n (q := 1) dX5_loss_0 rfl rfl ?_
  refine gX5_26 (q := 4) dX5_loss_1 rfl ?_
  refine r_iload_n (q := 5) dX5_loss_4 rfl rfl ?_
  refine r_cI1 (q := 8) vX5_127 dX5_loss_5 rfl LYX4 rfl (Nat.le_of_ble_eq_true rfl) (by decide) (by decide) (c_X4_has _ V hV hG _) ?_
  rintro _ τ0 ⟨rfl, hτ0⟩
  rw [hτ0]
  clear hτ0
  refine r_if_eqN (t := 29) (q := 11) dX5_loss_8 (by decide) rfl (by have := ix_le w (nv V 33 19); omega) (fun c8 => ?_) (fun c8 => ?_)
  · refine r_iconst (q := 30) (v := -1) dX5_loss_29 rfl (by decide) ?_
    refine r_istore (q := 32) dX5_loss_30 rfl (Nat.le_of_ble_eq_true rfl) ?_
    refine r_iload (q := 34) dX5_loss_32 rfl rfl ?_
    refine r_if_eq (t := 44) (q := 37) dX5_loss_34 (by decide) rfl (fun c34 => absurd c34 (by decide)) (fun c34 => ?_)
    refine r_aload_n (q := 38) dX5_loss_37 rfl rfl ?_
    refine r_iload (q := 40) dX5_loss_38 rfl rfl ?_
    refine r_cI1 (q := 43) vX5_154 dX5_loss_40 rfl LYX5 rfl (Nat.le_of_ble_eq_true rfl) (by decide) (by decide) (c_X5_refuseAsTold _ V hV (-1) 1 rfl (by decide) (by decide)) ?_
    rintro _ τR ⟨rfl, hRf, r32⟩
    exact r_retI dX5_loss_43 (fb_bad (by rw [cLoss, if_pos c8]) (by decide) hRf (hJ.c r32))
  · obtain ⟨w, hw, rfl⟩ := ix_of c8
    have hwc := nI_clamp (n := w) (by omega)
    refine r_iload_n (q := 12) dX5_loss_11 rfl rfl ?_
    refine r_sI1 (q := 15) vX5_67 dX5_loss_12 rfl (Nat.le_of_ble_eq_true rfl) (by decide) (by decide) (c_X5_isDay _ _) ?_
    rintro _ τ0 ⟨rfl, hτ0⟩
    rw [hτ0]
    clear hτ0
    refine r_if_eqN (t := 29) (q := 18) dX5_loss_15 (by decide) rfl (by have := ix_le d 8; omega) (fun c15 => ?_) (fun c15 => ?_)
    · refine r_iconst (q := 30) (v := -1) dX5_loss_29 rfl (by decide) ?_
      refine r_istore (q := 32) dX5_loss_30 rfl (Nat.le_of_ble_eq_true rfl) ?_
      refine r_iload (q := 34) dX5_loss_32 rfl rfl ?_
      refine r_if_eq (t := 44) (q := 37) dX5_loss_34 (by decide) rfl (fun c34 => absurd c34 (by decide)) (fun c34 => ?_)
      refine r_aload_n (q := 38) dX5_loss_37 rfl rfl ?_
      refine r_iload (q := 40) dX5_loss_38 rfl rfl ?_
      refine r_cI1 (q := 43) vX5_154 dX5_loss_40 rfl LYX5 rfl (Nat.le_of_ble_eq_true rfl) (by decide) (by decide) (c_X5_refuseAsTold _ V hV (-1) 1 rfl (by decide) (by decide)) ?_
      rintro _ τR ⟨rfl, hRf, r32⟩
      exact r_retI dX5_loss_43 (fb_bad (by rw [cLoss, if_neg c8, if_pos c15]) (by decide) hRf (hJ.c r32))
    · obtain ⟨d, hd, rfl⟩ := ix_of c15
      have hdc := nI_clamp (n := d) (by omega)
      refine r_aload_n (q := 19) dX5_loss_18 rfl rfl ?_
      refine gX5_19 (q := 22) dX5_loss_19 rfl ?_
      refine r_iload_n (q := 23) dX5_loss_22 rfl rfl ?_
      refine r_cI1 (q := 26) vX5_114 dX5_loss_23 rfl LYX1 rfl (Nat.le_of_ble_eq_true rfl) (by decide) (by decide) (c_X1_planFault _ V hV hG _) ?_
      rintro _ τ0 ⟨rfl, hτ0⟩
      rw [hτ0]
      clear hτ0
      refine r_goto (q := 30) dX5_loss_26 (by decide) ?_
      refine r_istore (q := 32) dX5_loss_30 rfl (Nat.le_of_ble_eq_true rfl) ?_
      refine r_iload (q := 34) dX5_loss_32 rfl rfl ?_
      refine r_if_eq (t := 44) (q := 37) dX5_loss_34 (by decide) rfl (fun c34 => ?_) (fun c34 => ?_)
      · obtain ⟨h1, -, -, -⟩ := lack_0 c34
        obtain ⟨b, hb, rfl⟩ := ix_of h1
        have hbc := nI_clamp (n := b) (by omega)
        refine r_aload_n (q := 45) dX5_loss_44 rfl rfl ?_
        refine r_iload_n (q := 46) dX5_loss_45 rfl rfl ?_
        refine r_iload_n (q := 47) dX5_loss_46 rfl rfl ?_
        refine r_cI2 (q := 50) vX5_166 dX5_loss_47 rfl LYX5 rfl (Nat.le_of_ble_eq_true rfl) (by decide) (by decide) (c_X5_litMinutes _ V hV hG hJ w d (by omega) hw hd) ?_
        rintro _ s47 ⟨rfl, hV47, hJ47⟩
        refine r_istore (q := 52) dX5_loss_50 rfl (Nat.le_of_ble_eq_true rfl) ?_
        refine r_iload (q := 54) dX5_loss_52 rfl rfl ?_
        refine r_sI1 (q := 57) vX5_170 dX5_loss_54 rfl (Nat.le_of_ble_eq_true rfl) (by decide) (by decide) (c_bitCount _ _ (mskL_lt hI w d)) ?_
        rintro _ τ0 ⟨rfl, hτ0⟩
        rw [hτ0]
        clear hτ0
        rw [mskL_pop hI]
        refine r_aload_n (q := 58) dX5_loss_57 rfl rfl ?_
        refine r_iload_n (q := 59) dX5_loss_58 rfl rfl ?_
        refine r_iload_n (q := 60) dX5_loss_59 rfl rfl ?_
        refine r_iload (q := 62) dX5_loss_60 rfl rfl ?_
        refine r_iload_n (q := 63) dX5_loss_62 rfl rfl ?_
        refine r_aload_n (q := 64) dX5_loss_63 rfl rfl ?_
        refine gX5_19 (q := 67) dX5_loss_64 rfl ?_
        refine r_iload_n (q := 68) dX5_loss_67 rfl rfl ?_
        refine r_cI1 (q := 71) vX5_97 dX5_loss_68 rfl LYX1 rfl (Nat.le_of_ble_eq_true rfl) (by decide) (by decide) (c_X1_topOf _ V hV47 hG b (by omega)) ?_
        rintro _ τ0 ⟨rfl, hτ0⟩
        rw [hτ0]
        clear hτ0
        refine r_cI5 (q := 74) vX5_175 dX5_loss_71 rfl LYX5 rfl (Nat.le_of_ble_eq_true rfl) (by decide) (by decide) (c_X5_hoursWith _ V hV47 hG hJ47 _ _ _ w d (PL_of hb hbc c34 (bd hI 45 b 200 rfl rfl)) (by omega) hw hd) ?_
        rintro _ s71 ⟨rfl, hV71, hJ71⟩
        refine r_isub (q := 75) dX5_loss_74 rfl ?_
        exact r_retI dX5_loss_75 (fb_ok (by rw [cLoss, if_neg c8, if_neg c15]; exact c34) (by rw [hwc, hdc, hbc]) hV71 hJ71)
      · obtain ⟨j, hj1, hj7, hj⟩ := lack_ne c34
        refine r_aload_n (q := 38) dX5_loss_37 rfl rfl ?_
        refine r_iload (q := 40) dX5_loss_38 rfl rfl ?_
        refine r_cI1 (q := 43) vX5_154 dX5_loss_40 rfl LYX5 rfl (Nat.le_of_ble_eq_true rfl) (by decide) (by decide) (c_X5_refuseAsTold _ V hV _ j hj hj1 hj7) ?_
        rintro _ τR ⟨rfl, hRf, r32⟩
        exact r_retI dX5_loss_43 (fb_bad (by rw [cLoss, if_neg c8, if_neg c15]) c34 hRf (hJ.c r32))
theorem thk_row (V : St) (b t : Int32) (k : Nat) (h : ¬ k = 33) : thk V b t k = V k := funext fun i => thk_at V b t k i (by omega)
theorem thk_ask_fall (V : St) (b t : Int32) (n w : Nat) : fallI (thk (askW V n) b t) w = fallI (thk V b t) w := by
  have e29 : ∀ X : St, thk X b t 33 29 = b := fun X => by unfold thk; rw [wr_at, if_neg (by omega), wr_at, if_pos ⟨rfl, rfl⟩]
  have e30 : ∀ X : St, thk X b t 33 30 = t := fun X => by unfold thk; rw [wr_at, if_pos ⟨rfl, rfl⟩]
  have r : ∀ k, ¬ k = 33 → ¬ k = 59 → thk (askW V n) b t k = thk V b t k := fun k h1 h2 => by rw [thk_row _ _ _ k h1, thk_row _ _ _ k h1, askW_row V n k h2]
  have f : ∀ i, ¬ i = 29 → ¬ i = 30 → thk (askW V n) b t 33 i = thk V b t 33 i := fun i h1 h2 => by rw [thk_at _ _ _ 33 i (by omega), thk_at _ _ _ 33 i (by omega), askW_at V n 33 i (by decide)]
  refine fallI_c ?_ ?_ (r 38 (by decide) (by decide))
  · unfold GEo
    refine ⟨f 5 (by decide) (by decide), f 7 (by decide) (by decide), by rw [e29, e29], by rw [e30, e30], ?_, ?_, ?_, ?_, ?_, ?_, ?_, ?_, ?_, ?_, ?_, ?_, ?_, ?_⟩ <;> exact r _ (by decide) (by decide)
  · unfold GEw
    refine ⟨?_, ?_, ?_, ?_, ?_, ?_⟩ <;> exact congrFun (r _ (by decide) (by decide)) w
theorem brC_eq (V : St) (b t : Int32) : ∀ n w, w + n = nv V 33 19 → brC V (thk V b t) w n = brF (thk (askV V) b t) w n := by
  intro n
  induction n with
  | zero => intro w _; rfl
  | succ n ih =>
    intro w hw
    have h59 : nv (thk (askV V) b t) 59 w = askN V w := by
      rw [thk_nv _ _ _ 59 w (by omega)]
      have e : askV V 59 w = nI (askN V w) := if_pos ⟨rfl, by omega⟩
      unfold nv
      rw [e]
      exact nI_clamp (by have := askN_le V w; omega)
    rw [brC, brF, h59, ih (w + 1) (by omega), show fallI (thk (askV V) b t) w = fallI (thk V b t) w from thk_ask_fall V b t _ w]
    unfold askN
    by_cases h1 : kept V w = 0
    · rw [if_pos h1, if_pos h1, if_pos rfl]
    · rw [if_neg h1, if_neg h1]
      by_cases h2 : fallI V w = -9
      · rw [if_pos h2, if_pos h2]
        exact (if_neg (by decide)).symm
      · rw [if_neg h2, if_neg h2, if_pos rfl]
def askW' (V τ : St) : St := fun k i => if k = 59 ∧ i < nv V 33 19 then nI (askN V i) else τ k i
theorem ask_ghost {V τ : St} (h : vw τ = V) : (∀ k, k < LAYC.length → askW' V τ k = τ k) ∧ vw (askW' V τ) = askV V ∧ askW' V τ 32 = τ 32 := by
  refine ⟨fun k hk => ?_, ?_, ?_⟩
  · have : k < 33 := hk
    funext i
    exact if_neg (by omega)
  · funext k i
    unfold vw askW' askV askW
    by_cases h59 : k = 59 ∧ i < nv V 33 19
    · rw [if_pos h59, if_pos h59, h59.1]
      rfl
    · rw [if_neg h59, if_neg h59, ← h]
      rfl
  · funext i
    exact if_neg (by omega)
theorem ask_J {V σ : St} (h : J V σ) : J (askV V) σ := J_c h (askW_GEo V _) (fun w _ => askW_GEw V _ w) (by show nv V 33 19 ≤ nv (askW V _) 33 19; rw [askW_nv V _ 33 19 (by decide)]; exact Nat.le_refl _)
set_option maxRecDepth 100000 in
set_option maxHeartbeats 4000000 in
theorem c_X5_breach (σ V : St) (hV : vw σ = V) (hG : GOOD V) (hJ : J V σ) (b t : Int32) : Cl LAYC yX5_breach cX5_breach 4 (some .int) 6 168 [.ref 0, .int b, .int t] σ (EI (fun v τ => v = resB (cBreach V b t) (brI (askV V) b t) ∧ fin (stO (cBreach V b t) (askV V) (rfB V (cBreach V b t))) τ)) := by
  have hI := hG.1.1
  have hR := hG.2
  have hnw := bd hI 33 19 20 rfl rfl
  have hnb := bd hI 33 7 40 rfl rfl
  refine Cl.of 1 rfl rfl EI.ok ?_
  show Rn LAYC none RX5 _ _ _ _ 0 [some (.ref 0), some (.int b), some (.int t), none] [] _ _
  refine r_aload_n (q := 1) dX5_breach_0 rfl rfl ?_
  refine gX5_19 (q := 4) dX5_breach_1 rfl ?_
  refine r_iload_n (q := 5) dX5_breach_4 rfl rfl ?_
  refine r_cI1 (q := 8) vX5_114 dX5_breach_5 rfl LYX1 rfl (Nat.le_of_ble_eq_true rfl) (by decide) (by decide) (c_X1_planFault _ V hV hG _) ?_
  rintro _ τ0 ⟨rfl, hτ0⟩
  rw [hτ0]
  clear hτ0
  refine r_istore_n (q := 9) dX5_breach_8 rfl (Nat.le_of_ble_eq_true rfl) ?_
  refine r_iload_n (q := 10) dX5_breach_9 rfl rfl ?_
  refine r_if_eq (t := 19) (q := 13) dX5_breach_10 (by decide) rfl (fun c10 => ?_) (fun c10 => ?_)
  · obtain ⟨h1, -, -, -⟩ := lack_0 c10
    obtain ⟨b, hb, rfl⟩ := ix_of h1
    have hbc := nI_clamp (n := b) (by omega)
    refine r_iload_n (q := 20) dX5_breach_19 rfl rfl ?_
    refine r_aload_n (q := 21) dX5_breach_20 rfl rfl ?_
    refine gX5_19 (q := 24) dX5_breach_21 rfl ?_
    refine r_iload_n (q := 25) dX5_breach_24 rfl rfl ?_
    refine r_cI1 (q := 28) vX5_107 dX5_breach_25 rfl LYX1 rfl (Nat.le_of_ble_eq_true rfl) (by decide) (by decide) (c_X1_footOf _ V hV hG b (by omega)) ?_
    rintro _ τ0 ⟨rfl, hτ0⟩
    rw [hτ0]
    clear hτ0
    refine r_icmp_gt (t := 38) (q := 31) dX5_breach_28 (by decide) rfl (fun c28 => ?_) (fun c28 => ?_)
    · refine r_iload_n (q := 39) dX5_breach_38 rfl rfl ?_
      refine r_sipush (q := 42) (v := nI 200) dX5_breach_39 rfl (by decide) ?_
      refine r_icmp_le (t := 52) (q := 45) dX5_breach_42 (by decide) rfl (fun c42 => ?_) (fun c42 => ?_)
      · have hfb := bd hI 44 b 200 rfl rfl
        obtain ⟨t, ht, rfl⟩ := t_range (Nat.le_trans hfb (by decide)) c28 c42
        refine r_aload_n (q := 53) dX5_breach_52 rfl rfl ?_
        refine r_iload_n (q := 54) dX5_breach_53 rfl rfl ?_
        refine r_iload_n (q := 55) dX5_breach_54 rfl rfl ?_
        refine r_cI2 (q := 58) vX5_178 dX5_breach_55 rfl LYX5 rfl (Nat.le_of_ble_eq_true rfl) (by decide) (by decide) (c_X5_firstBreach _ V hV hG hJ _ _ t (PL_of hb hbc c10 ht)) ?_
        rintro _ s55 ⟨rfl, hV55, hJ55⟩
        obtain ⟨g1, g2, g3⟩ := ask_ghost hV55
        refine r_ghost (askW' V s55) g1 ?_
        exact r_retI dX5_breach_58 (fb_ok (by rw [cBreach, if_pos c10, hbc, if_neg (Int32.not_le.mpr c28), if_neg (Int32.not_lt.mpr c42)]) (brC_eq V (nI b) (nI t) _ _ (Nat.zero_add _)) g2 (ask_J (hJ55.c g3)))
      · refine r_aload_n (q := 46) dX5_breach_45 rfl rfl ?_
        refine r_bipush (q := 48) (v := -6) dX5_breach_46 rfl (by decide) ?_
        refine r_cI1 (q := 51) vX5_154 dX5_breach_48 rfl LYX5 rfl (Nat.le_of_ble_eq_true rfl) (by decide) (by decide) (c_X5_refuseAsTold _ V hV (-6) 6 rfl (by decide) (by decide)) ?_
        rintro _ τR ⟨rfl, hRf, r32⟩
        exact r_retI dX5_breach_51 (fb_bad (by rw [cBreach, if_pos c10, hbc, if_neg (Int32.not_le.mpr c28), if_pos (Int32.not_le.mp c42)]) (by decide) hRf (hJ.c r32))
    · refine r_aload_n (q := 32) dX5_breach_31 rfl rfl ?_
      refine r_bipush (q := 34) (v := -4) dX5_breach_32 rfl (by decide) ?_
      refine r_cI1 (q := 37) vX5_154 dX5_breach_34 rfl LYX5 rfl (Nat.le_of_ble_eq_true rfl) (by decide) (by decide) (c_X5_refuseAsTold _ V hV (-4) 4 rfl (by decide) (by decide)) ?_
      rintro _ τR ⟨rfl, hRf, r32⟩
      exact r_retI dX5_breach_37 (fb_bad (by rw [cBreach, if_pos c10, hbc, if_pos (Int32.not_lt.mp c28)]) (by decide) hRf (hJ.c r32))
  · obtain ⟨j, hj1, hj7, hj⟩ := lack_ne c10
    refine r_aload_n (q := 14) dX5_breach_13 rfl rfl ?_
    refine r_iload_n (q := 15) dX5_breach_14 rfl rfl ?_
    refine r_cI1 (q := 18) vX5_154 dX5_breach_15 rfl LYX5 rfl (Nat.le_of_ble_eq_true rfl) (by decide) (by decide) (c_X5_refuseAsTold _ V hV _ j hj hj1 hj7) ?_
    rintro _ τR ⟨rfl, hRf, r32⟩
    exact r_retI dX5_breach_18 (fb_bad (by rw [cBreach, if_neg c10]) c10 hRf (hJ.c r32))
set_option maxRecDepth 100000 in
set_option maxHeartbeats 4000000 in
theorem c_X5_blockOf (σ V : St) (hV : vw σ = V) (hG : GOOD V) (hJ : J V σ) (b x : Int32) : Cl LAYC yX5_blockOf cX5_blockOf 3 (some .int) 2 42 [.ref 0, .int b, .int x] σ (EI (fun v τ => v = resB (cBO V b x) (vBO V b.toNatClampNeg x) ∧ fin (stO (cBO V b x) V (rfB V (cBO V b x))) τ)) := by
  have hI := hG.1.1
  have hR := hG.2
  have hnw := bd hI 33 19 20 rfl rfl
  have hnb := bd hI 33 7 40 rfl rfl
  refine Cl.of 0 rfl rfl EI.ok ?_
  show Rn LAYC none RX5 _ _ _ _ 0 [some (.ref 0), some (.int b), some (.int x)] [] _ _
  refine r_aload_n (q := 1) dX5_blockOf_0 rfl rfl ?_
  refine gX5_19 (q := 4) dX5_blockOf_1 rfl ?_
  refine r_iload_n (q := 5) dX5_blockOf_4 rfl rfl ?_
  refine r_cI1 (q := 8) vX5_120 dX5_blockOf_5 rfl LYX1 rfl (Nat.le_of_ble_eq_true rfl) (by decide) (by decide) (c_X1_has _ V hV hG _) ?_
  rintro _ τ0 ⟨rfl, hτ0⟩
  rw [hτ0]
  clear hτ0
  refine r_if_neN (t := 17) (q := 11) dX5_blockOf_8 (by decide) rfl (by have := ix_le b (nv V 33 7); omega) (fun c8 => ?_) (fun c8 => ?_)
  · obtain ⟨b, hb, rfl⟩ := ix_of c8
    have hbc := nI_clamp (n := b) (by omega)
    have hk := hR.kind b
    have hmo := hR.most b
    have hgo := hR.gone b
    have hth := hR.ther b hb
    obtain ⟨n1, n2⟩ := nI_ne_neg (b := b) (by omega)
    refine r_iload_n (q := 18) dX5_blockOf_17 rfl rfl ?_
    rcases sw6 x with rfl | rfl | rfl | rfl | rfl | rfl | hsw
    · refine r_tableIn (q := 56) dX5_blockOf_18 (by decide) (by decide) rfl (by decide) ?_
      refine r_aload_n (q := 57) dX5_blockOf_56 rfl rfl ?_
      refine gX5_19 (q := 60) dX5_blockOf_57 rfl ?_
      refine gX5_187 (q := 63) dX5_blockOf_60 rfl ?_
      refine r_iload_n (q := 64) dX5_blockOf_63 rfl rfl ?_
      refine r_ialdV (q := 65) hV hI dX5_blockOf_64 rfl LA5 rfl rfl (by decide) (by omega) ?_
      exact r_retI dX5_blockOf_65 (fb_ok (by rw [cBO, if_neg c8]; exact if_neg (by decide)) (by rw [hbc, vBO_0]; congr 1) hV hJ)
    · refine r_tableIn (q := 66) dX5_blockOf_18 (by decide) (by decide) rfl (by decide) ?_
      refine r_aload_n (q := 67) dX5_blockOf_66 rfl rfl ?_
      refine gX5_19 (q := 70) dX5_blockOf_67 rfl ?_
      refine r_iload_n (q := 71) dX5_blockOf_70 rfl rfl ?_
      refine r_cI1 (q := 74) vX5_107 dX5_blockOf_71 rfl LYX1 rfl (Nat.le_of_ble_eq_true rfl) (by decide) (by decide) (c_X1_footOf _ V hV hG b (by omega)) ?_
      rintro _ τ0 ⟨rfl, hτ0⟩
      rw [hτ0]
      clear hτ0
      exact r_retI dX5_blockOf_74 (fb_ok (by rw [cBO, if_neg c8]; exact if_neg (by decide)) (by rw [hbc, vBO_1]) hV hJ)
    · refine r_tableIn (q := 75) dX5_blockOf_18 (by decide) (by decide) rfl (by decide) ?_
      refine r_aload_n (q := 76) dX5_blockOf_75 rfl rfl ?_
      refine gX5_19 (q := 79) dX5_blockOf_76 rfl ?_
      refine r_iload_n (q := 80) dX5_blockOf_79 rfl rfl ?_
      refine r_cI1 (q := 83) vX5_97 dX5_blockOf_80 rfl LYX1 rfl (Nat.le_of_ble_eq_true rfl) (by decide) (by decide) (c_X1_topOf _ V hV hG b (by omega)) ?_
      rintro _ τ0 ⟨rfl, hτ0⟩
      rw [hτ0]
      clear hτ0
      exact r_retI dX5_blockOf_83 (fb_ok (by rw [cBO, if_neg c8]; exact if_neg (by decide)) (by rw [hbc, vBO_2]) hV hJ)
    · refine r_tableIn (q := 84) dX5_blockOf_18 (by decide) (by decide) rfl (by decide) ?_
      refine r_aload_n (q := 85) dX5_blockOf_84 rfl rfl ?_
      refine gX5_19 (q := 88) dX5_blockOf_85 rfl ?_
      refine gX5_187 (q := 91) dX5_blockOf_88 rfl ?_
      refine r_iload_n (q := 92) dX5_blockOf_91 rfl rfl ?_
      refine r_ialdV (q := 93) hV hI dX5_blockOf_92 rfl LA5 rfl rfl (by decide) (by omega) ?_
      refine r_iconst (q := 94) (v := nI 1) dX5_blockOf_93 rfl (by decide) ?_
      refine r_icmp_neN (t := 109) (q := 97) dX5_blockOf_94 (by decide) rfl (by have := bd hI 5 b 3 rfl rfl; omega) (by omega) (fun c94 => ?_) (fun c94 => ?_)
      · refine r_bipush (q := 111) (v := -9) dX5_blockOf_109 rfl (by decide) ?_
        exact r_retI dX5_blockOf_111 (fb_ok (by rw [cBO, if_neg c8]; exact if_neg (by decide)) (by rw [hbc, vBO_3]; first | rw [if_pos (by omega), hmo] | rw [if_neg (by omega)]) hV hJ)
      · refine r_aload_n (q := 98) dX5_blockOf_97 rfl rfl ?_
        refine gX5_19 (q := 101) dX5_blockOf_98 rfl ?_
        refine gX5_100 (q := 104) dX5_blockOf_101 rfl ?_
        refine r_iload_n (q := 105) dX5_blockOf_104 rfl rfl ?_
        refine r_ialdV (q := 106) hV hI dX5_blockOf_105 rfl LA8 rfl rfl (by decide) (by omega) ?_
        refine r_goto (q := 111) dX5_blockOf_106 (by decide) ?_
        exact r_retI dX5_blockOf_111 (fb_ok (by rw [cBO, if_neg c8]; exact if_neg (by decide)) (by rw [hbc, vBO_3]; first | rw [if_pos (by omega), hmo] | rw [if_neg (by omega)]) hV hJ)
    · refine r_tableIn (q := 112) dX5_blockOf_18 (by decide) (by decide) rfl (by decide) ?_
      refine r_aload_n (q := 113) dX5_blockOf_112 rfl rfl ?_
      refine gX5_19 (q := 116) dX5_blockOf_113 rfl ?_
      refine gX5_117 (q := 119) dX5_blockOf_116 rfl ?_
      refine r_iload_n (q := 120) dX5_blockOf_119 rfl rfl ?_
      refine r_zaldV (q := 121) hV hI dX5_blockOf_120 rfl LA10 rfl rfl (by decide) (by omega) ?_
      refine r_if_eqN (t := 128) (q := 124) dX5_blockOf_121 (by decide) rfl (by have := bd hI 10 b 1 rfl rfl; omega) (fun c121 => ?_) (fun c121 => ?_)
      · refine r_iconst (q := 129) (v := nI 0) dX5_blockOf_128 rfl (by decide) ?_
        exact r_retI dX5_blockOf_129 (fb_ok (by rw [cBO, if_neg c8]; exact if_neg (by decide)) (by have b48 := bd hI 48 b 1 rfl rfl; rw [hbc, vBO_4]; congr 1; unfold there; rw [hR.th.1]; simp only [n1, if_false]; (repeat' split at hth); all_goals ((repeat' split); all_goals first | omega | contradiction)) hV hJ)
      · refine r_iconst (q := 125) (v := nI 1) dX5_blockOf_124 rfl (by decide) ?_
        refine r_goto (q := 129) dX5_blockOf_125 (by decide) ?_
        exact r_retI dX5_blockOf_129 (fb_ok (by rw [cBO, if_neg c8]; exact if_neg (by decide)) (by have b48 := bd hI 48 b 1 rfl rfl; rw [hbc, vBO_4]; congr 1; unfold there; rw [hR.th.1]; simp only [n1, if_false]; (repeat' split at hth); all_goals ((repeat' split); all_goals first | omega | contradiction)) hV hJ)
    · refine r_tableIn (q := 130) dX5_blockOf_18 (by decide) (by decide) rfl (by decide) ?_
      refine r_aload_n (q := 131) dX5_blockOf_130 rfl rfl ?_
      refine gX5_19 (q := 134) dX5_blockOf_131 rfl ?_
      refine gX5_103 (q := 137) dX5_blockOf_134 rfl ?_
      refine r_iload_n (q := 138) dX5_blockOf_137 rfl rfl ?_
      refine r_zaldV (q := 139) hV hI dX5_blockOf_138 rfl LA11 rfl rfl (by decide) (by omega) ?_
      refine r_if_eqN (t := 146) (q := 142) dX5_blockOf_139 (by decide) rfl (by have := bd hI 11 b 1 rfl rfl; omega) (fun c139 => ?_) (fun c139 => ?_)
      · refine r_iconst (q := 147) (v := nI 0) dX5_blockOf_146 rfl (by decide) ?_
        exact r_retI dX5_blockOf_147 (fb_ok (by rw [cBO, if_neg c8]; exact if_neg (by decide)) (by have b49 := bd hI 49 b 1 rfl rfl; rw [hbc, vBO_5]; congr 1; omega) hV hJ)
      · refine r_iconst (q := 143) (v := nI 1) dX5_blockOf_142 rfl (by decide) ?_
        refine r_goto (q := 147) dX5_blockOf_143 (by decide) ?_
        exact r_retI dX5_blockOf_147 (fb_ok (by rw [cBO, if_neg c8]; exact if_neg (by decide)) (by have b49 := bd hI 49 b 1 rfl rfl; rw [hbc, vBO_5]; congr 1; omega) hV hJ)
    · refine r_tableOut (q := 148) dX5_blockOf_18 hsw (by decide) ?_
      refine r_aload_n (q := 149) dX5_blockOf_148 rfl rfl ?_
      refine r_bipush (q := 151) (v := -2) dX5_blockOf_149 rfl (by decide) ?_
      refine r_cI1 (q := 154) vX5_154 dX5_blockOf_151 rfl LYX5 rfl (Nat.le_of_ble_eq_true rfl) (by decide) (by decide) (c_X5_refuseAsTold _ V hV (-2) 2 rfl (by decide) (by decide)) ?_
      rintro _ τR ⟨rfl, hRf, r32⟩
      exact r_retI dX5_blockOf_154 (fb_bad (by rw [cBO, if_neg c8, if_pos (ix6 hsw)]) (by decide) hRf (hJ.c r32))
  · refine r_aload_n (q := 12) dX5_blockOf_11 rfl rfl ?_
    refine r_iconst (q := 13) (v := -1) dX5_blockOf_12 rfl (by decide) ?_
    refine r_cI1 (q := 16) vX5_154 dX5_blockOf_13 rfl LYX5 rfl (Nat.le_of_ble_eq_true rfl) (by decide) (by decide) (c_X5_refuseAsTold _ V hV (-1) 1 rfl (by decide) (by decide)) ?_
    rintro _ τR ⟨rfl, hRf, r32⟩
    exact r_retI dX5_blockOf_16 (fb_bad (by rw [cBO, if_pos c8]) (by decide) hRf (hJ.c r32))
set_option maxRecDepth 100000 in
set_option maxHeartbeats 4000000 in
theorem c_X5_windowOf (σ V : St) (hV : vw σ = V) (hG : GOOD V) (hJ : J V σ) (w x : Int32) : Cl LAYC yX5_windowOf cX5_windowOf 3 (some .int) 5 138 [.ref 0, .int w, .int x] σ (EI (fun v τ => v = resB (cWO V w x) (vWO V w.toNatClampNeg x) ∧ fin (stO (cWO V w x) V (rfB V (cWO V w x))) τ)) := by
  have hI := hG.1.1
  have hR := hG.2
  have hnw := bd hI 33 19 20 rfl rfl
  have hnb := bd hI 33 7 40 rfl rfl
  refine Cl.of 0 rfl rfl EI.ok ?_
  show Rn LAYC none RX5 _ _ _ _ 0 [some (.ref 0), some (.int w), some (.int x)] [] _ _
  refine r_aload_n (q := 1) dX5_windowOf_0 rfl rfl ?_
  refine gX5_26 (q := 4) dX5_windowOf_1 rfl ?_
  refine r_iload_n (q := 5) dX5_windowOf_4 rfl rfl ?_
  refine r_cI1 (q := 8) vX5_127 dX5_windowOf_5 rfl LYX4 rfl (Nat.le_of_ble_eq_true rfl) (by decide) (by decide) (c_X4_has _ V hV hG _) ?_
  rintro _ τ0 ⟨rfl, hτ0⟩
  rw [hτ0]
  clear hτ0
  refine r_if_neN (t := 17) (q := 11) dX5_windowOf_8 (by decide) rfl (by have := ix_le w (nv V 33 19); omega) (fun c8 => ?_) (fun c8 => ?_)
  · obtain ⟨w, hw, rfl⟩ := ix_of c8
    have hwc := nI_clamp (n := w) (by omega)
    have hwi := hR.win w
    refine r_iload_n (q := 18) dX5_windowOf_17 rfl rfl ?_
    rcases sw6 x with rfl | rfl | rfl | rfl | rfl | rfl | hsw
    · refine r_tableIn (q := 56) dX5_windowOf_18 (by decide) (by decide) rfl (by decide) ?_
      refine r_aload_n (q := 57) dX5_windowOf_56 rfl rfl ?_
      refine gX5_26 (q := 60) dX5_windowOf_57 rfl ?_
      refine gX5_190 (q := 63) dX5_windowOf_60 rfl ?_
      refine r_iload_n (q := 64) dX5_windowOf_63 rfl rfl ?_
      refine r_ialdV (q := 65) hV hI dX5_windowOf_64 rfl LA13 rfl rfl (by decide) (by omega) ?_
      exact r_retI dX5_windowOf_65 (fb_ok (by rw [cWO, if_neg c8]; exact if_neg (by decide)) (by rw [hwc, vWO_0]; congr 1; exact hwi.1) hV hJ)
    · refine r_tableIn (q := 66) dX5_windowOf_18 (by decide) (by decide) rfl (by decide) ?_
      refine r_aload_n (q := 67) dX5_windowOf_66 rfl rfl ?_
      refine gX5_26 (q := 70) dX5_windowOf_67 rfl ?_
      refine r_iload_n (q := 71) dX5_windowOf_70 rfl rfl ?_
      refine r_cI1 (q := 74) vX5_193 dX5_windowOf_71 rfl LYX4 rfl (Nat.le_of_ble_eq_true rfl) (by decide) (by decide) (c_X4_cellsOf _ V hV hG w (by omega)) ?_
      rintro _ τ0 ⟨rfl, hτ0⟩
      rw [hτ0]
      clear hτ0
      exact r_retI dX5_windowOf_74 (fb_ok (by rw [cWO, if_neg c8]; exact if_neg (by decide)) (by rw [hwc, vWO_1]) hV hJ)
    · refine r_tableIn (q := 75) dX5_windowOf_18 (by decide) (by decide) rfl (by decide) ?_
      refine r_aload_n (q := 76) dX5_windowOf_75 rfl rfl ?_
      refine gX5_26 (q := 79) dX5_windowOf_76 rfl ?_
      refine gX5_196 (q := 82) dX5_windowOf_79 rfl ?_
      refine r_iload_n (q := 83) dX5_windowOf_82 rfl rfl ?_
      refine r_ialdW (q := 84) hV dX5_windowOf_83 rfl LA20 rfl (by decide) (by omega) ?_
      exact r_retI dX5_windowOf_84 (fb_ok (by rw [cWO, if_neg c8]; exact if_neg (by decide)) (by rw [hwc, vWO_2]; exact hwi.2.2.2.2.1) hV hJ)
    · refine r_tableIn (q := 85) dX5_windowOf_18 (by decide) (by decide) rfl (by decide) ?_
      refine r_aload_n (q := 86) dX5_windowOf_85 rfl rfl ?_
      refine r_iload_n (q := 87) dX5_windowOf_86 rfl rfl ?_
      refine r_cI1 (q := 90) vX5_199 dX5_windowOf_87 rfl LYX5 rfl (Nat.le_of_ble_eq_true rfl) (by decide) (by decide) (c_X5_firstFall _ V hV hG hJ w (by omega) hw) ?_
      rintro _ sF ⟨rfl, hVF, hJF⟩
      refine r_bipush (q := 92) (v := -9) dX5_windowOf_90 rfl (by decide) ?_
      refine r_icmp_ne (t := 99) (q := 95) dX5_windowOf_92 (by decide) rfl (fun c92 => ?_) (fun c92 => ?_)
      · refine r_iconst (q := 100) (v := nI 0) dX5_windowOf_99 rfl (by decide) ?_
        exact r_retI dX5_windowOf_100 (fb_ok (by rw [cWO, if_neg c8]; exact if_neg (by decide)) (by rw [hwc, vWO_3]; first | rw [if_pos (by assumption)] | rw [if_neg (by assumption)]) hVF hJF)
      · refine r_iconst (q := 96) (v := nI 1) dX5_windowOf_95 rfl (by decide) ?_
        refine r_goto (q := 100) dX5_windowOf_96 (by decide) ?_
        exact r_retI dX5_windowOf_100 (fb_ok (by rw [cWO, if_neg c8]; exact if_neg (by decide)) (by rw [hwc, vWO_3]; first | rw [if_pos (by assumption)] | rw [if_neg (by assumption)]) hVF hJF)
    · refine r_tableIn (q := 101) dX5_windowOf_18 (by decide) (by decide) rfl (by decide) ?_
      refine r_aload_n (q := 102) dX5_windowOf_101 rfl rfl ?_
      refine gX5_26 (q := 105) dX5_windowOf_102 rfl ?_
      refine r_iload_n (q := 106) dX5_windowOf_105 rfl rfl ?_
      refine r_cI1 (q := 109) vX5_202 dX5_windowOf_106 rfl LYX4 rfl (Nat.le_of_ble_eq_true rfl) (by decide) (by decide) (c_X4_isKept _ V hV hG w (by omega)) ?_
      rintro _ τ0 ⟨rfl, hτ0⟩
      rw [hτ0]
      clear hτ0
      refine r_if_eqN (t := 116) (q := 112) dX5_windowOf_109 (by decide) rfl (by have := kept_le V w; omega) (fun c109 => ?_) (fun c109 => ?_)
      · refine r_iconst (q := 117) (v := nI 0) dX5_windowOf_116 rfl (by decide) ?_
        exact r_retI dX5_windowOf_117 (fb_ok (by rw [cWO, if_neg c8]; exact if_neg (by decide)) (by have h1 := kept_le V w; rw [hwc, vWO_4]; congr 1; omega) hV hJ)
      · refine r_iconst (q := 113) (v := nI 1) dX5_windowOf_112 rfl (by decide) ?_
        refine r_goto (q := 117) dX5_windowOf_113 (by decide) ?_
        exact r_retI dX5_windowOf_117 (fb_ok (by rw [cWO, if_neg c8]; exact if_neg (by decide)) (by have h1 := kept_le V w; rw [hwc, vWO_4]; congr 1; omega) hV hJ)
    · refine r_tableIn (q := 118) dX5_windowOf_18 (by decide) (by decide) rfl (by decide) ?_
      refine r_aload_n (q := 119) dX5_windowOf_118 rfl rfl ?_
      refine r_iload_n (q := 120) dX5_windowOf_119 rfl rfl ?_
      refine r_cI1 (q := 123) vX5_199 dX5_windowOf_120 rfl LYX5 rfl (Nat.le_of_ble_eq_true rfl) (by decide) (by decide) (c_X5_firstFall _ V hV hG hJ w (by omega) hw) ?_
      rintro _ sF ⟨rfl, hVF, hJF⟩
      exact r_retI dX5_windowOf_123 (fb_ok (by rw [cWO, if_neg c8]; exact if_neg (by decide)) (by rw [hwc, vWO_5]) hVF hJF)
    · refine r_tableOut (q := 124) dX5_windowOf_18 hsw (by decide) ?_
      refine r_aload_n (q := 125) dX5_windowOf_124 rfl rfl ?_
      refine r_bipush (q := 127) (v := -2) dX5_windowOf_125 rfl (by decide) ?_
      refine r_cI1 (q := 130) vX5_154 dX5_windowOf_127 rfl LYX5 rfl (Nat.le_of_ble_eq_true rfl) (by decide) (by decide) (c_X5_refuseAsTold _ V hV (-2) 2 rfl (by decide) (by decide)) ?_
      rintro _ τR ⟨rfl, hRf, r32⟩
      exact r_retI dX5_windowOf_130 (fb_bad (by rw [cWO, if_neg c8, if_pos (ix6 hsw)]) (by decide) hRf (hJ.c r32))
  · refine r_aload_n (q := 12) dX5_windowOf_11 rfl rfl ?_
    refine r_iconst (q := 13) (v := -1) dX5_windowOf_12 rfl (by decide) ?_
    refine r_cI1 (q := 16) vX5_154 dX5_windowOf_13 rfl LYX5 rfl (Nat.le_of_ble_eq_true rfl) (by decide) (by decide) (c_X5_refuseAsTold _ V hV (-1) 1 rfl (by decide) (by decide)) ?_
    rintro _ τR ⟨rfl, hRf, r32⟩
    exact r_retI dX5_windowOf_16 (fb_bad (by rw [cWO, if_pos c8]) (by decide) hRf (hJ.c r32))
theorem in10 {x : Int32} (h1 : ¬ x ≤ nI 10) (h2 : ¬ nI 16 < x) : ¬ inN x (nI 11) (nI 16) = 0 ∧ (x.toInt < 0 ∨ 5 < x.toInt) := by
  rw [Int32.le_iff_toInt_le, show (nI 10).toInt = 10 from rfl] at h1
  refine ⟨?_, by omega⟩
  unfold inN
  rw [if_neg (by rw [Int32.lt_iff_toInt_lt, show (nI 11).toInt = 11 from rfl]; omega), if_neg h2]
  decide
theorem in10_n {x : Int32} (h : x ≤ nI 10 ∨ nI 16 < x) : inN x (nI 11) (nI 16) = 0 := by
  unfold inN
  rcases h with h | h
  · rw [Int32.le_iff_toInt_le, show (nI 10).toInt = 10 from rfl] at h
    rw [if_pos (by rw [Int32.lt_iff_toInt_lt, show (nI 11).toInt = 11 from rfl]; omega)]
  · by_cases h2 : x < nI 11
    · rw [if_pos h2]
    · rw [if_neg h2, if_pos h]
set_option maxRecDepth 100000 in
set_option maxHeartbeats 4000000 in
theorem c_X5_count (σ V : St) (hV : vw σ = V) (hG : GOOD V) (hJ : J V σ) (x : Int32) : Cl LAYC yX5_count cX5_count 2 (some .int) 6 160 [.ref 0, .int x] σ (EI (fun v τ => v = vCn V x ∧ fin V τ)) := by
  have hI := hG.1.1
  have hR := hG.2
  have hnw := bd hI 33 19 20 rfl rfl
  have hnb := bd hI 33 7 40 rfl rfl
  refine Cl.of 0 rfl rfl EI.ok ?_
  show Rn LAYC none RX5 _ _ _ _ 0 [some (.ref 0), some (.int x)] [] _ _
  refine r_iload_n (q := 1) dX5_count_0 rfl rfl ?_
  refine r_bipush (q := 3) (v := nI 10) dX5_count_1 rfl (by decide) ?_
  refine r_icmp_le (t := 22) (q := 6) dX5_count_3 (by decide) rfl (fun c3 => ?_) (fun c3 => ?_)
  · refine r_iload_n (q := 23) dX5_count_22 rfl rfl ?_
    have hno := in10_n (x := x) (Or.inl c3)
    clear c3
    rcases sw6 x with rfl | rfl | rfl | rfl | rfl | rfl | hsw
    · refine r_tableIn (q := 60) dX5_count_23 (by decide) (by decide) rfl (by decide) ?_
      refine r_aload_n (q := 61) dX5_count_60 rfl rfl ?_
      refine gvX5_58 (q := 64) hV hI dX5_count_61 rfl ?_
      exact r_retI dX5_count_64 ⟨by rw [vCn_0, hR.year], hV, hJ⟩
    · refine r_tableIn (q := 65) dX5_count_23 (by decide) (by decide) rfl (by decide) ?_
      refine r_aload_n (q := 66) dX5_count_65 rfl rfl ?_
      refine gX5_19 (q := 69) dX5_count_66 rfl ?_
      refine gvX5_205 (q := 72) hV hI dX5_count_69 rfl ?_
      exact r_retI dX5_count_72 ⟨by rw [vCn_1, hR.nb], hV, hJ⟩
    · refine r_tableIn (q := 73) dX5_count_23 (by decide) (by decide) rfl (by decide) ?_
      refine r_aload_n (q := 74) dX5_count_73 rfl rfl ?_
      refine gX5_26 (q := 77) dX5_count_74 rfl ?_
      refine gvX5_208 (q := 80) hV hI dX5_count_77 rfl ?_
      exact r_retI dX5_count_80 ⟨by rw [vCn_2, hR.nw], hV, hJ⟩
    · refine r_tableIn (q := 81) dX5_count_23 (by decide) (by decide) rfl (by decide) ?_
      refine r_aload_n (q := 82) dX5_count_81 rfl rfl ?_
      refine gX5_10 (q := 85) dX5_count_82 rfl ?_
      refine r_cI0 (q := 88) vX5_209 dX5_count_85 rfl LYX3 rfl (Nat.le_of_ble_eq_true rfl) (by decide) (by decide) (c_X3_minutesInAll _ V hV hG) ?_
      rintro _ τ0 ⟨rfl, hτ0⟩
      rw [hτ0]
      clear hτ0
      exact r_retI dX5_count_88 ⟨by rw [vCn_3], hV, hJ⟩
    · refine r_tableIn (q := 89) dX5_count_23 (by decide) (by decide) rfl (by decide) ?_
      refine r_aload_n (q := 90) dX5_count_89 rfl rfl ?_
      refine r_cI0 (q := 93) vX5_213 dX5_count_90 rfl LYX5 rfl (Nat.le_of_ble_eq_true rfl) (by decide) (by decide) (c_X5_lawfulWindows _ V hV hG hJ) ?_
      rintro _ sF ⟨rfl, hVF, hJF⟩
      exact r_retI dX5_count_93 ⟨by rw [vCn_4], hVF, hJF⟩
    · refine r_tableIn (q := 94) dX5_count_23 (by decide) (by decide) rfl (by decide) ?_
      refine r_aload_n (q := 95) dX5_count_94 rfl rfl ?_
      refine gX5_26 (q := 98) dX5_count_95 rfl ?_
      refine r_cI0 (q := 101) vX5_216 dX5_count_98 rfl LYX4 rfl (Nat.le_of_ble_eq_true rfl) (by decide) (by decide) (c_X4_keptOnes _ V hV hG) ?_
      rintro _ τ0 ⟨rfl, hτ0⟩
      rw [hτ0]
      clear hτ0
      exact r_retI dX5_count_101 ⟨by rw [vCn_5], hV, hJ⟩
    · refine r_tableOut (q := 102) dX5_count_23 hsw (by decide) ?_
      refine r_bipush (q := 104) (v := -9) dX5_count_102 rfl (by decide) ?_
      exact r_retI dX5_count_104 ⟨by rw [vCn_out hsw, if_pos hno], hV, hJ⟩
  · refine r_iload_n (q := 7) dX5_count_6 rfl rfl ?_
    refine r_bipush (q := 9) (v := nI 16) dX5_count_7 rfl (by decide) ?_
    refine r_icmp_gt (t := 22) (q := 12) dX5_count_9 (by decide) rfl (fun c9 => ?_) (fun c9 => ?_)
    · refine r_iload_n (q := 23) dX5_count_22 rfl rfl ?_
      have hno := in10_n (x := x) (Or.inr c9)
      clear c3 c9
      rcases sw6 x with rfl | rfl | rfl | rfl | rfl | rfl | hsw
      · refine r_tableIn (q := 60) dX5_count_23 (by decide) (by decide) rfl (by decide) ?_
        refine r_aload_n (q := 61) dX5_count_60 rfl rfl ?_
        refine gvX5_58 (q := 64) hV hI dX5_count_61 rfl ?_
        exact r_retI dX5_count_64 ⟨by rw [vCn_0, hR.year], hV, hJ⟩
      · refine r_tableIn (q := 65) dX5_count_23 (by decide) (by decide) rfl (by decide) ?_
        refine r_aload_n (q := 66) dX5_count_65 rfl rfl ?_
        refine gX5_19 (q := 69) dX5_count_66 rfl ?_
        refine gvX5_205 (q := 72) hV hI dX5_count_69 rfl ?_
        exact r_retI dX5_count_72 ⟨by rw [vCn_1, hR.nb], hV, hJ⟩
      · refine r_tableIn (q := 73) dX5_count_23 (by decide) (by decide) rfl (by decide) ?_
        refine r_aload_n (q := 74) dX5_count_73 rfl rfl ?_
        refine gX5_26 (q := 77) dX5_count_74 rfl ?_
        refine gvX5_208 (q := 80) hV hI dX5_count_77 rfl ?_
        exact r_retI dX5_count_80 ⟨by rw [vCn_2, hR.nw], hV, hJ⟩
      · refine r_tableIn (q := 81) dX5_count_23 (by decide) (by decide) rfl (by decide) ?_
        refine r_aload_n (q := 82) dX5_count_81 rfl rfl ?_
        refine gX5_10 (q := 85) dX5_count_82 rfl ?_
        refine r_cI0 (q := 88) vX5_209 dX5_count_85 rfl LYX3 rfl (Nat.le_of_ble_eq_true rfl) (by decide) (by decide) (c_X3_minutesInAll _ V hV hG) ?_
        rintro _ τ0 ⟨rfl, hτ0⟩
        rw [hτ0]
        clear hτ0
        exact r_retI dX5_count_88 ⟨by rw [vCn_3], hV, hJ⟩
      · refine r_tableIn (q := 89) dX5_count_23 (by decide) (by decide) rfl (by decide) ?_
        refine r_aload_n (q := 90) dX5_count_89 rfl rfl ?_
        refine r_cI0 (q := 93) vX5_213 dX5_count_90 rfl LYX5 rfl (Nat.le_of_ble_eq_true rfl) (by decide) (by decide) (c_X5_lawfulWindows _ V hV hG hJ) ?_
        rintro _ sF ⟨rfl, hVF, hJF⟩
        exact r_retI dX5_count_93 ⟨by rw [vCn_4], hVF, hJF⟩
      · refine r_tableIn (q := 94) dX5_count_23 (by decide) (by decide) rfl (by decide) ?_
        refine r_aload_n (q := 95) dX5_count_94 rfl rfl ?_
        refine gX5_26 (q := 98) dX5_count_95 rfl ?_
        refine r_cI0 (q := 101) vX5_216 dX5_count_98 rfl LYX4 rfl (Nat.le_of_ble_eq_true rfl) (by decide) (by decide) (c_X4_keptOnes _ V hV hG) ?_
        rintro _ τ0 ⟨rfl, hτ0⟩
        rw [hτ0]
        clear hτ0
        exact r_retI dX5_count_101 ⟨by rw [vCn_5], hV, hJ⟩
      · refine r_tableOut (q := 102) dX5_count_23 hsw (by decide) ?_
        refine r_bipush (q := 104) (v := -9) dX5_count_102 rfl (by decide) ?_
        exact r_retI dX5_count_104 ⟨by rw [vCn_out hsw, if_pos hno], hV, hJ⟩
    · obtain ⟨hin, hsw⟩ := in10 c3 c9
      obtain ⟨j, hj, ej⟩ := in_10 hin
      refine r_aload_n (q := 13) dX5_count_12 rfl rfl ?_
      refine gX5_48 (q := 16) dX5_count_13 rfl ?_
      refine r_iload_n (q := 17) dX5_count_16 rfl rfl ?_
      refine r_bipush (q := 19) (v := nI 10) dX5_count_17 rfl (by decide) ?_
      refine r_isub (q := 20) dX5_count_19 rfl ?_
      refine r_as ej ?_
      refine r_ialdW (q := 21) hV dX5_count_20 rfl LA31 rfl (by decide) (by omega) ?_
      exact r_retI dX5_count_21 ⟨by rw [vCn_out hsw, if_neg hin, ej, nI_clamp (by omega), ← hR.rfs], hV, hJ⟩
