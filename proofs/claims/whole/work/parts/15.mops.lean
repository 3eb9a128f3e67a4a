set_option maxRecDepth 100000 in
set_option maxHeartbeats 4000000 in
theorem c_X6_refuse (σ V : St) (hV : vwM σ = V) (what : Int32) (j : Nat) (hj : -what = nI j) (h : j < 7) : Cl LAY yX6_refuse cX6_refuse 2 (some .int) 0 0 [.ref 33, .int what] σ (EI (fun v τ => v = what ∧ vwM τ = rfM V what)) := by
  refine Cl.of 0 rfl rfl EI.ok ?_
  show Rn LAY none RX6 _ _ _ _ 0 [some (.ref 33), some (.int what)] [] _ _
  refine r_aload_n (q := 1) dX6_refuse_0 rfl rfl ?_
  refine gX6_87 (q := 4) dX6_refuse_1 rfl ?_
  refine r_iload_n (q := 5) dX6_refuse_4 rfl rfl ?_
  refine r_ineg (q := 6) dX6_refuse_5 rfl ?_
  refine r_as hj ?_
  refine r_dup2 (q := 7) dX6_refuse_6 rfl ?_
  refine r_ialdWM (q := 8) hV dX6_refuse_7 rfl LA58 rfl (by decide) (by omega) ?_
  refine r_iconst (q := 9) (v := nI 1) dX6_refuse_8 rfl (by decide) ?_
  refine r_iadd (q := 10) dX6_refuse_9 rfl ?_
  refine r_iastPM (q := 11) hV dX6_refuse_10 rfl LA58 rfl (by omega) (by decide) (fun s10 hV10 => ?_)
  refine r_iload_n (q := 12) dX6_refuse_11 rfl rfl ?_
  exact r_retI dX6_refuse_12 ⟨rfl, by rw [rfM, hj, nI_clamp (by omega)]; exact hV10⟩
set_option maxRecDepth 100000 in
set_option maxHeartbeats 4000000 in
theorem c_X6_refuseBig (σ V : St) (hV : vwM σ = V) (what : Int32) (j : Nat) (hj : -what = nI j) (h : j < 7) : Cl LAY yX6_refuseBig cX6_refuseBig 2 (some .int) 0 0 [.ref 33, .int what] σ (EI (fun v τ => v = 1000000 - what ∧ vwM τ = rfM V what)) := by
  refine Cl.of 0 rfl rfl EI.ok ?_
  show Rn LAY none RX6 _ _ _ _ 0 [some (.ref 33), some (.int what)] [] _ _
  refine r_aload_n (q := 1) dX6_refuseBig_0 rfl rfl ?_
  refine gX6_87 (q := 4) dX6_refuseBig_1 rfl ?_
  refine r_iload_n (q := 5) dX6_refuseBig_4 rfl rfl ?_
  refine r_ineg (q := 6) dX6_refuseBig_5 rfl ?_
  refine r_as hj ?_
  refine r_dup2 (q := 7) dX6_refuseBig_6 rfl ?_
  refine r_ialdWM (q := 8) hV dX6_refuseBig_7 rfl LA58 rfl (by decide) (by omega) ?_
  refine r_iconst (q := 9) (v := nI 1) dX6_refuseBig_8 rfl (by decide) ?_
  refine r_iadd (q := 10) dX6_refuseBig_9 rfl ?_
  refine r_iastPM (q := 11) hV dX6_refuseBig_10 rfl LA58 rfl (by omega) (by decide) (fun s10 hV10 => ?_)
  refine r_ldc (q := 13) dX6_refuseBig_11 rfl kX6_96 ?_
  refine r_iload_n (q := 14) dX6_refuseBig_13 rfl rfl ?_
  refine r_isub (q := 15) dX6_refuseBig_14 rfl ?_
  exact r_retI dX6_refuseBig_15 ⟨rfl, by rw [rfM, hj, nI_clamp (by omega)]; exact hV10⟩
theorem ites_n {a b : Nat} (h : a = b) : nI a = nI b := by rw [h]
set_option maxRecDepth 100000 in
set_option maxHeartbeats 4000000 in
theorem c_X6_minute (σ V : St) (hV : vwM σ = V) (hI : InvN V) (d x y z : Int32) : Cl LAY yX6_minute cX6_minute 6 (some .int) 2 42 [.ref 33, .int d, .int x, .int y, .int z] σ (EI (fun v τ => v = resO (cMinute V d x y z) (nI (nv V 34 d.toNatClampNeg)) ∧ vwM τ = stO (cMinute V d x y z) (wr (wr (wr (wr V 35 (24 * d.toNatClampNeg + nv V 34 d.toNatClampNeg) x) 36 (24 * d.toNatClampNeg + nv V 34 d.toNatClampNeg) y) 37 (24 * d.toNatClampNeg + nv V 34 d.toNatClampNeg) z) 34 d.toNatClampNeg (nI (nv V 34 d.toNatClampNeg + 1))) (rfM V (cMinute V d x y z)))) := by
  refine Cl.of 1 rfl rfl EI.ok ?_
  show Rn LAY none RX6 _ _ _ _ 0 [some (.ref 33), some (.int d), some (.int x), some (.int y), some (.int z), none] [] _ _
  refine r_iload_n (q := 1) dX6_minute_0 rfl rfl ?_
  refine r_sI1 (q := 4) vX6_107 dX6_minute_1 rfl (Nat.le_of_ble_eq_true rfl) (by decide) (by decide) (c_X6_isDay _ _) ?_
  rintro _ _ ⟨rfl, rfl⟩
  refine r_if_neN (t := 13) (q := 7) dX6_minute_4 (by decide) rfl (by have := ix_le d 8; omega) (fun c4 => ?_) (fun c4 => ?_)
  · obtain ⟨d, hd, rfl⟩ := ix_of c4
    have hdc := nI_clamp (n := d) (by omega)
    have hmn := bd hI 34 d 24 rfl rfl
    refine r_iload_n (q := 14) dX6_minute_13 rfl rfl ?_
    refine r_bipush (q := 16) (v := -50) dX6_minute_14 rfl (by decide) ?_
    refine r_icmp_lt (t := 31) (q := 19) dX6_minute_16 (by decide) rfl (fun c16 => ?_) (fun c16 => ?_)
    · refine r_aload_n (q := 32) dX6_minute_31 rfl rfl ?_
      refine r_bipush (q := 34) (v := -4) dX6_minute_32 rfl (by decide) ?_
      refine r_cI1 (q := 37) vX6_111 dX6_minute_34 rfl LYX6 rfl (Nat.le_of_ble_eq_true rfl) (by decide) (by decide) (c_X6_refuse _ V hV (-4) 4 rfl (by decide)) ?_
      rintro _ τ ⟨rfl, hR⟩
      exact r_retI dX6_minute_37 (eo_bad (by first | (simp [cMinute, *]; done) | (unfold cMinute; (try simp only [hdc]); (repeat' split); all_goals first | rfl | contradiction | omega | (exfalso; simp only [Int32.lt_iff_toInt_lt, Int32.le_iff_toInt_le] at *; omega))) (by decide) hR)
    · refine r_iload_n (q := 20) dX6_minute_19 rfl rfl ?_
      refine r_bipush (q := 22) (v := -50) dX6_minute_20 rfl (by decide) ?_
      refine r_icmp_lt (t := 31) (q := 25) dX6_minute_22 (by decide) rfl (fun c22 => ?_) (fun c22 => ?_)
      · refine r_aload_n (q := 32) dX6_minute_31 rfl rfl ?_
        refine r_bipush (q := 34) (v := -4) dX6_minute_32 rfl (by decide) ?_
        refine r_cI1 (q := 37) vX6_111 dX6_minute_34 rfl LYX6 rfl (Nat.le_of_ble_eq_true rfl) (by decide) (by decide) (c_X6_refuse _ V hV (-4) 4 rfl (by decide)) ?_
        rintro _ τ ⟨rfl, hR⟩
        exact r_retI dX6_minute_37 (eo_bad (by first | (simp [cMinute, *]; done) | (unfold cMinute; (try simp only [hdc]); (repeat' split); all_goals first | rfl | contradiction | omega | (exfalso; simp only [Int32.lt_iff_toInt_lt, Int32.le_iff_toInt_le] at *; omega))) (by decide) hR)
      · refine r_iload (q := 27) dX6_minute_25 rfl rfl ?_
        refine r_iconst (q := 28) (v := nI 1) dX6_minute_27 rfl (by decide) ?_
        refine r_icmp_ge (t := 38) (q := 31) dX6_minute_28 (by decide) rfl (fun c28 => ?_) (fun c28 => ?_)
        · refine r_iload_n (q := 39) dX6_minute_38 rfl rfl ?_
          refine r_bipush (q := 41) (v := nI 50) dX6_minute_39 rfl (by decide) ?_
          refine r_icmp_gt (t := 68) (q := 44) dX6_minute_41 (by decide) rfl (fun c41 => ?_) (fun c41 => ?_)
          · refine r_aload_n (q := 69) dX6_minute_68 rfl rfl ?_
            refine r_bipush (q := 71) (v := -6) dX6_minute_69 rfl (by decide) ?_
            refine r_cI1 (q := 74) vX6_111 dX6_minute_71 rfl LYX6 rfl (Nat.le_of_ble_eq_true rfl) (by decide) (by decide) (c_X6_refuse _ V hV (-6) 6 rfl (by decide)) ?_
            rintro _ τ ⟨rfl, hR⟩
            exact r_retI dX6_minute_74 (eo_bad (by first | (simp [cMinute, *]; done) | (unfold cMinute; (try simp only [hdc]); (repeat' split); all_goals first | rfl | contradiction | omega | (exfalso; simp only [Int32.lt_iff_toInt_lt, Int32.le_iff_toInt_le] at *; omega))) (by decide) hR)
          · refine r_iload_n (q := 45) dX6_minute_44 rfl rfl ?_
            refine r_bipush (q := 47) (v := nI 50) dX6_minute_45 rfl (by decide) ?_
            refine r_icmp_gt (t := 68) (q := 50) dX6_minute_47 (by decide) rfl (fun c47 => ?_) (fun c47 => ?_)
            · refine r_aload_n (q := 69) dX6_minute_68 rfl rfl ?_
              refine r_bipush (q := 71) (v := -6) dX6_minute_69 rfl (by decide) ?_
              refine r_cI1 (q := 74) vX6_111 dX6_minute_71 rfl LYX6 rfl (Nat.le_of_ble_eq_true rfl) (by decide) (by decide) (c_X6_refuse _ V hV (-6) 6 rfl (by decide)) ?_
              rintro _ τ ⟨rfl, hR⟩
              exact r_retI dX6_minute_74 (eo_bad (by first | (simp [cMinute, *]; done) | (unfold cMinute; (try simp only [hdc]); (repeat' split); all_goals first | rfl | contradiction | omega | (exfalso; simp only [Int32.lt_iff_toInt_lt, Int32.le_iff_toInt_le] at *; omega))) (by decide) hR)
            · refine r_iload (q := 52) dX6_minute_50 rfl rfl ?_
              refine r_bipush (q := 54) (v := nI 50) dX6_minute_52 rfl (by decide) ?_
              refine r_icmp_gt (t := 68) (q := 57) dX6_minute_54 (by decide) rfl (fun c54 => ?_) (fun c54 => ?_)
              · refine r_aload_n (q := 69) dX6_minute_68 rfl rfl ?_
                refine r_bipush (q := 71) (v := -6) dX6_minute_69 rfl (by decide) ?_
                refine r_cI1 (q := 74) vX6_111 dX6_minute_71 rfl LYX6 rfl (Nat.le_of_ble_eq_true rfl) (by decide) (by decide) (c_X6_refuse _ V hV (-6) 6 rfl (by decide)) ?_
                rintro _ τ ⟨rfl, hR⟩
                exact r_retI dX6_minute_74 (eo_bad (by first | (simp [cMinute, *]; done) | (unfold cMinute; (try simp only [hdc]); (repeat' split); all_goals first | rfl | contradiction | omega | (exfalso; simp only [Int32.lt_iff_toInt_lt, Int32.le_iff_toInt_le] at *; omega))) (by decide) hR)
              · refine r_aload_n (q := 58) dX6_minute_57 rfl rfl ?_
                refine gX6_7 (q := 61) dX6_minute_58 rfl ?_
                refine r_iload_n (q := 62) dX6_minute_61 rfl rfl ?_
                refine r_ialdVM (q := 63) hV hI dX6_minute_62 rfl LA34 rfl rfl (by decide) (by omega) ?_
                refine r_bipush (q := 65) (v := nI 24) dX6_minute_63 rfl (by decide) ?_
                refine r_icmp_neN (t := 75) (q := 68) dX6_minute_65 (by decide) rfl (by have := bd hI 34 d 24 rfl rfl; omega) (by omega) (fun c65 => ?_) (fun c65 => ?_)
                · refine r_bipush (q := 77) (v := nI 24) dX6_minute_75 rfl (by decide) ?_
                  refine r_iload_n (q := 78) dX6_minute_77 rfl rfl ?_
                  refine r_imulN (q := 79) dX6_minute_78 rfl ?_
                  refine r_aload_n (q := 80) dX6_minute_79 rfl rfl ?_
                  refine gX6_7 (q := 83) dX6_minute_80 rfl ?_
                  refine r_iload_n (q := 84) dX6_minute_83 rfl rfl ?_
                  refine r_ialdVM (q := 85) hV hI dX6_minute_84 rfl LA34 rfl rfl (by decide) (by omega) ?_
                  refine r_iaddN (q := 86) dX6_minute_85 rfl ?_
                  refine r_istore (q := 88) dX6_minute_86 rfl (Nat.le_of_ble_eq_true rfl) ?_
                  refine r_aload_n (q := 89) dX6_minute_88 rfl rfl ?_
                  refine gX6_13 (q := 92) dX6_minute_89 rfl ?_
                  refine r_iload (q := 94) dX6_minute_92 rfl rfl ?_
                  refine r_iload_n (q := 95) dX6_minute_94 rfl rfl ?_
                  refine r_iastPM (q := 96) hV dX6_minute_95 rfl LA35 rfl (by omega) (by decide) (fun s95 hV95 => ?_)
                  refine r_aload_n (q := 97) dX6_minute_96 rfl rfl ?_
                  refine gX6_16 (q := 100) dX6_minute_97 rfl ?_
                  refine r_iload (q := 102) dX6_minute_100 rfl rfl ?_
                  refine r_iload_n (q := 103) dX6_minute_102 rfl rfl ?_
                  refine r_iastPM (q := 104) hV95 dX6_minute_103 rfl LA36 rfl (by omega) (by decide) (fun s103 hV103 => ?_)
                  refine r_aload_n (q := 105) dX6_minute_104 rfl rfl ?_
                  refine gX6_19 (q := 108) dX6_minute_105 rfl ?_
                  refine r_iload (q := 110) dX6_minute_108 rfl rfl ?_
                  refine r_iload (q := 112) dX6_minute_110 rfl rfl ?_
                  refine r_iastPM (q := 113) hV103 dX6_minute_112 rfl LA37 rfl (by omega) (by decide) (fun s112 hV112 => ?_)
                  refine r_aload_n (q := 114) dX6_minute_113 rfl rfl ?_
                  refine gX6_7 (q := 117) dX6_minute_114 rfl ?_
                  refine r_iload_n (q := 118) dX6_minute_117 rfl rfl ?_
                  refine r_dup2 (q := 119) dX6_minute_118 rfl ?_
                  refine r_iald (q := 120) dX6_minute_119 rfl LA34 (by omega) (by decide) ?_
                  refine r_as (y := nI (nv V 34 d)) (by rw [vwM_at hV112 rfl]; exact (hI 34 d rfl).1) ?_
                  refine r_iconst (q := 121) (v := nI 1) dX6_minute_120 rfl (by decide) ?_
                  refine r_iaddN (q := 122) dX6_minute_121 rfl ?_
                  refine r_iastPM (q := 123) hV112 dX6_minute_122 rfl LA34 rfl (by omega) (by decide) (fun s122 hV122 => ?_)
                  refine r_aload_n (q := 124) dX6_minute_123 rfl rfl ?_
                  refine gX6_7 (q := 127) dX6_minute_124 rfl ?_
                  refine r_iload_n (q := 128) dX6_minute_127 rfl rfl ?_
                  refine r_iald (q := 129) dX6_minute_128 rfl LA34 (by omega) (by decide) ?_
                  refine r_as (y := nI (nv V 34 d + 1)) (by rw [vwM_at hV122 rfl, wr_at, if_pos ⟨rfl, rfl⟩]) ?_
                  refine r_iconst (q := 130) (v := nI 1) dX6_minute_129 rfl (by decide) ?_
                  refine r_isubN (q := 131) dX6_minute_130 rfl (by omega) ?_
                  exact r_retI dX6_minute_131 (eo_ok (by first | (simp [cMinute, *]; done) | (unfold cMinute; (try simp only [hdc]); (repeat' split); all_goals first | rfl | contradiction | omega | (exfalso; simp only [Int32.lt_iff_toInt_lt, Int32.le_iff_toInt_le] at *; omega))) (by rw [hdc]; rfl) (by rw [hdc]; exact hV122))
                · refine r_aload_n (q := 69) dX6_minute_68 rfl rfl ?_
                  refine r_bipush (q := 71) (v := -6) dX6_minute_69 rfl (by decide) ?_
                  refine r_cI1 (q := 74) vX6_111 dX6_minute_71 rfl LYX6 rfl (Nat.le_of_ble_eq_true rfl) (by decide) (by decide) (c_X6_refuse _ V hV (-6) 6 rfl (by decide)) ?_
                  rintro _ τ ⟨rfl, hR⟩
                  exact r_retI dX6_minute_74 (eo_bad (by first | (simp [cMinute, *]; done) | (unfold cMinute; (try simp only [hdc]); (repeat' split); all_goals first | rfl | contradiction | omega | (exfalso; simp only [Int32.lt_iff_toInt_lt, Int32.le_iff_toInt_le] at *; omega))) (by decide) hR)
        · refine r_aload_n (q := 32) dX6_minute_31 rfl rfl ?_
          refine r_bipush (q := 34) (v := -4) dX6_minute_32 rfl (by decide) ?_
          refine r_cI1 (q := 37) vX6_111 dX6_minute_34 rfl LYX6 rfl (Nat.le_of_ble_eq_true rfl) (by decide) (by decide) (c_X6_refuse _ V hV (-4) 4 rfl (by decide)) ?_
          rintro _ τ ⟨rfl, hR⟩
          exact r_retI dX6_minute_37 (eo_bad (by first | (simp [cMinute, *]; done) | (unfold cMinute; (try simp only [hdc]); (repeat' split); all_goals first | rfl | contradiction | omega | (exfalso; simp only [Int32.lt_iff_toInt_lt, Int32.le_iff_toInt_le] at *; omega))) (by decide) hR)
  · refine r_aload_n (q := 8) dX6_minute_7 rfl rfl ?_
    refine r_iconst (q := 9) (v := -1) dX6_minute_8 rfl (by decide) ?_
    refine r_cI1 (q := 12) vX6_111 dX6_minute_9 rfl LYX6 rfl (Nat.le_of_ble_eq_true rfl) (by decide) (by decide) (c_X6_refuse _ V hV (-1) 1 rfl (by decide)) ?_
    rintro _ τ ⟨rfl, hR⟩
    exact r_retI dX6_minute_12 (eo_bad (by first | (simp [cMinute, *]; done) | (unfold cMinute; (try simp only [hdc]); (repeat' split); all_goals first | rfl | contradiction | omega | (exfalso; simp only [Int32.lt_iff_toInt_lt, Int32.le_iff_toInt_le] at *; omega))) (by decide) hR)
set_option maxRecDepth 100000 in
set_option maxHeartbeats 4000000 in
theorem c_X6_block (σ V : St) (hV : vwM σ = V) (hI : InvN V) (k x0 x1 y0 y1 f t : Int32) : Cl LAY yX6_block cX6_block 8 (some .int) 1 22 [.ref 33, .int k, .int x0, .int x1, .int y0, .int y1, .int f, .int t] σ (EI (fun v τ => v = resO (cBlock V k x0 x1 y0 y1 f t) (nI (nv V 33 7)) ∧ vwM τ = stO (cBlock V k x0 x1 y0 y1 f t) (wr (wr (wr (wr (wr (wr (wr (wr (wr V 39 (nv V 33 7) k) 40 (nv V 33 7) x0) 41 (nv V 33 7) x1) 42 (nv V 33 7) y0) 43 (nv V 33 7) y1) 44 (nv V 33 7) f) 45 (nv V 33 7) t) 46 (nv V 33 7) (nI 200)) 33 7 (nI (nv V 33 7 + 1))) (rfM V (cBlock V k x0 x1 y0 y1 f t)))) := by
  have hnb := bd hI 33 7 40 rfl rfl
  refine Cl.of 0 rfl rfl EI.ok ?_
  show Rn LAY none RX6 _ _ _ _ 0 [some (.ref 33), some (.int k), some (.int x0), some (.int x1), some (.int y0), some (.int y1), some (.int f), some (.int t)] [] _ _
  refine r_iload_n (q := 1) dX6_block_0 rfl rfl ?_
  refine r_iconst (q := 2) (v := nI 0) dX6_block_1 rfl (by decide) ?_
  refine r_iconst (q := 3) (v := nI 3) dX6_block_2 rfl (by decide) ?_
  refine r_sI3 (q := 6) vX6_100 dX6_block_3 rfl (Nat.le_of_ble_eq_true rfl) (by decide) (by decide) (c_X6_in _ _ _ _) ?_
  rintro _ _ ⟨rfl, rfl⟩
  refine r_if_neN (t := 16) (q := 9) dX6_block_6 (by decide) rfl (by have := inN_le k (nI 0) (nI 3); omega) (fun c6 => ?_) (fun c6 => ?_)
  · refine r_iload_n (q := 17) dX6_block_16 rfl rfl ?_
    refine r_if_lt (t := 49) (q := 20) dX6_block_17 (by decide) rfl (fun c17 => ?_) (fun c17 => ?_)
    · refine r_aload_n (q := 50) dX6_block_49 rfl rfl ?_
      refine r_bipush (q := 52) (v := -4) dX6_block_50 rfl (by decide) ?_
      refine r_cI1 (q := 55) vX6_111 dX6_block_52 rfl LYX6 rfl (Nat.le_of_ble_eq_true rfl) (by decide) (by decide) (c_X6_refuse _ V hV (-4) 4 rfl (by decide)) ?_
      rintro _ τ ⟨rfl, hR⟩
      exact r_retI dX6_block_55 (eo_bad (by first | (simp [cBlock, *]; done) | (unfold cBlock; (try simp only []); (repeat' split); all_goals first | rfl | contradiction | omega | (exfalso; simp only [Int32.lt_iff_toInt_lt, Int32.le_iff_toInt_le] at *; omega))) (by decide) hR)
    · refine r_iload (q := 22) dX6_block_20 rfl rfl ?_
      refine r_if_lt (t := 49) (q := 25) dX6_block_22 (by decide) rfl (fun c22 => ?_) (fun c22 => ?_)
      · refine r_aload_n (q := 50) dX6_block_49 rfl rfl ?_
        refine r_bipush (q := 52) (v := -4) dX6_block_50 rfl (by decide) ?_
        refine r_cI1 (q := 55) vX6_111 dX6_block_52 rfl LYX6 rfl (Nat.le_of_ble_eq_true rfl) (by decide) (by decide) (c_X6_refuse _ V hV (-4) 4 rfl (by decide)) ?_
        rintro _ τ ⟨rfl, hR⟩
        exact r_retI dX6_block_55 (eo_bad (by first | (simp [cBlock, *]; done) | (unfold cBlock; (try simp only []); (repeat' split); all_goals first | rfl | contradiction | omega | (exfalso; simp only [Int32.lt_iff_toInt_lt, Int32.le_iff_toInt_le] at *; omega))) (by decide) hR)
      · refine r_iload (q := 27) dX6_block_25 rfl rfl ?_
        refine r_if_lt (t := 49) (q := 30) dX6_block_27 (by decide) rfl (fun c27 => ?_) (fun c27 => ?_)
        · refine r_aload_n (q := 50) dX6_block_49 rfl rfl ?_
          refine r_bipush (q := 52) (v := -4) dX6_block_50 rfl (by decide) ?_
          refine r_cI1 (q := 55) vX6_111 dX6_block_52 rfl LYX6 rfl (Nat.le_of_ble_eq_true rfl) (by decide) (by decide) (c_X6_refuse _ V hV (-4) 4 rfl (by decide)) ?_
          rintro _ τ ⟨rfl, hR⟩
          exact r_retI dX6_block_55 (eo_bad (by first | (simp [cBlock, *]; done) | (unfold cBlock; (try simp only []); (repeat' split); all_goals first | rfl | contradiction | omega | (exfalso; simp only [Int32.lt_iff_toInt_lt, Int32.le_iff_toInt_le] at *; omega))) (by decide) hR)
        · refine r_iload_n (q := 31) dX6_block_30 rfl rfl ?_
          refine r_iload_n (q := 32) dX6_block_31 rfl rfl ?_
          refine r_icmp_le (t := 49) (q := 35) dX6_block_32 (by decide) rfl (fun c32 => ?_) (fun c32 => ?_)
          · refine r_aload_n (q := 50) dX6_block_49 rfl rfl ?_
            refine r_bipush (q := 52) (v := -4) dX6_block_50 rfl (by decide) ?_
            refine r_cI1 (q := 55) vX6_111 dX6_block_52 rfl LYX6 rfl (Nat.le_of_ble_eq_true rfl) (by decide) (by decide) (c_X6_refuse _ V hV (-4) 4 rfl (by decide)) ?_
            rintro _ τ ⟨rfl, hR⟩
            exact r_retI dX6_block_55 (eo_bad (by first | (simp [cBlock, *]; done) | (unfold cBlock; (try simp only []); (repeat' split); all_goals first | rfl | contradiction | omega | (exfalso; simp only [Int32.lt_iff_toInt_lt, Int32.le_iff_toInt_le] at *; omega))) (by decide) hR)
          · refine r_iload (q := 37) dX6_block_35 rfl rfl ?_
            refine r_iload (q := 39) dX6_block_37 rfl rfl ?_
            refine r_icmp_le (t := 49) (q := 42) dX6_block_39 (by decide) rfl (fun c39 => ?_) (fun c39 => ?_)
            · refine r_aload_n (q := 50) dX6_block_49 rfl rfl ?_
              refine r_bipush (q := 52) (v := -4) dX6_block_50 rfl (by decide) ?_
              refine r_cI1 (q := 55) vX6_111 dX6_block_52 rfl LYX6 rfl (Nat.le_of_ble_eq_true rfl) (by decide) (by decide) (c_X6_refuse _ V hV (-4) 4 rfl (by decide)) ?_
              rintro _ τ ⟨rfl, hR⟩
              exact r_retI dX6_block_55 (eo_bad (by first | (simp [cBlock, *]; done) | (unfold cBlock; (try simp only []); (repeat' split); all_goals first | rfl | contradiction | omega | (exfalso; simp only [Int32.lt_iff_toInt_lt, Int32.le_iff_toInt_le] at *; omega))) (by decide) hR)
            · refine r_iload (q := 44) dX6_block_42 rfl rfl ?_
              refine r_iload (q := 46) dX6_block_44 rfl rfl ?_
              refine r_icmp_gt (t := 56) (q := 49) dX6_block_46 (by decide) rfl (fun c46 => ?_) (fun c46 => ?_)
              · refine r_iload_n (q := 57) dX6_block_56 rfl rfl ?_
                refine r_sipush (q := 60) (v := nI 200) dX6_block_57 rfl (by decide) ?_
                refine r_icmp_gt (t := 88) (q := 63) dX6_block_60 (by decide) rfl (fun c60 => ?_) (fun c60 => ?_)
                · refine r_aload_n (q := 89) dX6_block_88 rfl rfl ?_
                  refine r_bipush (q := 91) (v := -6) dX6_block_89 rfl (by decide) ?_
                  refine r_cI1 (q := 94) vX6_111 dX6_block_91 rfl LYX6 rfl (Nat.le_of_ble_eq_true rfl) (by decide) (by decide) (c_X6_refuse _ V hV (-6) 6 rfl (by decide)) ?_
                  rintro _ τ ⟨rfl, hR⟩
                  exact r_retI dX6_block_94 (eo_bad (by first | (simp [cBlock, *]; done) | (unfold cBlock; (try simp only []); (repeat' split); all_goals first | rfl | contradiction | omega | (exfalso; simp only [Int32.lt_iff_toInt_lt, Int32.le_iff_toInt_le] at *; omega))) (by decide) hR)
                · refine r_iload (q := 65) dX6_block_63 rfl rfl ?_
                  refine r_sipush (q := 68) (v := nI 200) dX6_block_65 rfl (by decide) ?_
                  refine r_icmp_gt (t := 88) (q := 71) dX6_block_68 (by decide) rfl (fun c68 => ?_) (fun c68 => ?_)
                  · refine r_aload_n (q := 89) dX6_block_88 rfl rfl ?_
                    refine r_bipush (q := 91) (v := -6) dX6_block_89 rfl (by decide) ?_
                    refine r_cI1 (q := 94) vX6_111 dX6_block_91 rfl LYX6 rfl (Nat.le_of_ble_eq_true rfl) (by decide) (by decide) (c_X6_refuse _ V hV (-6) 6 rfl (by decide)) ?_
                    rintro _ τ ⟨rfl, hR⟩
                    exact r_retI dX6_block_94 (eo_bad (by first | (simp [cBlock, *]; done) | (unfold cBlock; (try simp only []); (repeat' split); all_goals first | rfl | contradiction | omega | (exfalso; simp only [Int32.lt_iff_toInt_lt, Int32.le_iff_toInt_le] at *; omega))) (by decide) hR)
                  · refine r_iload (q := 73) dX6_block_71 rfl rfl ?_
                    refine r_sipush (q := 76) (v := nI 200) dX6_block_73 rfl (by decide) ?_
                    refine r_icmp_gt (t := 88) (q := 79) dX6_block_76 (by decide) rfl (fun c76 => ?_) (fun c76 => ?_)
                    · refine r_aload_n (q := 89) dX6_block_88 rfl rfl ?_
                      refine r_bipush (q := 91) (v := -6) dX6_block_89 rfl (by decide) ?_
                      refine r_cI1 (q := 94) vX6_111 dX6_block_91 rfl LYX6 rfl (Nat.le_of_ble_eq_true rfl) (by decide) (by decide) (c_X6_refuse _ V hV (-6) 6 rfl (by decide)) ?_
                      rintro _ τ ⟨rfl, hR⟩
                      exact r_retI dX6_block_94 (eo_bad (by first | (simp [cBlock, *]; done) | (unfold cBlock; (try simp only []); (repeat' split); all_goals first | rfl | contradiction | omega | (exfalso; simp only [Int32.lt_iff_toInt_lt, Int32.le_iff_toInt_le] at *; omega))) (by decide) hR)
                    · refine r_aload_n (q := 80) dX6_block_79 rfl rfl ?_
                      refine gvX6_97 (q := 83) hV hI dX6_block_80 rfl ?_
                      refine r_bipush (q := 85) (v := nI 40) dX6_block_83 rfl (by decide) ?_
                      refine r_icmp_neN (t := 95) (q := 88) dX6_block_85 (by decide) rfl (by have := bd hI 33 7 40 rfl rfl; omega) (by omega) (fun c85 => ?_) (fun c85 => ?_)
                      · refine r_aload_n (q := 96) dX6_block_95 rfl rfl ?_
                        refine gX6_29 (q := 99) dX6_block_96 rfl ?_
                        refine r_aload_n (q := 100) dX6_block_99 rfl rfl ?_
                        refine gvX6_97 (q := 103) hV hI dX6_block_100 rfl ?_
                        refine r_iload_n (q := 104) dX6_block_103 rfl rfl ?_
                        refine r_iastPM (q := 105) hV dX6_block_104 rfl LA39 rfl (by omega) (by decide) (fun s104 hV104 => ?_)
                        refine r_aload_n (q := 106) dX6_block_105 rfl rfl ?_
                        refine gX6_32 (q := 109) dX6_block_106 rfl ?_
                        refine r_aload_n (q := 110) dX6_block_109 rfl rfl ?_
                        refine gX6_97 (q := 113) dX6_block_110 rfl ?_
                        refine r_as (y := nI (nv V 33 7)) (by rw [vwM_at hV104 rfl]; exact (hI 33 7 rfl).1) ?_
                        refine r_iload_n (q := 114) dX6_block_113 rfl rfl ?_
                        refine r_iastPM (q := 115) hV104 dX6_block_114 rfl LA40 rfl (by omega) (by decide) (fun s114 hV114 => ?_)
                        refine r_aload_n (q := 116) dX6_block_115 rfl rfl ?_
                        refine gX6_35 (q := 119) dX6_block_116 rfl ?_
                        refine r_aload_n (q := 120) dX6_block_119 rfl rfl ?_
                        refine gX6_97 (q := 123) dX6_block_120 rfl ?_
                        refine r_as (y := nI (nv V 33 7)) (by rw [vwM_at hV114 rfl]; exact (hI 33 7 rfl).1) ?_
                        refine r_iload_n (q := 124) dX6_block_123 rfl rfl ?_
                        refine r_iastPM (q := 125) hV114 dX6_block_124 rfl LA41 rfl (by omega) (by decide) (fun s124 hV124 => ?_)
                        refine r_aload_n (q := 126) dX6_block_125 rfl rfl ?_
                        refine gX6_38 (q := 129) dX6_block_126 rfl ?_
                        refine r_aload_n (q := 130) dX6_block_129 rfl rfl ?_
                        refine gX6_97 (q := 133) dX6_block_130 rfl ?_
                        refine r_as (y := nI (nv V 33 7)) (by rw [vwM_at hV124 rfl]; exact (hI 33 7 rfl).1) ?_
                        refine r_iload (q := 135) dX6_block_133 rfl rfl ?_
                        refine r_iastPM (q := 136) hV124 dX6_block_135 rfl LA42 rfl (by omega) (by decide) (fun s135 hV135 => ?_)
                        refine r_aload_n (q := 137) dX6_block_136 rfl rfl ?_
                        refine gX6_41 (q := 140) dX6_block_137 rfl ?_
                        refine r_aload_n (q := 141) dX6_block_140 rfl rfl ?_
                        refine gX6_97 (q := 144) dX6_block_141 rfl ?_
                        refine r_as (y := nI (nv V 33 7)) (by rw [vwM_at hV135 rfl]; exact (hI 33 7 rfl).1) ?_
                        refine r_iload (q := 146) dX6_block_144 rfl rfl ?_
                        refine r_iastPM (q := 147) hV135 dX6_block_146 rfl LA43 rfl (by omega) (by decide) (fun s146 hV146 => ?_)
                        refine r_aload_n (q := 148) dX6_block_147 rfl rfl ?_
                        refine gX6_44 (q := 151) dX6_block_148 rfl ?_
                        refine r_aload_n (q := 152) dX6_block_151 rfl rfl ?_
                        refine gX6_97 (q := 155) dX6_block_152 rfl ?_
                        refine r_as (y := nI (nv V 33 7)) (by rw [vwM_at hV146 rfl]; exact (hI 33 7 rfl).1) ?_
                        refine r_iload (q := 157) dX6_block_155 rfl rfl ?_
                        refine r_iastPM (q := 158) hV146 dX6_block_157 rfl LA44 rfl (by omega) (by decide) (fun s157 hV157 => ?_)
                        refine r_aload_n (q := 159) dX6_block_158 rfl rfl ?_
                        refine gX6_47 (q := 162) dX6_block_159 rfl ?_
                        refine r_aload_n (q := 163) dX6_block_162 rfl rfl ?_
                        refine gX6_97 (q := 166) dX6_block_163 rfl ?_
                        refine r_as (y := nI (nv V 33 7)) (by rw [vwM_at hV157 rfl]; exact (hI 33 7 rfl).1) ?_
                        refine r_iload (q := 168) dX6_block_166 rfl rfl ?_
                        refine r_iastPM (q := 169) hV157 dX6_block_168 rfl LA45 rfl (by omega) (by decide) (fun s168 hV168 => ?_)
                        refine r_aload_n (q := 170) dX6_block_169 rfl rfl ?_
                        refine gX6_50 (q := 173) dX6_block_170 rfl ?_
                        refine r_aload_n (q := 174) dX6_block_173 rfl rfl ?_
                        refine gX6_97 (q := 177) dX6_block_174 rfl ?_
                        refine r_as (y := nI (nv V 33 7)) (by rw [vwM_at hV168 rfl]; exact (hI 33 7 rfl).1) ?_
                        refine r_sipush (q := 180) (v := nI 200) dX6_block_177 rfl (by decide) ?_
                        refine r_iastPM (q := 181) hV168 dX6_block_180 rfl LA46 rfl (by omega) (by decide) (fun s180 hV180 => ?_)
                        refine r_aload_n (q := 182) dX6_block_181 rfl rfl ?_
                        refine r_dup (q := 183) dX6_block_182 rfl ?_
                        refine gX6_97 (q := 186) dX6_block_183 rfl ?_
                        refine r_as (y := nI (nv V 33 7)) (by rw [vwM_at hV180 rfl]; exact (hI 33 7 rfl).1) ?_
                        refine r_iconst (q := 187) (v := nI 1) dX6_block_186 rfl (by decide) ?_
                        refine r_iaddN (q := 188) dX6_block_187 rfl ?_
                        refine ppX6_97 (q := 191) hV180 dX6_block_188 rfl (fun s188 hV188 => ?_)
                        refine r_aload_n (q := 192) dX6_block_191 rfl rfl ?_
                        refine gX6_97 (q := 195) dX6_block_192 rfl ?_
                        refine r_as (y := nI (nv V 33 7 + 1)) (by rw [vwM_at hV188 rfl, wr_at, if_pos ⟨rfl, rfl⟩]) ?_
                        refine r_iconst (q := 196) (v := nI 1) dX6_block_195 rfl (by decide) ?_
                        refine r_isubN (q := 197) dX6_block_196 rfl (by omega) ?_
                        exact r_retI dX6_block_197 (eo_ok (by first | (simp [cBlock, *]; done) | (unfold cBlock; (try simp only []); (repeat' split); all_goals first | rfl | contradiction | omega | (exfalso; simp only [Int32.lt_iff_toInt_lt, Int32.le_iff_toInt_le] at *; omega))) rfl hV188)
                      · refine r_aload_n (q := 89) dX6_block_88 rfl rfl ?_
                        refine r_bipush (q := 91) (v := -6) dX6_block_89 rfl (by decide) ?_
                        refine r_cI1 (q := 94) vX6_111 dX6_block_91 rfl LYX6 rfl (Nat.le_of_ble_eq_true rfl) (by decide) (by decide) (c_X6_refuse _ V hV (-6) 6 rfl (by decide)) ?_
                        rintro _ τ ⟨rfl, hR⟩
                        exact r_retI dX6_block_94 (eo_bad (by first | (simp [cBlock, *]; done) | (unfold cBlock; (try simp only []); (repeat' split); all_goals first | rfl | contradiction | omega | (exfalso; simp only [Int32.lt_iff_toInt_lt, Int32.le_iff_toInt_le] at *; omega))) (by decide) hR)
              · refine r_aload_n (q := 50) dX6_block_49 rfl rfl ?_
                refine r_bipush (q := 52) (v := -4) dX6_block_50 rfl (by decide) ?_
                refine r_cI1 (q := 55) vX6_111 dX6_block_52 rfl LYX6 rfl (Nat.le_of_ble_eq_true rfl) (by decide) (by decide) (c_X6_refuse _ V hV (-4) 4 rfl (by decide)) ?_
                rintro _ τ ⟨rfl, hR⟩
                exact r_retI dX6_block_55 (eo_bad (by first | (simp [cBlock, *]; done) | (unfold cBlock; (try simp only []); (repeat' split); all_goals first | rfl | contradiction | omega | (exfalso; simp only [Int32.lt_iff_toInt_lt, Int32.le_iff_toInt_le] at *; omega))) (by decide) hR)
  · refine r_aload_n (q := 10) dX6_block_9 rfl rfl ?_
    refine r_bipush (q := 12) (v := -2) dX6_block_10 rfl (by decide) ?_
    refine r_cI1 (q := 15) vX6_111 dX6_block_12 rfl LYX6 rfl (Nat.le_of_ble_eq_true rfl) (by decide) (by decide) (c_X6_refuse _ V hV (-2) 2 rfl (by decide)) ?_
    rintro _ τ ⟨rfl, hR⟩
    exact r_retI dX6_block_15 (eo_bad (by first | (simp [cBlock, *]; done) | (unfold cBlock; (try simp only []); (repeat' split); all_goals first | rfl | contradiction | omega | (exfalso; simp only [Int32.lt_iff_toInt_lt, Int32.le_iff_toInt_le] at *; omega))) (by decide) hR)
set_option maxRecDepth 100000 in
set_option maxHeartbeats 4000000 in
theorem c_X6_share (σ V : St) (hV : vwM σ = V) (hI : InvN V) (b d e : Int32) : Cl LAY yX6_share cX6_share 5 (some .int) 2 43 [.ref 33, .int b, .int d, .int e] σ (EI (fun v τ => v = resO (cShare V b d e) (nI (nv V 47 (8 * b.toNatClampNeg + d.toNatClampNeg))) ∧ vwM τ = stO (cShare V b d e) (wr V 47 (8 * b.toNatClampNeg + d.toNatClampNeg) e) (rfM V (cShare V b d e)))) := by
  have hnb := bd hI 33 7 40 rfl rfl
  refine Cl.of 1 rfl rfl EI.ok ?_
  show Rn LAY none RX6 _ _ _ _ 0 [some (.ref 33), some (.int b), some (.int d), some (.int e), none] [] _ _
  refine r_aload_n (q := 1) dX6_share_0 rfl rfl ?_
  refine r_iload_n (q := 2) dX6_share_1 rfl rfl ?_
  refine r_cI1 (q := 5) vX6_115 dX6_share_2 rfl LYX6 rfl (Nat.le_of_ble_eq_true rfl) (by decide) (by decide) (c_X6_isBlock _ V hV hI _) ?_
  rintro _ _ ⟨rfl, rfl⟩
  refine r_if_eqN (t := 15) (q := 8) dX6_share_5 (by decide) rfl (by have := ix_le b (nv V 33 7); omega) (fun c5 => ?_) (fun c5 => ?_)
  · refine r_aload_n (q := 16) dX6_share_15 rfl rfl ?_
    refine r_iconst (q := 17) (v := -1) dX6_share_16 rfl (by decide) ?_
    refine r_cI1 (q := 20) vX6_111 dX6_share_17 rfl LYX6 rfl (Nat.le_of_ble_eq_true rfl) (by decide) (by decide) (c_X6_refuse _ V hV (-1) 1 rfl (by decide)) ?_
    rintro _ τ ⟨rfl, hR⟩
    exact r_retI dX6_share_20 (eo_bad (by first | (simp [cShare, *]; done) | (unfold cShare; (try simp only [hbc, hdc]); (repeat' split); all_goals first | rfl | contradiction | omega | (exfalso; simp only [Int32.lt_iff_toInt_lt, Int32.le_iff_toInt_le] at *; omega))) (by decide) hR)
  · obtain ⟨b, hb, rfl⟩ := ix_of c5
    have hbc := nI_clamp (n := b) (by omega)
    refine r_iload_n (q := 9) dX6_share_8 rfl rfl ?_
    refine r_sI1 (q := 12) vX6_107 dX6_share_9 rfl (Nat.le_of_ble_eq_true rfl) (by decide) (by decide) (c_X6_isDay _ _) ?_
    rintro _ _ ⟨rfl, rfl⟩
    refine r_if_neN (t := 21) (q := 15) dX6_share_12 (by decide) rfl (by have := ix_le d 8; omega) (fun c12 => ?_) (fun c12 => ?_)
    · obtain ⟨d, hd, rfl⟩ := ix_of c12
      have hdc := nI_clamp (n := d) (by omega)
      refine r_aload_n (q := 22) dX6_share_21 rfl rfl ?_
      refine gX6_29 (q := 25) dX6_share_22 rfl ?_
      refine r_iload_n (q := 26) dX6_share_25 rfl rfl ?_
      refine r_ialdVM (q := 27) hV hI dX6_share_26 rfl LA39 rfl rfl (by decide) (by omega) ?_
      refine r_iconst (q := 28) (v := nI 1) dX6_share_27 rfl (by decide) ?_
      refine r_icmp_eqN (t := 38) (q := 31) dX6_share_28 (by decide) rfl (by have := bd hI 39 b 3 rfl rfl; omega) (by omega) (fun c28 => ?_) (fun c28 => ?_)
      · refine r_iload_n (q := 39) dX6_share_38 rfl rfl ?_
        refine r_if_ge (t := 49) (q := 42) dX6_share_39 (by decide) rfl (fun c39 => ?_) (fun c39 => ?_)
        · refine r_iload_n (q := 50) dX6_share_49 rfl rfl ?_
          refine r_bipush (q := 52) (v := nI 8) dX6_share_50 rfl (by decide) ?_
          refine r_icmp_le (t := 62) (q := 55) dX6_share_52 (by decide) rfl (fun c52 => ?_) (fun c52 => ?_)
          · refine r_aload_n (q := 63) dX6_share_62 rfl rfl ?_
            refine gX6_53 (q := 66) dX6_share_63 rfl ?_
            refine r_bipush (q := 68) (v := nI 8) dX6_share_66 rfl (by decide) ?_
            refine r_iload_n (q := 69) dX6_share_68 rfl rfl ?_
            refine r_imulN (q := 70) dX6_share_69 rfl ?_
            refine r_iload_n (q := 71) dX6_share_70 rfl rfl ?_
            refine r_iaddN (q := 72) dX6_share_71 rfl ?_
            refine r_ialdVM (q := 73) hV hI dX6_share_72 rfl LA47 rfl rfl (by decide) (by omega) ?_
            refine r_istore (q := 75) dX6_share_73 rfl (Nat.le_of_ble_eq_true rfl) ?_
            refine r_aload_n (q := 76) dX6_share_75 rfl rfl ?_
            refine gX6_53 (q := 79) dX6_share_76 rfl ?_
            refine r_bipush (q := 81) (v := nI 8) dX6_share_79 rfl (by decide) ?_
            refine r_iload_n (q := 82) dX6_share_81 rfl rfl ?_
            refine r_imulN (q := 83) dX6_share_82 rfl ?_
            refine r_iload_n (q := 84) dX6_share_83 rfl rfl ?_
            refine r_iaddN (q := 85) dX6_share_84 rfl ?_
            refine r_iload_n (q := 86) dX6_share_85 rfl rfl ?_
            refine r_iastPM (q := 87) hV dX6_share_86 rfl LA47 rfl (by omega) (by decide) (fun s86 hV86 => ?_)
            refine r_iload (q := 89) dX6_share_87 rfl rfl ?_
            exact r_retI dX6_share_89 (eo_ok (by first | (simp [cShare, *]; done) | (unfold cShare; (try simp only [hbc, hdc]); (repeat' split); all_goals first | rfl | contradiction | omega | (exfalso; simp only [Int32.lt_iff_toInt_lt, Int32.le_iff_toInt_le] at *; omega))) (by rw [hbc, hdc]) (by rw [hbc, hdc]; exact hV86))
          · refine r_aload_n (q := 56) dX6_share_55 rfl rfl ?_
            refine r_bipush (q := 58) (v := -6) dX6_share_56 rfl (by decide) ?_
            refine r_cI1 (q := 61) vX6_111 dX6_share_58 rfl LYX6 rfl (Nat.le_of_ble_eq_true rfl) (by decide) (by decide) (c_X6_refuse _ V hV (-6) 6 rfl (by decide)) ?_
            rintro _ τ ⟨rfl, hR⟩
            exact r_retI dX6_share_61 (eo_bad (by first | (simp [cShare, *]; done) | (unfold cShare; (try simp only [hbc, hdc]); (repeat' split); all_goals first | rfl | contradiction | omega | (exfalso; simp only [Int32.lt_iff_toInt_lt, Int32.le_iff_toInt_le] at *; omega))) (by decide) hR)
        · refine r_aload_n (q := 43) dX6_share_42 rfl rfl ?_
          refine r_bipush (q := 45) (v := -4) dX6_share_43 rfl (by decide) ?_
          refine r_cI1 (q := 48) vX6_111 dX6_share_45 rfl LYX6 rfl (Nat.le_of_ble_eq_true rfl) (by decide) (by decide) (c_X6_refuse _ V hV (-4) 4 rfl (by decide)) ?_
          rintro _ τ ⟨rfl, hR⟩
          exact r_retI dX6_share_48 (eo_bad (by first | (simp [cShare, *]; done) | (unfold cShare; (try simp only [hbc, hdc]); (repeat' split); all_goals first | rfl | contradiction | omega | (exfalso; simp only [Int32.lt_iff_toInt_lt, Int32.le_iff_toInt_le] at *; omega))) (by decide) hR)
      · refine r_aload_n (q := 32) dX6_share_31 rfl rfl ?_
        refine r_bipush (q := 34) (v := -2) dX6_share_32 rfl (by decide) ?_
        refine r_cI1 (q := 37) vX6_111 dX6_share_34 rfl LYX6 rfl (Nat.le_of_ble_eq_true rfl) (by decide) (by decide) (c_X6_refuse _ V hV (-2) 2 rfl (by decide)) ?_
        rintro _ τ ⟨rfl, hR⟩
        exact r_retI dX6_share_37 (eo_bad (by first | (simp [cShare, *]; done) | (unfold cShare; (try simp only [hbc, hdc]); (repeat' split); all_goals first | rfl | contradiction | omega | (exfalso; simp only [Int32.lt_iff_toInt_lt, Int32.le_iff_toInt_le] at *; omega))) (by decide) hR)
    · refine r_aload_n (q := 16) dX6_share_15 rfl rfl ?_
      refine r_iconst (q := 17) (v := -1) dX6_share_16 rfl (by decide) ?_
      refine r_cI1 (q := 20) vX6_111 dX6_share_17 rfl LYX6 rfl (Nat.le_of_ble_eq_true rfl) (by decide) (by decide) (c_X6_refuse _ V hV (-1) 1 rfl (by decide)) ?_
      rintro _ τ ⟨rfl, hR⟩
      exact r_retI dX6_share_20 (eo_bad (by first | (simp [cShare, *]; done) | (unfold cShare; (try simp only [hbc, hdc]); (repeat' split); all_goals first | rfl | contradiction | omega | (exfalso; simp only [Int32.lt_iff_toInt_lt, Int32.le_iff_toInt_le] at *; omega))) (by decide) hR)
set_option maxRecDepth 100000 in
set_option maxHeartbeats 4000000 in
theorem c_X6_most (σ V : St) (hV : vwM σ = V) (hI : InvN V) (b x : Int32) : Cl LAY yX6_most cX6_most 4 (some .int) 2 43 [.ref 33, .int b, .int x] σ (EI (fun v τ => v = resO (cMost V b x) (nI (nv V 46 b.toNatClampNeg)) ∧ vwM τ = stO (cMost V b x) (wr V 46 b.toNatClampNeg x) (rfM V (cMost V b x)))) := by
  have hnb := bd hI 33 7 40 rfl rfl
  refine Cl.of 1 rfl rfl EI.ok ?_
  show Rn LAY none RX6 _ _ _ _ 0 [some (.ref 33), some (.int b), some (.int x), none] [] _ _
  refine r_aload_n (q := 1) dX6_most_0 rfl rfl ?_
  refine r_iload_n (q := 2) dX6_most_1 rfl rfl ?_
  refine r_cI1 (q := 5) vX6_115 dX6_most_2 rfl LYX6 rfl (Nat.le_of_ble_eq_true rfl) (by decide) (by decide) (c_X6_isBlock _ V hV hI _) ?_
  rintro _ _ ⟨rfl, rfl⟩
  refine r_if_neN (t := 14) (q := 8) dX6_most_5 (by decide) rfl (by have := ix_le b (nv V 33 7); omega) (fun c5 => ?_) (fun c5 => ?_)
  · obtain ⟨b, hb, rfl⟩ := ix_of c5
    have hbc := nI_clamp (n := b) (by omega)
    refine r_aload_n (q := 15) dX6_most_14 rfl rfl ?_
    refine gX6_29 (q := 18) dX6_most_15 rfl ?_
    refine r_iload_n (q := 19) dX6_most_18 rfl rfl ?_
    refine r_ialdVM (q := 20) hV hI dX6_most_19 rfl LA39 rfl rfl (by decide) (by omega) ?_
    refine r_iconst (q := 21) (v := nI 1) dX6_most_20 rfl (by decide) ?_
    refine r_icmp_eqN (t := 31) (q := 24) dX6_most_21 (by decide) rfl (by have := bd hI 39 b 3 rfl rfl; omega) (by omega) (fun c21 => ?_) (fun c21 => ?_)
    · refine r_iload_n (q := 32) dX6_most_31 rfl rfl ?_
      refine r_aload_n (q := 33) dX6_most_32 rfl rfl ?_
      refine gX6_47 (q := 36) dX6_most_33 rfl ?_
      refine r_iload_n (q := 37) dX6_most_36 rfl rfl ?_
      refine r_ialdVM (q := 38) hV hI dX6_most_37 rfl LA45 rfl rfl (by decide) (by omega) ?_
      refine r_icmp_ge (t := 48) (q := 41) dX6_most_38 (by decide) rfl (fun c38 => ?_) (fun c38 => ?_)
      · refine r_iload_n (q := 49) dX6_most_48 rfl rfl ?_
        refine r_sipush (q := 52) (v := nI 200) dX6_most_49 rfl (by decide) ?_
        refine r_icmp_le (t := 62) (q := 55) dX6_most_52 (by decide) rfl (fun c52 => ?_) (fun c52 => ?_)
        · refine r_aload_n (q := 63) dX6_most_62 rfl rfl ?_
          refine gX6_50 (q := 66) dX6_most_63 rfl ?_
          refine r_iload_n (q := 67) dX6_most_66 rfl rfl ?_
          refine r_ialdVM (q := 68) hV hI dX6_most_67 rfl LA46 rfl rfl (by decide) (by omega) ?_
          refine r_istore_n (q := 69) dX6_most_68 rfl (Nat.le_of_ble_eq_true rfl) ?_
          refine r_aload_n (q := 70) dX6_most_69 rfl rfl ?_
          refine gX6_50 (q := 73) dX6_most_70 rfl ?_
          refine r_iload_n (q := 74) dX6_most_73 rfl rfl ?_
          refine r_iload_n (q := 75) dX6_most_74 rfl rfl ?_
          refine r_iastPM (q := 76) hV dX6_most_75 rfl LA46 rfl (by omega) (by decide) (fun s75 hV75 => ?_)
          refine r_iload_n (q := 77) dX6_most_76 rfl rfl ?_
          exact r_retI dX6_most_77 (eo_ok (by first | (simp [cMost, *]; done) | (unfold cMost; (try simp only [hbc]); (repeat' split); all_goals first | rfl | contradiction | omega | (exfalso; simp only [Int32.lt_iff_toInt_lt, Int32.le_iff_toInt_le] at *; omega))) (by rw [hbc]) (by rw [hbc]; exact hV75))
        · refine r_aload_n (q := 56) dX6_most_55 rfl rfl ?_
          refine r_bipush (q := 58) (v := -6) dX6_most_56 rfl (by decide) ?_
          refine r_cI1 (q := 61) vX6_111 dX6_most_58 rfl LYX6 rfl (Nat.le_of_ble_eq_true rfl) (by decide) (by decide) (c_X6_refuse _ V hV (-6) 6 rfl (by decide)) ?_
          rintro _ τ ⟨rfl, hR⟩
          exact r_retI dX6_most_61 (eo_bad (by first | (simp [cMost, *]; done) | (unfold cMost; (try simp only [hbc]); (repeat' split); all_goals first | rfl | contradiction | omega | (exfalso; simp only [Int32.lt_iff_toInt_lt, Int32.le_iff_toInt_le] at *; omega))) (by decide) hR)
      · refine r_aload_n (q := 42) dX6_most_41 rfl rfl ?_
        refine r_bipush (q := 44) (v := -4) dX6_most_42 rfl (by decide) ?_
        refine r_cI1 (q := 47) vX6_111 dX6_most_44 rfl LYX6 rfl (Nat.le_of_ble_eq_true rfl) (by decide) (by decide) (c_X6_refuse _ V hV (-4) 4 rfl (by decide)) ?_
        rintro _ τ ⟨rfl, hR⟩
        exact r_retI dX6_most_47 (eo_bad (by first | (simp [cMost, *]; done) | (unfold cMost; (try simp only [hbc]); (repeat' split); all_goals first | rfl | contradiction | omega | (exfalso; simp only [Int32.lt_iff_toInt_lt, Int32.le_iff_toInt_le] at *; omega))) (by decide) hR)
    · refine r_aload_n (q := 25) dX6_most_24 rfl rfl ?_
      refine r_bipush (q := 27) (v := -2) dX6_most_25 rfl (by decide) ?_
      refine r_cI1 (q := 30) vX6_111 dX6_most_27 rfl LYX6 rfl (Nat.le_of_ble_eq_true rfl) (by decide) (by decide) (c_X6_refuse _ V hV (-2) 2 rfl (by decide)) ?_
      rintro _ τ ⟨rfl, hR⟩
      exact r_retI dX6_most_30 (eo_bad (by first | (simp [cMost, *]; done) | (unfold cMost; (try simp only [hbc]); (repeat' split); all_goals first | rfl | contradiction | omega | (exfalso; simp only [Int32.lt_iff_toInt_lt, Int32.le_iff_toInt_le] at *; omega))) (by decide) hR)
  · refine r_aload_n (q := 9) dX6_most_8 rfl rfl ?_
    refine r_iconst (q := 10) (v := -1) dX6_most_9 rfl (by decide) ?_
    refine r_cI1 (q := 13) vX6_111 dX6_most_10 rfl LYX6 rfl (Nat.le_of_ble_eq_true rfl) (by decide) (by decide) (c_X6_refuse _ V hV (-1) 1 rfl (by decide)) ?_
    rintro _ τ ⟨rfl, hR⟩
    exact r_retI dX6_most_13 (eo_bad (by first | (simp [cMost, *]; done) | (unfold cMost; (try simp only [hbc]); (repeat' split); all_goals first | rfl | contradiction | omega | (exfalso; simp only [Int32.lt_iff_toInt_lt, Int32.le_iff_toInt_le] at *; omega))) (by decide) hR)
set_option maxRecDepth 100000 in
set_option maxHeartbeats 4000000 in
theorem c_X6_cut (σ V : St) (hV : vwM σ = V) (hI : InvN V) (b x : Int32) : Cl LAY yX6_cut cX6_cut 4 (some .int) 2 43 [.ref 33, .int b, .int x] σ (EI (fun v τ => v = resO (cCut V b x) (nI (nv V 45 b.toNatClampNeg)) ∧ vwM τ = stO (cCut V b x) (wr V 45 b.toNatClampNeg x) (rfM V (cCut V b x)))) := by
  have hnb := bd hI 33 7 40 rfl rfl
  refine Cl.of 1 rfl rfl EI.ok ?_
  show Rn LAY none RX6 _ _ _ _ 0 [some (.ref 33), some (.int b), some (.int x), none] [] _ _
  refine r_aload_n (q := 1) dX6_cut_0 rfl rfl ?_
  refine r_iload_n (q := 2) dX6_cut_1 rfl rfl ?_
  refine r_cI1 (q := 5) vX6_115 dX6_cut_2 rfl LYX6 rfl (Nat.le_of_ble_eq_true rfl) (by decide) (by decide) (c_X6_isBlock _ V hV hI _) ?_
  rintro _ _ ⟨rfl, rfl⟩
  refine r_if_neN (t := 14) (q := 8) dX6_cut_5 (by decide) rfl (by have := ix_le b (nv V 33 7); omega) (fun c5 => ?_) (fun c5 => ?_)
  · obtain ⟨b, hb, rfl⟩ := ix_of c5
    have hbc := nI_clamp (n := b) (by omega)
    refine r_aload_n (q := 15) dX6_cut_14 rfl rfl ?_
    refine gX6_29 (q := 18) dX6_cut_15 rfl ?_
    refine r_iload_n (q := 19) dX6_cut_18 rfl rfl ?_
    refine r_ialdVM (q := 20) hV hI dX6_cut_19 rfl LA39 rfl rfl (by decide) (by omega) ?_
    refine r_iconst (q := 21) (v := nI 1) dX6_cut_20 rfl (by decide) ?_
    refine r_icmp_eqN (t := 31) (q := 24) dX6_cut_21 (by decide) rfl (by have := bd hI 39 b 3 rfl rfl; omega) (by omega) (fun c21 => ?_) (fun c21 => ?_)
    · refine r_aload_n (q := 32) dX6_cut_31 rfl rfl ?_
      refine gX6_60 (q := 35) dX6_cut_32 rfl ?_
      refine r_iload_n (q := 36) dX6_cut_35 rfl rfl ?_
      refine r_zaldVM (q := 37) hV hI dX6_cut_36 rfl LA49 rfl rfl (by decide) (by omega) ?_
      refine r_if_eqN (t := 47) (q := 40) dX6_cut_37 (by decide) rfl (by have := bd hI 49 b 1 rfl rfl; omega) (fun c37 => ?_) (fun c37 => ?_)
      · refine r_iload_n (q := 48) dX6_cut_47 rfl rfl ?_
        refine r_aload_n (q := 49) dX6_cut_48 rfl rfl ?_
        refine gX6_44 (q := 52) dX6_cut_49 rfl ?_
        refine r_iload_n (q := 53) dX6_cut_52 rfl rfl ?_
        refine r_ialdVM (q := 54) hV hI dX6_cut_53 rfl LA44 rfl rfl (by decide) (by omega) ?_
        refine r_icmp_gt (t := 64) (q := 57) dX6_cut_54 (by decide) rfl (fun c54 => ?_) (fun c54 => ?_)
        · refine r_iload_n (q := 65) dX6_cut_64 rfl rfl ?_
          refine r_aload_n (q := 66) dX6_cut_65 rfl rfl ?_
          refine gX6_47 (q := 69) dX6_cut_66 rfl ?_
          refine r_iload_n (q := 70) dX6_cut_69 rfl rfl ?_
          refine r_ialdVM (q := 71) hV hI dX6_cut_70 rfl LA45 rfl rfl (by decide) (by omega) ?_
          refine r_icmp_le (t := 81) (q := 74) dX6_cut_71 (by decide) rfl (fun c71 => ?_) (fun c71 => ?_)
          · refine r_aload_n (q := 82) dX6_cut_81 rfl rfl ?_
            refine gX6_47 (q := 85) dX6_cut_82 rfl ?_
            refine r_iload_n (q := 86) dX6_cut_85 rfl rfl ?_
            refine r_ialdVM (q := 87) hV hI dX6_cut_86 rfl LA45 rfl rfl (by decide) (by omega) ?_
            refine r_istore_n (q := 88) dX6_cut_87 rfl (Nat.le_of_ble_eq_true rfl) ?_
            refine r_aload_n (q := 89) dX6_cut_88 rfl rfl ?_
            refine gX6_47 (q := 92) dX6_cut_89 rfl ?_
            refine r_iload_n (q := 93) dX6_cut_92 rfl rfl ?_
            refine r_iload_n (q := 94) dX6_cut_93 rfl rfl ?_
            refine r_iastPM (q := 95) hV dX6_cut_94 rfl LA45 rfl (by omega) (by decide) (fun s94 hV94 => ?_)
            refine r_iload_n (q := 96) dX6_cut_95 rfl rfl ?_
            exact r_retI dX6_cut_96 (eo_ok (by first | (simp [cCut, *]; done) | (unfold cCut; (try simp only [hbc]); (repeat' split); all_goals first | rfl | contradiction | omega | (exfalso; simp only [Int32.lt_iff_toInt_lt, Int32.le_iff_toInt_le] at *; omega))) (by rw [hbc]) (by rw [hbc]; exact hV94))
          · refine r_aload_n (q := 75) dX6_cut_74 rfl rfl ?_
            refine r_bipush (q := 77) (v := -6) dX6_cut_75 rfl (by decide) ?_
            refine r_cI1 (q := 80) vX6_111 dX6_cut_77 rfl LYX6 rfl (Nat.le_of_ble_eq_true rfl) (by decide) (by decide) (c_X6_refuse _ V hV (-6) 6 rfl (by decide)) ?_
            rintro _ τ ⟨rfl, hR⟩
            exact r_retI dX6_cut_80 (eo_bad (by first | (simp [cCut, *]; done) | (unfold cCut; (try simp only [hbc]); (repeat' split); all_goals first | rfl | contradiction | omega | (exfalso; simp only [Int32.lt_iff_toInt_lt, Int32.le_iff_toInt_le] at *; omega))) (by decide) hR)
        · refine r_aload_n (q := 58) dX6_cut_57 rfl rfl ?_
          refine r_bipush (q := 60) (v := -4) dX6_cut_58 rfl (by decide) ?_
          refine r_cI1 (q := 63) vX6_111 dX6_cut_60 rfl LYX6 rfl (Nat.le_of_ble_eq_true rfl) (by decide) (by decide) (c_X6_refuse _ V hV (-4) 4 rfl (by decide)) ?_
          rintro _ τ ⟨rfl, hR⟩
          exact r_retI dX6_cut_63 (eo_bad (by first | (simp [cCut, *]; done) | (unfold cCut; (try simp only [hbc]); (repeat' split); all_goals first | rfl | contradiction | omega | (exfalso; simp only [Int32.lt_iff_toInt_lt, Int32.le_iff_toInt_le] at *; omega))) (by decide) hR)
      · refine r_aload_n (q := 41) dX6_cut_40 rfl rfl ?_
        refine r_bipush (q := 43) (v := -3) dX6_cut_41 rfl (by decide) ?_
        refine r_cI1 (q := 46) vX6_111 dX6_cut_43 rfl LYX6 rfl (Nat.le_of_ble_eq_true rfl) (by decide) (by decide) (c_X6_refuse _ V hV (-3) 3 rfl (by decide)) ?_
        rintro _ τ ⟨rfl, hR⟩
        exact r_retI dX6_cut_46 (eo_bad (by first | (simp [cCut, *]; done) | (unfold cCut; (try simp only [hbc]); (repeat' split); all_goals first | rfl | contradiction | omega | (exfalso; simp only [Int32.lt_iff_toInt_lt, Int32.le_iff_toInt_le] at *; omega))) (by decide) hR)
    · refine r_aload_n (q := 25) dX6_cut_24 rfl rfl ?_
      refine r_bipush (q := 27) (v := -2) dX6_cut_25 rfl (by decide) ?_
      refine r_cI1 (q := 30) vX6_111 dX6_cut_27 rfl LYX6 rfl (Nat.le_of_ble_eq_true rfl) (by decide) (by decide) (c_X6_refuse _ V hV (-2) 2 rfl (by decide)) ?_
      rintro _ τ ⟨rfl, hR⟩
      exact r_retI dX6_cut_30 (eo_bad (by first | (simp [cCut, *]; done) | (unfold cCut; (try simp only [hbc]); (repeat' split); all_goals first | rfl | contradiction | omega | (exfalso; simp only [Int32.lt_iff_toInt_lt, Int32.le_iff_toInt_le] at *; omega))) (by decide) hR)
  · refine r_aload_n (q := 9) dX6_cut_8 rfl rfl ?_
    refine r_iconst (q := 10) (v := -1) dX6_cut_9 rfl (by decide) ?_
    refine r_cI1 (q := 13) vX6_111 dX6_cut_10 rfl LYX6 rfl (Nat.le_of_ble_eq_true rfl) (by decide) (by decide) (c_X6_refuse _ V hV (-1) 1 rfl (by decide)) ?_
    rintro _ τ ⟨rfl, hR⟩
    exact r_retI dX6_cut_13 (eo_bad (by first | (simp [cCut, *]; done) | (unfold cCut; (try simp only [hbc]); (repeat' split); all_goals first | rfl | contradiction | omega | (exfalso; simp only [Int32.lt_iff_toInt_lt, Int32.le_iff_toInt_le] at *; omega))) (by decide) hR)
set_option maxRecDepth 100000 in
set_option maxHeartbeats 4000000 in
theorem c_X6_go (σ V : St) (hV : vwM σ = V) (hI : InvN V) (b : Int32) : Cl LAY yX6_go cX6_go 2 (some .int) 2 43 [.ref 33, .int b] σ (EI (fun v τ => v = resO (cGo V b) (nI 1) ∧ vwM τ = stO (cGo V b) (wr V 49 b.toNatClampNeg (nI 1)) (rfM V (cGo V b)))) := by
  have hnb := bd hI 33 7 40 rfl rfl
  refine Cl.of 0 rfl rfl EI.ok ?_
  show Rn LAY none RX6 _ _ _ _ 0 [some (.ref 33), some (.int b)] [] _ _
  refine r_aload_n (q := 1) dX6_go_0 rfl rfl ?_
  refine r_iload_n (q := 2) dX6_go_1 rfl rfl ?_
  refine r_cI1 (q := 5) vX6_115 dX6_go_2 rfl LYX6 rfl (Nat.le_of_ble_eq_true rfl) (by decide) (by decide) (c_X6_isBlock _ V hV hI _) ?_
  rintro _ _ ⟨rfl, rfl⟩
  refine r_if_neN (t := 14) (q := 8) dX6_go_5 (by decide) rfl (by have := ix_le b (nv V 33 7); omega) (fun c5 => ?_) (fun c5 => ?_)
  · obtain ⟨b, hb, rfl⟩ := ix_of c5
    have hbc := nI_clamp (n := b) (by omega)
    refine r_aload_n (q := 15) dX6_go_14 rfl rfl ?_
    refine gX6_60 (q := 18) dX6_go_15 rfl ?_
    refine r_iload_n (q := 19) dX6_go_18 rfl rfl ?_
    refine r_zaldVM (q := 20) hV hI dX6_go_19 rfl LA49 rfl rfl (by decide) (by omega) ?_
    refine r_if_eqN (t := 30) (q := 23) dX6_go_20 (by decide) rfl (by have := bd hI 49 b 1 rfl rfl; omega) (fun c20 => ?_) (fun c20 => ?_)
    · refine r_aload_n (q := 31) dX6_go_30 rfl rfl ?_
      refine gX6_60 (q := 34) dX6_go_31 rfl ?_
      refine r_iload_n (q := 35) dX6_go_34 rfl rfl ?_
      refine r_iconst (q := 36) (v := nI 1) dX6_go_35 rfl (by decide) ?_
      refine r_zastPM (q := 37) hV dX6_go_36 rfl LA49 rfl (by omega) (by decide) (Or.inr rfl) (fun s36 hV36 => ?_)
      refine r_iconst (q := 38) (v := nI 1) dX6_go_37 rfl (by decide) ?_
      exact r_retI dX6_go_38 (eo_ok (by first | (simp [cGo, *]; done) | (unfold cGo; (try simp only [hbc]); (repeat' split); all_goals first | rfl | contradiction | omega | (exfalso; simp only [Int32.lt_iff_toInt_lt, Int32.le_iff_toInt_le] at *; omega))) rfl (by rw [hbc]; exact hV36))
    · refine r_aload_n (q := 24) dX6_go_23 rfl rfl ?_
      refine r_bipush (q := 26) (v := -3) dX6_go_24 rfl (by decide) ?_
      refine r_cI1 (q := 29) vX6_111 dX6_go_26 rfl LYX6 rfl (Nat.le_of_ble_eq_true rfl) (by decide) (by decide) (c_X6_refuse _ V hV (-3) 3 rfl (by decide)) ?_
      rintro _ τ ⟨rfl, hR⟩
      exact r_retI dX6_go_29 (eo_bad (by first | (simp [cGo, *]; done) | (unfold cGo; (try simp only [hbc]); (repeat' split); all_goals first | rfl | contradiction | omega | (exfalso; simp only [Int32.lt_iff_toInt_lt, Int32.le_iff_toInt_le] at *; omega))) (by decide) hR)
  · refine r_aload_n (q := 9) dX6_go_8 rfl rfl ?_
    refine r_iconst (q := 10) (v := -1) dX6_go_9 rfl (by decide) ?_
    refine r_cI1 (q := 13) vX6_111 dX6_go_10 rfl LYX6 rfl (Nat.le_of_ble_eq_true rfl) (by decide) (by decide) (c_X6_refuse _ V hV (-1) 1 rfl (by decide)) ?_
    rintro _ τ ⟨rfl, hR⟩
    exact r_retI dX6_go_13 (eo_bad (by first | (simp [cGo, *]; done) | (unfold cGo; (try simp only [hbc]); (repeat' split); all_goals first | rfl | contradiction | omega | (exfalso; simp only [Int32.lt_iff_toInt_lt, Int32.le_iff_toInt_le] at *; omega))) (by decide) hR)
set_option maxRecDepth 100000 in
set_option maxHeartbeats 4000000 in
theorem c_X6_window (σ V : St) (hV : vwM σ = V) (hI : InvN V) (s a ua ub za zb : Int32) : Cl LAY yX6_window cX6_window 7 (some .int) 1 22 [.ref 33, .int s, .int a, .int ua, .int ub, .int za, .int zb] σ (EI (fun v τ => v = resO (cWindow V s a ua ub za zb) (nI (nv V 33 19)) ∧ vwM τ = stO (cWindow V s a ua ub za zb) (wr (wr (wr (wr (wr (wr (wr V 50 (nv V 33 19) s) 51 (nv V 33 19) a) 52 (nv V 33 19) ua) 53 (nv V 33 19) ub) 54 (nv V 33 19) za) 55 (nv V 33 19) zb) 33 19 (nI (nv V 33 19 + 1))) (rfM V (cWindow V s a ua ub za zb)))) := by
  have hnw := bd hI 33 19 20 rfl rfl
  refine Cl.of 0 rfl rfl EI.ok ?_
  show Rn LAY none RX6 _ _ _ _ 0 [some (.ref 33), some (.int s), some (.int a), some (.int ua), some (.int ub), some (.int za), some (.int zb)] [] _ _
  refine r_iload_n (q := 1) dX6_window_0 rfl rfl ?_
  refine r_iconst (q := 2) (v := nI 0) dX6_window_1 rfl (by decide) ?_
  refine r_iconst (q := 3) (v := nI 3) dX6_window_2 rfl (by decide) ?_
  refine r_sI3 (q := 6) vX6_100 dX6_window_3 rfl (Nat.le_of_ble_eq_true rfl) (by decide) (by decide) (c_X6_in _ _ _ _) ?_
  rintro _ _ ⟨rfl, rfl⟩
  refine r_if_neN (t := 16) (q := 9) dX6_window_6 (by decide) rfl (by have := inN_le s (nI 0) (nI 3); omega) (fun c6 => ?_) (fun c6 => ?_)
  · refine r_iload_n (q := 17) dX6_window_16 rfl rfl ?_
    refine r_if_lt (t := 42) (q := 20) dX6_window_17 (by decide) rfl (fun c17 => ?_) (fun c17 => ?_)
    · refine r_aload_n (q := 43) dX6_window_42 rfl rfl ?_
      refine r_bipush (q := 45) (v := -4) dX6_window_43 rfl (by decide) ?_
      refine r_cI1 (q := 48) vX6_111 dX6_window_45 rfl LYX6 rfl (Nat.le_of_ble_eq_true rfl) (by decide) (by decide) (c_X6_refuse _ V hV (-4) 4 rfl (by decide)) ?_
      rintro _ τ ⟨rfl, hR⟩
      exact r_retI dX6_window_48 (eo_bad (by first | (simp [cWindow, *]; done) | (unfold cWindow; (try simp only []); (repeat' split); all_goals first | rfl | contradiction | omega | (exfalso; simp only [Int32.lt_iff_toInt_lt, Int32.le_iff_toInt_le] at *; omega))) (by decide) hR)
    · refine r_iload_n (q := 21) dX6_window_20 rfl rfl ?_
      refine r_if_lt (t := 42) (q := 24) dX6_window_21 (by decide) rfl (fun c21 => ?_) (fun c21 => ?_)
      · refine r_aload_n (q := 43) dX6_window_42 rfl rfl ?_
        refine r_bipush (q := 45) (v := -4) dX6_window_43 rfl (by decide) ?_
        refine r_cI1 (q := 48) vX6_111 dX6_window_45 rfl LYX6 rfl (Nat.le_of_ble_eq_true rfl) (by decide) (by decide) (c_X6_refuse _ V hV (-4) 4 rfl (by decide)) ?_
        rintro _ τ ⟨rfl, hR⟩
        exact r_retI dX6_window_48 (eo_bad (by first | (simp [cWindow, *]; done) | (unfold cWindow; (try simp only []); (repeat' split); all_goals first | rfl | contradiction | omega | (exfalso; simp only [Int32.lt_iff_toInt_lt, Int32.le_iff_toInt_le] at *; omega))) (by decide) hR)
      · refine r_iload (q := 26) dX6_window_24 rfl rfl ?_
        refine r_if_lt (t := 42) (q := 29) dX6_window_26 (by decide) rfl (fun c26 => ?_) (fun c26 => ?_)
        · refine r_aload_n (q := 43) dX6_window_42 rfl rfl ?_
          refine r_bipush (q := 45) (v := -4) dX6_window_43 rfl (by decide) ?_
          refine r_cI1 (q := 48) vX6_111 dX6_window_45 rfl LYX6 rfl (Nat.le_of_ble_eq_true rfl) (by decide) (by decide) (c_X6_refuse _ V hV (-4) 4 rfl (by decide)) ?_
          rintro _ τ ⟨rfl, hR⟩
          exact r_retI dX6_window_48 (eo_bad (by first | (simp [cWindow, *]; done) | (unfold cWindow; (try simp only []); (repeat' split); all_goals first | rfl | contradiction | omega | (exfalso; simp only [Int32.lt_iff_toInt_lt, Int32.le_iff_toInt_le] at *; omega))) (by decide) hR)
        · refine r_iload (q := 31) dX6_window_29 rfl rfl ?_
          refine r_iload_n (q := 32) dX6_window_31 rfl rfl ?_
          refine r_icmp_le (t := 42) (q := 35) dX6_window_32 (by decide) rfl (fun c32 => ?_) (fun c32 => ?_)
          · refine r_aload_n (q := 43) dX6_window_42 rfl rfl ?_
            refine r_bipush (q := 45) (v := -4) dX6_window_43 rfl (by decide) ?_
            refine r_cI1 (q := 48) vX6_111 dX6_window_45 rfl LYX6 rfl (Nat.le_of_ble_eq_true rfl) (by decide) (by decide) (c_X6_refuse _ V hV (-4) 4 rfl (by decide)) ?_
            rintro _ τ ⟨rfl, hR⟩
            exact r_retI dX6_window_48 (eo_bad (by first | (simp [cWindow, *]; done) | (unfold cWindow; (try simp only []); (repeat' split); all_goals first | rfl | contradiction | omega | (exfalso; simp only [Int32.lt_iff_toInt_lt, Int32.le_iff_toInt_le] at *; omega))) (by decide) hR)
          · refine r_iload (q := 37) dX6_window_35 rfl rfl ?_
            refine r_iload (q := 39) dX6_window_37 rfl rfl ?_
            refine r_icmp_gt (t := 49) (q := 42) dX6_window_39 (by decide) rfl (fun c39 => ?_) (fun c39 => ?_)
            · refine r_iload_n (q := 50) dX6_window_49 rfl rfl ?_
              refine r_sipush (q := 53) (v := nI 200) dX6_window_50 rfl (by decide) ?_
              refine r_icmp_gt (t := 96) (q := 56) dX6_window_53 (by decide) rfl (fun c53 => ?_) (fun c53 => ?_)
              · refine r_aload_n (q := 97) dX6_window_96 rfl rfl ?_
                refine r_bipush (q := 99) (v := -6) dX6_window_97 rfl (by decide) ?_
                refine r_cI1 (q := 102) vX6_111 dX6_window_99 rfl LYX6 rfl (Nat.le_of_ble_eq_true rfl) (by decide) (by decide) (c_X6_refuse _ V hV (-6) 6 rfl (by decide)) ?_
                rintro _ τ ⟨rfl, hR⟩
                exact r_retI dX6_window_102 (eo_bad (by first | (simp [cWindow, *]; done) | (unfold cWindow; (try simp only []); (repeat' split); all_goals first | rfl | contradiction | omega | (exfalso; simp only [Int32.lt_iff_toInt_lt, Int32.le_iff_toInt_le] at *; omega))) (by decide) hR)
              · refine r_iload (q := 58) dX6_window_56 rfl rfl ?_
                refine r_sipush (q := 61) (v := nI 200) dX6_window_58 rfl (by decide) ?_
                refine r_icmp_gt (t := 96) (q := 64) dX6_window_61 (by decide) rfl (fun c61 => ?_) (fun c61 => ?_)
                · refine r_aload_n (q := 97) dX6_window_96 rfl rfl ?_
                  refine r_bipush (q := 99) (v := -6) dX6_window_97 rfl (by decide) ?_
                  refine r_cI1 (q := 102) vX6_111 dX6_window_99 rfl LYX6 rfl (Nat.le_of_ble_eq_true rfl) (by decide) (by decide) (c_X6_refuse _ V hV (-6) 6 rfl (by decide)) ?_
                  rintro _ τ ⟨rfl, hR⟩
                  exact r_retI dX6_window_102 (eo_bad (by first | (simp [cWindow, *]; done) | (unfold cWindow; (try simp only []); (repeat' split); all_goals first | rfl | contradiction | omega | (exfalso; simp only [Int32.lt_iff_toInt_lt, Int32.le_iff_toInt_le] at *; omega))) (by decide) hR)
                · refine r_iload (q := 66) dX6_window_64 rfl rfl ?_
                  refine r_sipush (q := 69) (v := nI 200) dX6_window_66 rfl (by decide) ?_
                  refine r_icmp_gt (t := 96) (q := 72) dX6_window_69 (by decide) rfl (fun c69 => ?_) (fun c69 => ?_)
                  · refine r_aload_n (q := 97) dX6_window_96 rfl rfl ?_
                    refine r_bipush (q := 99) (v := -6) dX6_window_97 rfl (by decide) ?_
                    refine r_cI1 (q := 102) vX6_111 dX6_window_99 rfl LYX6 rfl (Nat.le_of_ble_eq_true rfl) (by decide) (by decide) (c_X6_refuse _ V hV (-6) 6 rfl (by decide)) ?_
                    rintro _ τ ⟨rfl, hR⟩
                    exact r_retI dX6_window_102 (eo_bad (by first | (simp [cWindow, *]; done) | (unfold cWindow; (try simp only []); (repeat' split); all_goals first | rfl | contradiction | omega | (exfalso; simp only [Int32.lt_iff_toInt_lt, Int32.le_iff_toInt_le] at *; omega))) (by decide) hR)
                  · refine r_iload (q := 74) dX6_window_72 rfl rfl ?_
                    refine r_iload_n (q := 75) dX6_window_74 rfl rfl ?_
                    refine r_isub (q := 76) dX6_window_75 rfl ?_
                    refine r_iload (q := 78) dX6_window_76 rfl rfl ?_
                    refine r_iload (q := 80) dX6_window_78 rfl rfl ?_
                    refine r_isub (q := 81) dX6_window_80 rfl ?_
                    refine r_imul (q := 82) dX6_window_81 rfl ?_
                    refine r_bipush (q := 84) (v := nI 64) dX6_window_82 rfl (by decide) ?_
                    refine r_icmp_gt (t := 96) (q := 87) dX6_window_84 (by decide) rfl (fun c84 => ?_) (fun c84 => ?_)
                    · refine r_aload_n (q := 97) dX6_window_96 rfl rfl ?_
                      refine r_bipush (q := 99) (v := -6) dX6_window_97 rfl (by decide) ?_
                      refine r_cI1 (q := 102) vX6_111 dX6_window_99 rfl LYX6 rfl (Nat.le_of_ble_eq_true rfl) (by decide) (by decide) (c_X6_refuse _ V hV (-6) 6 rfl (by decide)) ?_
                      rintro _ τ ⟨rfl, hR⟩
                      exact r_retI dX6_window_102 (eo_bad (by first | (simp [cWindow, *]; done) | (unfold cWindow; (try simp only []); (repeat' split); all_goals first | rfl | contradiction | omega | (exfalso; simp only [Int32.lt_iff_toInt_lt, Int32.le_iff_toInt_le] at *; omega))) (by decide) hR)
                    · refine r_aload_n (q := 88) dX6_window_87 rfl rfl ?_
                      refine gvX6_104 (q := 91) hV hI dX6_window_88 rfl ?_
                      refine r_bipush (q := 93) (v := nI 20) dX6_window_91 rfl (by decide) ?_
                      refine r_icmp_neN (t := 103) (q := 96) dX6_window_93 (by decide) rfl (by have := bd hI 33 19 20 rfl rfl; omega) (by omega) (fun c93 => ?_) (fun c93 => ?_)
                      · refine r_aload_n (q := 104) dX6_window_103 rfl rfl ?_
                        refine gX6_63 (q := 107) dX6_window_104 rfl ?_
                        refine r_aload_n (q := 108) dX6_window_107 rfl rfl ?_
                        refine gvX6_104 (q := 111) hV hI dX6_window_108 rfl ?_
                        refine r_iload_n (q := 112) dX6_window_111 rfl rfl ?_
                        refine r_iastPM (q := 113) hV dX6_window_112 rfl LA50 rfl (by omega) (by decide) (fun s112 hV112 => ?_)
                        refine r_aload_n (q := 114) dX6_window_113 rfl rfl ?_
                        refine gX6_66 (q := 117) dX6_window_114 rfl ?_
                        refine r_aload_n (q := 118) dX6_window_117 rfl rfl ?_
                        refine gX6_104 (q := 121) dX6_window_118 rfl ?_
                        refine r_as (y := nI (nv V 33 19)) (by rw [vwM_at hV112 rfl]; exact (hI 33 19 rfl).1) ?_
                        refine r_iload_n (q := 122) dX6_window_121 rfl rfl ?_
                        refine r_iastPM (q := 123) hV112 dX6_window_122 rfl LA51 rfl (by omega) (by decide) (fun s122 hV122 => ?_)
                        refine r_aload_n (q := 124) dX6_window_123 rfl rfl ?_
                        refine gX6_69 (q := 127) dX6_window_124 rfl ?_
                        refine r_aload_n (q := 128) dX6_window_127 rfl rfl ?_
                        refine gX6_104 (q := 131) dX6_window_128 rfl ?_
                        refine r_as (y := nI (nv V 33 19)) (by rw [vwM_at hV122 rfl]; exact (hI 33 19 rfl).1) ?_
                        refine r_iload_n (q := 132) dX6_window_131 rfl rfl ?_
                        refine r_iastPM (q := 133) hV122 dX6_window_132 rfl LA52 rfl (by omega) (by decide) (fun s132 hV132 => ?_)
                        refine r_aload_n (q := 134) dX6_window_133 rfl rfl ?_
                        refine gX6_72 (q := 137) dX6_window_134 rfl ?_
                        refine r_aload_n (q := 138) dX6_window_137 rfl rfl ?_
                        refine gX6_104 (q := 141) dX6_window_138 rfl ?_
                        refine r_as (y := nI (nv V 33 19)) (by rw [vwM_at hV132 rfl]; exact (hI 33 19 rfl).1) ?_
                        refine r_iload (q := 143) dX6_window_141 rfl rfl ?_
                        refine r_iastPM (q := 144) hV132 dX6_window_143 rfl LA53 rfl (by omega) (by decide) (fun s143 hV143 => ?_)
                        refine r_aload_n (q := 145) dX6_window_144 rfl rfl ?_
                        refine gX6_75 (q := 148) dX6_window_145 rfl ?_
                        refine r_aload_n (q := 149) dX6_window_148 rfl rfl ?_
                        refine gX6_104 (q := 152) dX6_window_149 rfl ?_
                        refine r_as (y := nI (nv V 33 19)) (by rw [vwM_at hV143 rfl]; exact (hI 33 19 rfl).1) ?_
                        refine r_iload (q := 154) dX6_window_152 rfl rfl ?_
                        refine r_iastPM (q := 155) hV143 dX6_window_154 rfl LA54 rfl (by omega) (by decide) (fun s154 hV154 => ?_)
                        refine r_aload_n (q := 156) dX6_window_155 rfl rfl ?_
                        refine gX6_78 (q := 159) dX6_window_156 rfl ?_
                        refine r_aload_n (q := 160) dX6_window_159 rfl rfl ?_
                        refine gX6_104 (q := 163) dX6_window_160 rfl ?_
                        refine r_as (y := nI (nv V 33 19)) (by rw [vwM_at hV154 rfl]; exact (hI 33 19 rfl).1) ?_
                        refine r_iload (q := 165) dX6_window_163 rfl rfl ?_
                        refine r_iastPM (q := 166) hV154 dX6_window_165 rfl LA55 rfl (by omega) (by decide) (fun s165 hV165 => ?_)
                        refine r_aload_n (q := 167) dX6_window_166 rfl rfl ?_
                        refine r_dup (q := 168) dX6_window_167 rfl ?_
                        refine gX6_104 (q := 171) dX6_window_168 rfl ?_
                        refine r_as (y := nI (nv V 33 19)) (by rw [vwM_at hV165 rfl]; exact (hI 33 19 rfl).1) ?_
                        refine r_iconst (q := 172) (v := nI 1) dX6_window_171 rfl (by decide) ?_
                        refine r_iaddN (q := 173) dX6_window_172 rfl ?_
                        refine ppX6_104 (q := 176) hV165 dX6_window_173 rfl (fun s173 hV173 => ?_)
                        refine r_aload_n (q := 177) dX6_window_176 rfl rfl ?_
                        refine gX6_104 (q := 180) dX6_window_177 rfl ?_
                        refine r_as (y := nI (nv V 33 19 + 1)) (by rw [vwM_at hV173 rfl, wr_at, if_pos ⟨rfl, rfl⟩]) ?_
                        refine r_iconst (q := 181) (v := nI 1) dX6_window_180 rfl (by decide) ?_
                        refine r_isubN (q := 182) dX6_window_181 rfl (by omega) ?_
                        exact r_retI dX6_window_182 (eo_ok (by first | (simp [cWindow, *]; done) | (unfold cWindow; (try simp only []); (repeat' split); all_goals first | rfl | contradiction | omega | (exfalso; simp only [Int32.lt_iff_toInt_lt, Int32.le_iff_toInt_le] at *; omega))) rfl hV173)
                      · refine r_aload_n (q := 97) dX6_window_96 rfl rfl ?_
                        refine r_bipush (q := 99) (v := -6) dX6_window_97 rfl (by decide) ?_
                        refine r_cI1 (q := 102) vX6_111 dX6_window_99 rfl LYX6 rfl (Nat.le_of_ble_eq_true rfl) (by decide) (by decide) (c_X6_refuse _ V hV (-6) 6 rfl (by decide)) ?_
                        rintro _ τ ⟨rfl, hR⟩
                        exact r_retI dX6_window_102 (eo_bad (by first | (simp [cWindow, *]; done) | (unfold cWindow; (try simp only []); (repeat' split); all_goals first | rfl | contradiction | omega | (exfalso; simp only [Int32.lt_iff_toInt_lt, Int32.le_iff_toInt_le] at *; omega))) (by decide) hR)
            · refine r_aload_n (q := 43) dX6_window_42 rfl rfl ?_
              refine r_bipush (q := 45) (v := -4) dX6_window_43 rfl (by decide) ?_
              refine r_cI1 (q := 48) vX6_111 dX6_window_45 rfl LYX6 rfl (Nat.le_of_ble_eq_true rfl) (by decide) (by decide) (c_X6_refuse _ V hV (-4) 4 rfl (by decide)) ?_
              rintro _ τ ⟨rfl, hR⟩
              exact r_retI dX6_window_48 (eo_bad (by first | (simp [cWindow, *]; done) | (unfold cWindow; (try simp only []); (repeat' split); all_goals first | rfl | contradiction | omega | (exfalso; simp only [Int32.lt_iff_toInt_lt, Int32.le_iff_toInt_le] at *; omega))) (by decide) hR)
  · refine r_aload_n (q := 10) dX6_window_9 rfl rfl ?_
    refine r_bipush (q := 12) (v := -2) dX6_window_10 rfl (by decide) ?_
    refine r_cI1 (q := 15) vX6_111 dX6_window_12 rfl LYX6 rfl (Nat.le_of_ble_eq_true rfl) (by decide) (by decide) (c_X6_refuse _ V hV (-2) 2 rfl (by decide)) ?_
    rintro _ τ ⟨rfl, hR⟩
    exact r_retI dX6_window_15 (eo_bad (by first | (simp [cWindow, *]; done) | (unfold cWindow; (try simp only []); (repeat' split); all_goals first | rfl | contradiction | omega | (exfalso; simp only [Int32.lt_iff_toInt_lt, Int32.le_iff_toInt_le] at *; omega))) (by decide) hR)
set_option maxRecDepth 100000 in
set_option maxHeartbeats 4000000 in
theorem c_X6_part (σ V : St) (hV : vwM σ = V) (hI : InvN V) (e : Int32) : Cl LAY yX6_part cX6_part 3 (some .int) 1 21 [.ref 33, .int e] σ (EI (fun v τ => v = resO (cPart e) (nI (nv V 33 5)) ∧ vwM τ = stO (cPart e) (wr V 33 5 e) (rfM V (cPart e)))) := by
  refine Cl.of 1 rfl rfl EI.ok ?_
  show Rn LAY none RX6 _ _ _ _ 0 [some (.ref 33), some (.int e), none] [] _ _
  refine r_iload_n (q := 1) dX6_part_0 rfl rfl ?_
  refine r_iconst (q := 2) (v := nI 1) dX6_part_1 rfl (by decide) ?_
  refine r_icmp_ge (t := 12) (q := 5) dX6_part_2 (by decide) rfl (fun c2 => ?_) (fun c2 => ?_)
  · refine r_iload_n (q := 13) dX6_part_12 rfl rfl ?_
    refine r_bipush (q := 15) (v := nI 8) dX6_part_13 rfl (by decide) ?_
    refine r_icmp_le (t := 25) (q := 18) dX6_part_15 (by decide) rfl (fun c15 => ?_) (fun c15 => ?_)
    · refine r_aload_n (q := 26) dX6_part_25 rfl rfl ?_
      refine gvX6_25 (q := 29) hV hI dX6_part_26 rfl ?_
      refine r_istore_n (q := 30) dX6_part_29 rfl (Nat.le_of_ble_eq_true rfl) ?_
      refine r_aload_n (q := 31) dX6_part_30 rfl rfl ?_
      refine r_iload_n (q := 32) dX6_part_31 rfl rfl ?_
      refine ppX6_25 (q := 35) hV dX6_part_32 rfl (fun s32 hV32 => ?_)
      refine r_iload_n (q := 36) dX6_part_35 rfl rfl ?_
      exact r_retI dX6_part_36 (eo_ok (by first | (simp [cPart, *]; done) | (unfold cPart; (try simp only []); (repeat' split); all_goals first | rfl | contradiction | omega | (exfalso; simp only [Int32.lt_iff_toInt_lt, Int32.le_iff_toInt_le] at *; omega))) rfl hV32)
    · refine r_aload_n (q := 19) dX6_part_18 rfl rfl ?_
      refine r_bipush (q := 21) (v := -6) dX6_part_19 rfl (by decide) ?_
      refine r_cI1 (q := 24) vX6_111 dX6_part_21 rfl LYX6 rfl (Nat.le_of_ble_eq_true rfl) (by decide) (by decide) (c_X6_refuse _ V hV (-6) 6 rfl (by decide)) ?_
      rintro _ τ ⟨rfl, hR⟩
      exact r_retI dX6_part_24 (eo_bad (by first | (simp [cPart, *]; done) | (unfold cPart; (try simp only []); (repeat' split); all_goals first | rfl | contradiction | omega | (exfalso; simp only [Int32.lt_iff_toInt_lt, Int32.le_iff_toInt_le] at *; omega))) (by decide) hR)
  · refine r_aload_n (q := 6) dX6_part_5 rfl rfl ?_
    refine r_bipush (q := 8) (v := -4) dX6_part_6 rfl (by decide) ?_
    refine r_cI1 (q := 11) vX6_111 dX6_part_8 rfl LYX6 rfl (Nat.le_of_ble_eq_true rfl) (by decide) (by decide) (c_X6_refuse _ V hV (-4) 4 rfl (by decide)) ?_
    rintro _ τ ⟨rfl, hR⟩
    exact r_retI dX6_part_11 (eo_bad (by first | (simp [cPart, *]; done) | (unfold cPart; (try simp only []); (repeat' split); all_goals first | rfl | contradiction | omega | (exfalso; simp only [Int32.lt_iff_toInt_lt, Int32.le_iff_toInt_le] at *; omega))) (by decide) hR)
set_option maxRecDepth 100000 in
set_option maxHeartbeats 4000000 in
theorem c_X6_law (σ V : St) (hV : vwM σ = V) (hI : InvN V) (d e : Int32) : Cl LAY yX6_law cX6_law 4 (some .int) 2 42 [.ref 33, .int d, .int e] σ (EI (fun v τ => v = resO (cLaw d e) (nI (nv V 38 d.toNatClampNeg)) ∧ vwM τ = stO (cLaw d e) (wr V 38 d.toNatClampNeg e) (rfM V (cLaw d e)))) := by
  refine Cl.of 1 rfl rfl EI.ok ?_
  show Rn LAY none RX6 _ _ _ _ 0 [some (.ref 33), some (.int d), some (.int e), none] [] _ _
  refine r_iload_n (q := 1) dX6_law_0 rfl rfl ?_
  refine r_sI1 (q := 4) vX6_107 dX6_law_1 rfl (Nat.le_of_ble_eq_true rfl) (by decide) (by decide) (c_X6_isDay _ _) ?_
  rintro _ _ ⟨rfl, rfl⟩
  refine r_if_neN (t := 13) (q := 7) dX6_law_4 (by decide) rfl (by have := ix_le d 8; omega) (fun c4 => ?_) (fun c4 => ?_)
  · obtain ⟨d, hd, rfl⟩ := ix_of c4
    have hdc := nI_clamp (n := d) (by omega)
    refine r_iload_n (q := 14) dX6_law_13 rfl rfl ?_
    refine r_if_ge (t := 24) (q := 17) dX6_law_14 (by decide) rfl (fun c14 => ?_) (fun c14 => ?_)
    · refine r_iload_n (q := 25) dX6_law_24 rfl rfl ?_
      refine r_bipush (q := 27) (v := nI 24) dX6_law_25 rfl (by decide) ?_
      refine r_icmp_le (t := 37) (q := 30) dX6_law_27 (by decide) rfl (fun c27 => ?_) (fun c27 => ?_)
      · refine r_aload_n (q := 38) dX6_law_37 rfl rfl ?_
        refine gX6_22 (q := 41) dX6_law_38 rfl ?_
        refine r_iload_n (q := 42) dX6_law_41 rfl rfl ?_
        refine r_ialdVM (q := 43) hV hI dX6_law_42 rfl LA38 rfl rfl (by decide) (by omega) ?_
        refine r_istore_n (q := 44) dX6_law_43 rfl (Nat.le_of_ble_eq_true rfl) ?_
        refine r_aload_n (q := 45) dX6_law_44 rfl rfl ?_
        refine gX6_22 (q := 48) dX6_law_45 rfl ?_
        refine r_iload_n (q := 49) dX6_law_48 rfl rfl ?_
        refine r_iload_n (q := 50) dX6_law_49 rfl rfl ?_
        refine r_iastPM (q := 51) hV dX6_law_50 rfl LA38 rfl (by omega) (by decide) (fun s50 hV50 => ?_)
        refine r_iload_n (q := 52) dX6_law_51 rfl rfl ?_
        exact r_retI dX6_law_52 (eo_ok (by first | (simp [cLaw, *]; done) | (unfold cLaw; (try simp only [hdc]); (repeat' split); all_goals first | rfl | contradiction | omega | (exfalso; simp only [Int32.lt_iff_toInt_lt, Int32.le_iff_toInt_le] at *; omega))) (by rw [hdc]) (by rw [hdc]; exact hV50))
      · refine r_aload_n (q := 31) dX6_law_30 rfl rfl ?_
        refine r_bipush (q := 33) (v := -6) dX6_law_31 rfl (by decide) ?_
        refine r_cI1 (q := 36) vX6_111 dX6_law_33 rfl LYX6 rfl (Nat.le_of_ble_eq_true rfl) (by decide) (by decide) (c_X6_refuse _ V hV (-6) 6 rfl (by decide)) ?_
        rintro _ τ ⟨rfl, hR⟩
        exact r_retI dX6_law_36 (eo_bad (by first | (simp [cLaw, *]; done) | (unfold cLaw; (try simp only [hdc]); (repeat' split); all_goals first | rfl | contradiction | omega | (exfalso; simp only [Int32.lt_iff_toInt_lt, Int32.le_iff_toInt_le] at *; omega))) (by decide) hR)
    · refine r_aload_n (q := 18) dX6_law_17 rfl rfl ?_
      refine r_bipush (q := 20) (v := -4) dX6_law_18 rfl (by decide) ?_
      refine r_cI1 (q := 23) vX6_111 dX6_law_20 rfl LYX6 rfl (Nat.le_of_ble_eq_true rfl) (by decide) (by decide) (c_X6_refuse _ V hV (-4) 4 rfl (by decide)) ?_
      rintro _ τ ⟨rfl, hR⟩
      exact r_retI dX6_law_23 (eo_bad (by first | (simp [cLaw, *]; done) | (unfold cLaw; (try simp only [hdc]); (repeat' split); all_goals first | rfl | contradiction | omega | (exfalso; simp only [Int32.lt_iff_toInt_lt, Int32.le_iff_toInt_le] at *; omega))) (by decide) hR)
  · refine r_aload_n (q := 8) dX6_law_7 rfl rfl ?_
    refine r_iconst (q := 9) (v := -1) dX6_law_8 rfl (by decide) ?_
    refine r_cI1 (q := 12) vX6_111 dX6_law_9 rfl LYX6 rfl (Nat.le_of_ble_eq_true rfl) (by decide) (by decide) (c_X6_refuse _ V hV (-1) 1 rfl (by decide)) ?_
    rintro _ τ ⟨rfl, hR⟩
    exact r_retI dX6_law_12 (eo_bad (by first | (simp [cLaw, *]; done) | (unfold cLaw; (try simp only [hdc]); (repeat' split); all_goals first | rfl | contradiction | omega | (exfalso; simp only [Int32.lt_iff_toInt_lt, Int32.le_iff_toInt_le] at *; omega))) (by decide) hR)
theorem lack_cases (V : St) (x : Int32) : lack V x = 0 ∨ lack V x = -1 ∨ lack V x = -2 ∨ lack V x = -3 := by
  unfold lack
  (repeat' split)
  all_goals simp
theorem lack_0 {V : St} {x : Int32} (h : lack V x = 0) : ¬ ix x (nv V 33 7) = 0 ∧ nv V 39 x.toNatClampNeg = 3 ∧ nv V 49 x.toNatClampNeg = 0 ∧ nv V 48 x.toNatClampNeg = 0 := by
  unfold lack at h
  revert h
  (repeat' split)
  all_goals intro h
  all_goals first | (exfalso; revert h; decide) | exact ⟨by assumption, by assumption, by assumption, by assumption⟩
theorem lack_neg {V : St} {x : Int32} (h : ¬ 0 ≤ lack V x) : ∃ j, j < 7 ∧ -lack V x = nI j ∧ lack V x ≠ 0 := by
  rcases lack_cases V x with e | e | e | e <;> rw [e] at h ⊢
  · exact absurd (by decide) h
  · exact ⟨1, by decide, by decide, by decide⟩
  · exact ⟨2, by decide, by decide, by decide⟩
  · exact ⟨3, by decide, by decide, by decide⟩
theorem lack_pos {V : St} {x : Int32} (h : 0 ≤ lack V x) : lack V x = 0 := by
  rcases lack_cases V x with e | e | e | e
  · exact e
  all_goals (rw [e] at h; exact absurd h (by decide))
set_option maxRecDepth 100000 in
set_option maxHeartbeats 4000000 in
theorem c_X6_build (σ V : St) (hV : vwM σ = V) (hI : InvN V) (b : Int32) : Cl LAY yX6_build cX6_build 3 (some .int) 3 64 [.ref 33, .int b] σ (EI (fun v τ => v = resO (lack V b) (nI 1) ∧ vwM τ = stO (lack V b) (wr V 48 b.toNatClampNeg (nI 1)) (rfM V (lack V b)))) := by
  have hnb := bd hI 33 7 40 rfl rfl
  refine Cl.of 1 rfl rfl EI.ok ?_
  show Rn LAY none RX6 _ _ _ _ 0 [some (.ref 33), some (.int b), none] [] _ _
  refine r_aload_n (q := 1) dX6_build_0 rfl rfl ?_
  refine r_iload_n (q := 2) dX6_build_1 rfl rfl ?_
  refine r_cI1 (q := 5) vX6_118 dX6_build_2 rfl LYX6 rfl (Nat.le_of_ble_eq_true rfl) (by decide) (by decide) (c_X6_lackOfPlan _ V hV hI _) ?_
  rintro _ _ ⟨rfl, rfl⟩
  refine r_istore_n (q := 6) dX6_build_5 rfl (Nat.le_of_ble_eq_true rfl) ?_
  refine r_iload_n (q := 7) dX6_build_6 rfl rfl ?_
  refine r_if_ge (t := 16) (q := 10) dX6_build_7 (by decide) rfl (fun c7 => ?_) (fun c7 => ?_)
  · have h0 := lack_pos c7
    obtain ⟨h1, h2, h3, h4⟩ := lack_0 h0
    obtain ⟨b, hb, rfl⟩ := ix_of h1
    have hbc := nI_clamp (n := b) (by omega)
    refine r_aload_n (q := 17) dX6_build_16 rfl rfl ?_
    refine gX6_56 (q := 20) dX6_build_17 rfl ?_
    refine r_iload_n (q := 21) dX6_build_20 rfl rfl ?_
    refine r_iconst (q := 22) (v := nI 1) dX6_build_21 rfl (by decide) ?_
    refine r_zastPM (q := 23) hV dX6_build_22 rfl LA48 rfl (by omega) (by decide) (Or.inr rfl) (fun s22 hV22 => ?_)
    refine r_iconst (q := 24) (v := nI 1) dX6_build_23 rfl (by decide) ?_
    exact r_retI dX6_build_24 (eo_ok h0 rfl (by rw [hbc]; exact hV22))
  · obtain ⟨j, hj7, hj, hne⟩ := lack_neg c7
    refine r_aload_n (q := 11) dX6_build_10 rfl rfl ?_
    refine r_iload_n (q := 12) dX6_build_11 rfl rfl ?_
    refine r_cI1 (q := 15) vX6_111 dX6_build_12 rfl LYX6 rfl (Nat.le_of_ble_eq_true rfl) (by decide) (by decide) (c_X6_refuse _ V hV _ j hj hj7) ?_
    rintro _ τ ⟨rfl, hR⟩
    exact r_retI dX6_build_15 (eo_bad rfl hne hR)
