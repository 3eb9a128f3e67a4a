theorem gOut01 {f y a b o : Int32} (h : o = 0 ∨ o = 1) : gOut f y a b o = 0 ∨ gOut f y a b o = 1 := by
  unfold gOut
  (repeat' split)
  all_goals first | exact Or.inl rfl | exact Or.inr rfl | exact h
def sOut (V : St) (w c k b : Nat) : Int32 := gOut (nI (ptZ V w c)) (nI (nv V 37 k)) (nI (2 * nv V 44 b)) (nI (2 * topT V b)) (gOut (nI (ptY V w c)) (V 36 k) (nI (2 * nv V 42 b)) (nI (2 * nv V 43 b)) (gOut (nI (ptX V w c)) (V 35 k) (nI (2 * nv V 40 b)) (nI (2 * nv V 41 b)) (nI 0)))
def sLow (V : St) (w c k b : Nat) : Int32 × Int32 := gLow (nI (ptZ V w c)) (nI (nv V 37 k)) (nI (2 * nv V 44 b)) (nI (2 * topT V b)) (gLow (nI (ptY V w c)) (V 36 k) (nI (2 * nv V 42 b)) (nI (2 * nv V 43 b)) (gLow (nI (ptX V w c)) (V 35 k) (nI (2 * nv V 40 b)) (nI (2 * nv V 41 b)) (nI 0, nI 1)))
def sHigh (h0 : Int32) (V : St) (w c k b : Nat) : Int32 × Int32 := gHigh (nI (ptZ V w c)) (nI (nv V 37 k)) (nI (2 * nv V 44 b)) (nI (2 * topT V b)) (gHigh (nI (ptY V w c)) (V 36 k) (nI (2 * nv V 42 b)) (nI (2 * nv V 43 b)) (gHigh (nI (ptX V w c)) (V 35 k) (nI (2 * nv V 40 b)) (nI (2 * nv V 41 b)) (h0, nI 0)))
def sHit (h0 : Int32) (V : St) (w c k b : Nat) : Nat := if sOut V w c k b = 0 then (if (sHigh h0 V w c k b).1 * (sLow V w c k b).2 ≤ (sLow V w c k b).1 * (sHigh h0 V w c k b).2 then 0 else 1) else 0
theorem sHit_le (h0 : Int32) (V : St) (w c k b : Nat) : sHit h0 V w c k b ≤ 1 := by
  unfold sHit
  (repeat' split)
  all_goals omega
set_option maxRecDepth 100000 in
set_option maxHeartbeats 4000000 in
theorem c_X6_stands (σ V : St) (hV : vwM σ = V) (hI : InvN V) (w c k b : Nat) (hs : shown V w c k σ) (h : b < 40) : Cl LAY yX6_stands cX6_stands 2 (some .boolean) 1 27 [.ref 33, .int (nI b)] σ (EI (fun v τ => v = nI (sHit (σ 33 33) V w c k b) ∧ vwM τ = V ∧ off5 σ τ ∧ (τ 33 31, τ 33 32) = sLow V w c k b)) := by
  refine Cl.of 0 rfl rfl (EI.okZ (okQ (sHit_le _ _ _ _ _ _))) ?_
  show Rn LAY none RX6 _ _ _ _ 0 [some (.ref 33), some (.int (nI b))] [] _ _
  refine r_aload_n (q := 1) dX6_stands_0 rfl rfl ?_
  refine r_iconst (q := 2) (v := nI 0) dX6_stands_1 rfl (by decide) ?_
  refine psX6_149 (q := 5) hV dX6_stands_2 rfl (fun s2 e2 hV2 => ?_)
  refine r_aload_n (q := 6) dX6_stands_5 rfl rfl ?_
  refine r_iconst (q := 7) (v := nI 1) dX6_stands_6 rfl (by decide) ?_
  refine psX6_146 (q := 10) hV2 dX6_stands_7 rfl (fun s7 e7 hV7 => ?_)
  refine r_aload_n (q := 11) dX6_stands_10 rfl rfl ?_
  refine r_iconst (q := 12) (v := nI 0) dX6_stands_11 rfl (by decide) ?_
  refine psX6_152 (q := 15) hV7 dX6_stands_12 rfl (fun s12 e12 hV12 => ?_)
  refine r_aload_n (q := 16) dX6_stands_15 rfl rfl ?_
  refine r_iconst (q := 17) (v := nI 0) dX6_stands_16 rfl (by decide) ?_
  refine psX6_142 (q := 20) hV12 dX6_stands_17 rfl (by first | exact Or.inl rfl | exact Or.inr rfl | assumption) (fun s17 e17 hV17 => ?_)
  have o17 : off5 σ s17 := by
    intro k i hk
    simp only [e17, e12, e7, e2, u2]
    rw [if_neg (by omega), if_neg (by omega), if_neg (by omega), if_neg (by omega)]
  have sh17 := o17.shown hs
  have h17 : s17 33 35 = 0 ∨ s17 33 35 = 1 := Or.inl (by simp [e17, u2]; rfl)
  have l17 : (s17 33 31, s17 33 32) = (nI 0, nI 1) := by simp [e17, e12, e7, e2, u2]
  have g17 : (s17 33 33, s17 33 34) = (σ 33 33, nI 0) := by simp [e17, e12, e7, e2, u2]
  have u17 : s17 33 35 = nI 0 := by simp [e17, u2]
  refine r_aload_n (q := 21) dX6_stands_20 rfl rfl ?_
  refine r_aload_n (q := 22) dX6_stands_21 rfl rfl ?_
  refine gX6_124 (q := 25) dX6_stands_22 rfl ?_
  refine r_as sh17.1 ?_
  refine r_aload_n (q := 26) dX6_stands_25 rfl rfl ?_
  refine gX6_133 (q := 29) dX6_stands_26 rfl ?_
  refine r_as sh17.2.2.2.1 ?_
  refine r_iconst (q := 30) (v := nI 2) dX6_stands_29 rfl (by decide) ?_
  refine r_aload_n (q := 31) dX6_stands_30 rfl rfl ?_
  refine gX6_32 (q := 34) dX6_stands_31 rfl ?_
  refine r_iload_n (q := 35) dX6_stands_34 rfl rfl ?_
  refine r_ialdVM (q := 36) hV17 hI dX6_stands_35 rfl LA40 rfl rfl (by decide) (by omega) ?_
  refine r_imulN (q := 37) dX6_stands_36 rfl ?_
  refine r_iconst (q := 38) (v := nI 2) dX6_stands_37 rfl (by decide) ?_
  refine r_aload_n (q := 39) dX6_stands_38 rfl rfl ?_
  refine gX6_35 (q := 42) dX6_stands_39 rfl ?_
  refine r_iload_n (q := 43) dX6_stands_42 rfl rfl ?_
  refine r_ialdVM (q := 44) hV17 hI dX6_stands_43 rfl LA41 rfl rfl (by decide) (by omega) ?_
  refine r_imulN (q := 45) dX6_stands_44 rfl ?_
  refine r_cV4 (q := 48) vX6_158 dX6_stands_45 rfl LYX6 rfl (Nat.le_of_ble_eq_true rfl) (by decide) (by decide) (c_X6_bound _ V hV17 _ _ _ _ h17) ?_
  rintro s45 ⟨hV45, o45, l45, g45, u45⟩
  have sh45 := o45.shown sh17
  have h45 : s45 33 35 = 0 ∨ s45 33 35 = 1 := by rw [u45]; exact gOut01 h17
  refine r_aload_n (q := 49) dX6_stands_48 rfl rfl ?_
  refine r_aload_n (q := 50) dX6_stands_49 rfl rfl ?_
  refine gX6_127 (q := 53) dX6_stands_50 rfl ?_
  refine r_as sh45.2.1 ?_
  refine r_aload_n (q := 54) dX6_stands_53 rfl rfl ?_
  refine gX6_136 (q := 57) dX6_stands_54 rfl ?_
  refine r_as sh45.2.2.2.2.1 ?_
  refine r_iconst (q := 58) (v := nI 2) dX6_stands_57 rfl (by decide) ?_
  refine r_aload_n (q := 59) dX6_stands_58 rfl rfl ?_
  refine gX6_38 (q := 62) dX6_stands_59 rfl ?_
  refine r_iload_n (q := 63) dX6_stands_62 rfl rfl ?_
  refine r_ialdVM (q := 64) hV45 hI dX6_stands_63 rfl LA42 rfl rfl (by decide) (by omega) ?_
  refine r_imulN (q := 65) dX6_stands_64 rfl ?_
  refine r_iconst (q := 66) (v := nI 2) dX6_stands_65 rfl (by decide) ?_
  refine r_aload_n (q := 67) dX6_stands_66 rfl rfl ?_
  refine gX6_41 (q := 70) dX6_stands_67 rfl ?_
  refine r_iload_n (q := 71) dX6_stands_70 rfl rfl ?_
  refine r_ialdVM (q := 72) hV45 hI dX6_stands_71 rfl LA43 rfl rfl (by decide) (by omega) ?_
  refine r_imulN (q := 73) dX6_stands_72 rfl ?_
  refine r_cV4 (q := 76) vX6_158 dX6_stands_73 rfl LYX6 rfl (Nat.le_of_ble_eq_true rfl) (by decide) (by decide) (c_X6_bound _ V hV45 _ _ _ _ h45) ?_
  rintro s73 ⟨hV73, o73, l73, g73, u73⟩
  have sh73 := o73.shown sh45
  have h73 : s73 33 35 = 0 ∨ s73 33 35 = 1 := by rw [u73]; exact gOut01 h45
  refine r_aload_n (q := 77) dX6_stands_76 rfl rfl ?_
  refine r_aload_n (q := 78) dX6_stands_77 rfl rfl ?_
  refine gX6_130 (q := 81) dX6_stands_78 rfl ?_
  refine r_as sh73.2.2.1 ?_
  refine r_aload_n (q := 82) dX6_stands_81 rfl rfl ?_
  refine gX6_139 (q := 85) dX6_stands_82 rfl ?_
  refine r_as sh73.2.2.2.2.2 ?_
  refine r_iconst (q := 86) (v := nI 2) dX6_stands_85 rfl (by decide) ?_
  refine r_aload_n (q := 87) dX6_stands_86 rfl rfl ?_
  refine gX6_44 (q := 90) dX6_stands_87 rfl ?_
  refine r_iload_n (q := 91) dX6_stands_90 rfl rfl ?_
  refine r_ialdVM (q := 92) hV73 hI dX6_stands_91 rfl LA44 rfl rfl (by decide) (by omega) ?_
  refine r_imulN (q := 93) dX6_stands_92 rfl ?_
  refine r_iconst (q := 94) (v := nI 2) dX6_stands_93 rfl (by decide) ?_
  refine r_aload_n (q := 95) dX6_stands_94 rfl rfl ?_
  refine r_iload_n (q := 96) dX6_stands_95 rfl rfl ?_
  refine r_cI1 (q := 99) vX6_162 dX6_stands_96 rfl LYX6 rfl (Nat.le_of_ble_eq_true rfl) (by decide) (by decide) (c_X6_topOf _ V hV73 hI b h) ?_
  rintro _ _ ⟨rfl, rfl⟩
  refine r_imulN (q := 100) dX6_stands_99 rfl ?_
  refine r_cV4 (q := 103) vX6_158 dX6_stands_100 rfl LYX6 rfl (Nat.le_of_ble_eq_true rfl) (by decide) (by decide) (c_X6_bound _ V hV73 _ _ _ _ h73) ?_
  rintro s100 ⟨hV100, o100, l100, g100, u100⟩
  have sh100 := o100.shown sh73
  have h100 : s100 33 35 = 0 ∨ s100 33 35 = 1 := by rw [u100]; exact gOut01 h73
  have hl : (s100 33 31, s100 33 32) = sLow V w c k b := by rw [l100, l73, l45, l17]; rfl
  have hg : (s100 33 33, s100 33 34) = sHigh (σ 33 33) V w c k b := by rw [g100, g73, g45, g17]; rfl
  have hu : s100 33 35 = sOut V w c k b := by rw [u100, u73, u45, u17]; rfl
  have a1 := congrArg Prod.fst hl
  have a2 := congrArg Prod.snd hl
  have a3 := congrArg Prod.fst hg
  have a4 := congrArg Prod.snd hg
  dsimp only at a1 a2 a3 a4
  have of : off5 σ s100 := o17.trans (o45.trans (o73.trans o100))
  refine r_aload_n (q := 104) dX6_stands_103 rfl rfl ?_
  refine gX6_142 (q := 107) dX6_stands_104 rfl ?_
  refine r_if_ne (t := 135) (q := 110) dX6_stands_107 (by decide) rfl (fun c107 => ?_) (fun c107 => ?_)
  · refine r_iconst (q := 136) (v := nI 0) dX6_stands_135 rfl (by decide) ?_
    rw [hu] at c107
    exact r_retI dX6_stands_136 ⟨by simp only [sHit]; simp [*], hV100, of, hl⟩
  · refine r_aload_n (q := 111) dX6_stands_110 rfl rfl ?_
    refine gX6_149 (q := 114) dX6_stands_111 rfl ?_
    refine r_aload_n (q := 115) dX6_stands_114 rfl rfl ?_
    refine gX6_152 (q := 118) dX6_stands_115 rfl ?_
    refine r_imul (q := 119) dX6_stands_118 rfl ?_
    refine r_aload_n (q := 120) dX6_stands_119 rfl rfl ?_
    refine gX6_155 (q := 123) dX6_stands_120 rfl ?_
    refine r_aload_n (q := 124) dX6_stands_123 rfl rfl ?_
    refine gX6_146 (q := 127) dX6_stands_124 rfl ?_
    refine r_imul (q := 128) dX6_stands_127 rfl ?_
    refine r_icmp_ge (t := 135) (q := 131) dX6_stands_128 (by decide) rfl (fun c128 => ?_) (fun c128 => ?_)
    · refine r_iconst (q := 136) (v := nI 0) dX6_stands_135 rfl (by decide) ?_
      rw [hu] at c107
      rw [a1, a2, a3, a4] at c128
      exact r_retI dX6_stands_136 ⟨by simp only [sHit]; simp [*], hV100, of, hl⟩
    · refine r_iconst (q := 132) (v := nI 1) dX6_stands_131 rfl (by decide) ?_
      refine r_goto (q := 136) dX6_stands_132 (by decide) ?_
      rw [hu] at c107
      rw [a1, a2, a3, a4] at c128
      exact r_retI dX6_stands_136 ⟨by simp only [sHit]; simp [*], hV100, of, hl⟩
