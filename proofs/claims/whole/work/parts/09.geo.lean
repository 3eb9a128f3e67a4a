/-! ===== the reference's geometry ===== -/
/-- the POINT of a CELL, twice -/
def ptU (V : St) (w c : Nat) : Nat := 2 * (nv V 52 w + c % (nv V 53 w - nv V 52 w)) + 1
def ptX (V : St) (w c : Nat) : Nat := if nv V 50 w < 2 then 2 * nv V 51 w else ptU V w c
def ptY (V : St) (w c : Nat) : Nat := if nv V 50 w < 2 then ptU V w c else 2 * nv V 51 w
def ptZ (V : St) (w c : Nat) : Nat := 2 * (nv V 54 w + c / (nv V 53 w - nv V 52 w)) + 1
def shown (V : St) (w c k : Nat) (τ : St) : Prop := τ 33 36 = nI (ptX V w c) ∧ τ 33 37 = nI (ptY V w c) ∧ τ 33 38 = nI (ptZ V w c) ∧ τ 33 39 = V 35 k ∧ τ 33 40 = V 36 k ∧ τ 33 41 = nI (nv V 37 k)
/-- nothing but the reference's scratch of 'stands' has changed -/
def off5 (σ τ : St) : Prop := ∀ k i, ¬ (k = 33 ∧ 31 ≤ i ∧ i ≤ 35) → τ k i = σ k i
theorem off5.shown {V σ τ : St} {w c k : Nat} (h : off5 σ τ) (hs : shown V w c k σ) : shown V w c k τ := by
  obtain ⟨h1, h2, h3, h4, h5, h6⟩ := hs
  exact ⟨by rw [h _ _ (by omega)]; exact h1, by rw [h _ _ (by omega)]; exact h2, by rw [h _ _ (by omega)]; exact h3, by rw [h _ _ (by omega)]; exact h4, by rw [h _ _ (by omega)]; exact h5, by rw [h _ _ (by omega)]; exact h6⟩
theorem off5.trans {σ τ ρ : St} (h1 : off5 σ τ) (h2 : off5 τ ρ) : off5 σ ρ := fun k i h => (h2 k i h).trans (h1 k i h)
theorem off5.vwM {σ τ : St} (h : off5 σ τ) : vwM τ = vwM σ := by
  apply vwM_ext
  intro k i hs
  apply h
  rintro ⟨rfl, h1, h2⟩
  have : scrM 33 i = true := by
    show (Nat.ble 31 i && Nat.ble i 41) = true
    rw [Bool.and_eq_true]
    exact ⟨Nat.ble_eq.mpr h1, Nat.ble_eq.mpr (by omega)⟩
  rw [this] at hs
  cases hs
set_option maxRecDepth 100000 in
set_option maxHeartbeats 4000000 in
theorem c_X6_show (σ V : St) (hV : vwM σ = V) (hI : InvN V) (hw : InvW V) (w c k : Nat) (h20 : w < 20) (hn : w < nv V 33 19) (hk : k < 192) (hc : c < 64) : Cl LAY yX6_show cX6_show 6 (none) 0 0 [.ref 33, .int (nI w), .int (nI c), .int (nI k)] σ (EV (fun τ => vwM τ = V ∧ shown V w c k τ)) := by
  refine Cl.of 2 rfl rfl EV.ok ?_
  show Rn LAY none RX6 _ _ _ _ 0 [some (.ref 33), some (.int (nI w)), some (.int (nI c)), some (.int (nI k)), none, none] [] _ _
  refine r_aload_n (q := 1) dX6_show_0 rfl rfl ?_
  refine gX6_72 (q := 4) dX6_show_1 rfl ?_
  refine r_iload_n (q := 5) dX6_show_4 rfl rfl ?_
  refine r_ialdVM (q := 6) hV hI dX6_show_5 rfl LA53 rfl rfl (by decide) (by omega) ?_
  refine r_aload_n (q := 7) dX6_show_6 rfl rfl ?_
  refine gX6_69 (q := 10) dX6_show_7 rfl ?_
  refine r_iload_n (q := 11) dX6_show_10 rfl rfl ?_
  refine r_ialdVM (q := 12) hV hI dX6_show_11 rfl LA52 rfl rfl (by decide) (by omega) ?_
  refine r_isubN (q := 13) dX6_show_12 rfl (hw w).1 ?_
  refine r_istore (q := 15) dX6_show_13 rfl (Nat.le_of_ble_eq_true rfl) ?_
  refine r_iconst (q := 16) (v := nI 2) dX6_show_15 rfl (by decide) ?_
  refine r_aload_n (q := 17) dX6_show_16 rfl rfl ?_
  refine gX6_69 (q := 20) dX6_show_17 rfl ?_
  refine r_iload_n (q := 21) dX6_show_20 rfl rfl ?_
  refine r_ialdVM (q := 22) hV hI dX6_show_21 rfl LA52 rfl rfl (by decide) (by omega) ?_
  refine r_iload_n (q := 23) dX6_show_22 rfl rfl ?_
  refine r_iload (q := 25) dX6_show_23 rfl rfl ?_
  refine r_iremN (q := 26) dX6_show_25 rfl (by omega) (by have := (hw w).2.2.2 hn; omega) (by have := bd hI 53 w 200 rfl rfl; omega) ?_
  refine r_iaddN (q := 27) dX6_show_26 rfl ?_
  refine r_imulN (q := 28) dX6_show_27 rfl ?_
  refine r_iconst (q := 29) (v := nI 1) dX6_show_28 rfl (by decide) ?_
  refine r_iaddN (q := 30) dX6_show_29 rfl ?_
  refine r_istore (q := 32) dX6_show_30 rfl (Nat.le_of_ble_eq_true rfl) ?_
  refine r_aload_n (q := 33) dX6_show_32 rfl rfl ?_
  refine r_aload_n (q := 34) dX6_show_33 rfl rfl ?_
  refine gX6_63 (q := 37) dX6_show_34 rfl ?_
  refine r_iload_n (q := 38) dX6_show_37 rfl rfl ?_
  refine r_ialdVM (q := 39) hV hI dX6_show_38 rfl LA50 rfl rfl (by decide) (by omega) ?_
  refine r_iconst (q := 40) (v := nI 2) dX6_show_39 rfl (by decide) ?_
  refine r_icmp_geN (t := 54) (q := 43) dX6_show_40 (by decide) rfl (by have := bd hI 50 w 3 rfl rfl; omega) (by omega) (fun c40 => ?_) (fun c40 => ?_)
  · refine r_iload (q := 56) dX6_show_54 rfl rfl ?_
    refine psX6_124 (q := 59) hV dX6_show_56 rfl (fun s56 e56 hV56 => ?_)
    refine r_aload_n (q := 60) dX6_show_59 rfl rfl ?_
    refine r_aload_n (q := 61) dX6_show_60 rfl rfl ?_
    refine gX6_63 (q := 64) dX6_show_61 rfl ?_
    refine r_iload_n (q := 65) dX6_show_64 rfl rfl ?_
    refine r_ialdVM (q := 66) hV56 hI dX6_show_65 rfl LA50 rfl rfl (by decide) (by omega) ?_
    refine r_iconst (q := 67) (v := nI 2) dX6_show_66 rfl (by decide) ?_
    refine r_icmp_geN (t := 75) (q := 70) dX6_show_67 (by decide) rfl (by have := bd hI 50 w 3 rfl rfl; omega) (by omega) (fun c67 => ?_) (fun c67 => absurd c40 c67)
    refine r_iconst (q := 76) (v := nI 2) dX6_show_75 rfl (by decide) ?_
    refine r_aload_n (q := 77) dX6_show_76 rfl rfl ?_
    refine gX6_66 (q := 80) dX6_show_77 rfl ?_
    refine r_iload_n (q := 81) dX6_show_80 rfl rfl ?_
    refine r_ialdVM (q := 82) hV56 hI dX6_show_81 rfl LA51 rfl rfl (by decide) (by omega) ?_
    refine r_imulN (q := 83) dX6_show_82 rfl ?_
    refine psX6_127 (q := 86) hV56 dX6_show_83 rfl (fun s83 e83 hV83 => ?_)
    refine r_aload_n (q := 87) dX6_show_86 rfl rfl ?_
    refine r_iconst (q := 88) (v := nI 2) dX6_show_87 rfl (by decide) ?_
    refine r_aload_n (q := 89) dX6_show_88 rfl rfl ?_
    refine gX6_75 (q := 92) dX6_show_89 rfl ?_
    refine r_iload_n (q := 93) dX6_show_92 rfl rfl ?_
    refine r_ialdVM (q := 94) hV83 hI dX6_show_93 rfl LA54 rfl rfl (by decide) (by omega) ?_
    refine r_iload_n (q := 95) dX6_show_94 rfl rfl ?_
    refine r_iload (q := 97) dX6_show_95 rfl rfl ?_
    refine r_idivN (q := 98) dX6_show_97 rfl (by omega) (by have := (hw w).2.2.2 hn; omega) (by have := bd hI 53 w 200 rfl rfl; omega) ?_
    refine r_iaddN (q := 99) dX6_show_98 rfl ?_
    refine r_imulN (q := 100) dX6_show_99 rfl ?_
    refine r_iconst (q := 101) (v := nI 1) dX6_show_100 rfl (by decide) ?_
    refine r_iaddN (q := 102) dX6_show_101 rfl ?_
    refine psX6_130 (q := 105) hV83 dX6_show_102 rfl (fun s102 e102 hV102 => ?_)
    refine r_aload_n (q := 106) dX6_show_105 rfl rfl ?_
    refine r_aload_n (q := 107) dX6_show_106 rfl rfl ?_
    refine gX6_13 (q := 110) dX6_show_107 rfl ?_
    refine r_iload_n (q := 111) dX6_show_110 rfl rfl ?_
    refine r_ialdWM (q := 112) hV102 dX6_show_111 rfl LA35 rfl (by decide) (by omega) ?_
    refine psX6_133 (q := 115) hV102 dX6_show_112 rfl (fun s112 e112 hV112 => ?_)
    refine r_aload_n (q := 116) dX6_show_115 rfl rfl ?_
    refine r_aload_n (q := 117) dX6_show_116 rfl rfl ?_
    refine gX6_16 (q := 120) dX6_show_117 rfl ?_
    refine r_iload_n (q := 121) dX6_show_120 rfl rfl ?_
    refine r_ialdWM (q := 122) hV112 dX6_show_121 rfl LA36 rfl (by decide) (by omega) ?_
    refine psX6_136 (q := 125) hV112 dX6_show_122 rfl (fun s122 e122 hV122 => ?_)
    refine r_aload_n (q := 126) dX6_show_125 rfl rfl ?_
    refine r_aload_n (q := 127) dX6_show_126 rfl rfl ?_
    refine gX6_19 (q := 130) dX6_show_127 rfl ?_
    refine r_iload_n (q := 131) dX6_show_130 rfl rfl ?_
    refine r_ialdVM (q := 132) hV122 hI dX6_show_131 rfl LA37 rfl rfl (by decide) (by omega) ?_
    refine psX6_139 (q := 135) hV122 dX6_show_132 rfl (fun s132 e132 hV132 => ?_)
    refine r_retV dX6_show_135 ⟨hV132, ?_⟩
    unfold shown ptX ptY ptZ ptU
    refine ⟨?_, ?_, ?_, ?_, ?_, ?_⟩ <;> simp only [e132, e122, e112, e102, e83, e56, u2] <;> simp <;> first | done | (split <;> first | rfl | (exfalso; omega))
  · refine r_iconst (q := 44) (v := nI 2) dX6_show_43 rfl (by decide) ?_
    refine r_aload_n (q := 45) dX6_show_44 rfl rfl ?_
    refine gX6_66 (q := 48) dX6_show_45 rfl ?_
    refine r_iload_n (q := 49) dX6_show_48 rfl rfl ?_
    refine r_ialdVM (q := 50) hV hI dX6_show_49 rfl LA51 rfl rfl (by decide) (by omega) ?_
    refine r_imulN (q := 51) dX6_show_50 rfl ?_
    refine r_goto (q := 56) dX6_show_51 (by decide) ?_
    refine psX6_124 (q := 59) hV dX6_show_56 rfl (fun s56 e56 hV56 => ?_)
    refine r_aload_n (q := 60) dX6_show_59 rfl rfl ?_
    refine r_aload_n (q := 61) dX6_show_60 rfl rfl ?_
    refine gX6_63 (q := 64) dX6_show_61 rfl ?_
    refine r_iload_n (q := 65) dX6_show_64 rfl rfl ?_
    refine r_ialdVM (q := 66) hV56 hI dX6_show_65 rfl LA50 rfl rfl (by decide) (by omega) ?_
    refine r_iconst (q := 67) (v := nI 2) dX6_show_66 rfl (by decide) ?_
    refine r_icmp_geN (t := 75) (q := 70) dX6_show_67 (by decide) rfl (by have := bd hI 50 w 3 rfl rfl; omega) (by omega) (fun c67 => absurd c67 c40) (fun c67 => ?_)
    refine r_iload (q := 72) dX6_show_70 rfl rfl ?_
    refine r_goto (q := 83) dX6_show_72 (by decide) ?_
    refine psX6_127 (q := 86) hV56 dX6_show_83 rfl (fun s83 e83 hV83 => ?_)
    refine r_aload_n (q := 87) dX6_show_86 rfl rfl ?_
    refine r_iconst (q := 88) (v := nI 2) dX6_show_87 rfl (by decide) ?_
    refine r_aload_n (q := 89) dX6_show_88 rfl rfl ?_
    refine gX6_75 (q := 92) dX6_show_89 rfl ?_
    refine r_iload_n (q := 93) dX6_show_92 rfl rfl ?_
    refine r_ialdVM (q := 94) hV83 hI dX6_show_93 rfl LA54 rfl rfl (by decide) (by omega) ?_
    refine r_iload_n (q := 95) dX6_show_94 rfl rfl ?_
    refine r_iload (q := 97) dX6_show_95 rfl rfl ?_
    refine r_idivN (q := 98) dX6_show_97 rfl (by omega) (by have := (hw w).2.2.2 hn; omega) (by have := bd hI 53 w 200 rfl rfl; omega) ?_
    refine r_iaddN (q := 99) dX6_show_98 rfl ?_
    refine r_imulN (q := 100) dX6_show_99 rfl ?_
    refine r_iconst (q := 101) (v := nI 1) dX6_show_100 rfl (by decide) ?_
    refine r_iaddN (q := 102) dX6_show_101 rfl ?_
    refine psX6_130 (q := 105) hV83 dX6_show_102 rfl (fun s102 e102 hV102 => ?_)
    refine r_aload_n (q := 106) dX6_show_105 rfl rfl ?_
    refine r_aload_n (q := 107) dX6_show_106 rfl rfl ?_
    refine gX6_13 (q := 110) dX6_show_107 rfl ?_
    refine r_iload_n (q := 111) dX6_show_110 rfl rfl ?_
    refine r_ialdWM (q := 112) hV102 dX6_show_111 rfl LA35 rfl (by decide) (by omega) ?_
    refine psX6_133 (q := 115) hV102 dX6_show_112 rfl (fun s112 e112 hV112 => ?_)
    refine r_aload_n (q := 116) dX6_show_115 rfl rfl ?_
    refine r_aload_n (q := 117) dX6_show_116 rfl rfl ?_
    refine gX6_16 (q := 120) dX6_show_117 rfl ?_
    refine r_iload_n (q := 121) dX6_show_120 rfl rfl ?_
    refine r_ialdWM (q := 122) hV112 dX6_show_121 rfl LA36 rfl (by decide) (by omega) ?_
    refine psX6_136 (q := 125) hV112 dX6_show_122 rfl (fun s122 e122 hV122 => ?_)
    refine r_aload_n (q := 126) dX6_show_125 rfl rfl ?_
    refine r_aload_n (q := 127) dX6_show_126 rfl rfl ?_
    refine gX6_19 (q := 130) dX6_show_127 rfl ?_
    refine r_iload_n (q := 131) dX6_show_130 rfl rfl ?_
    refine r_ialdVM (q := 132) hV122 hI dX6_show_131 rfl LA37 rfl rfl (by decide) (by omega) ?_
    refine psX6_139 (q := 135) hV122 dX6_show_132 rfl (fun s132 e132 hV132 => ?_)
    refine r_retV dX6_show_135 ⟨hV132, ?_⟩
    unfold shown ptX ptY ptZ ptU
    refine ⟨?_, ?_, ?_, ?_, ?_, ?_⟩ <;> simp only [e132, e122, e112, e102, e83, e56, u2] <;> simp <;> first | done | (split <;> first | rfl | (exfalso; omega))
def gFi (f y a b : Int32) : Int32 := if y ≤ 0 then f - b else a - f
def gLa (f y a b : Int32) : Int32 := if y ≤ 0 then f - a else b - f
def gUn (y : Int32) : Int32 := nI 2 * (if y ≤ 0 then -y else y)
def gOut (f y a b o : Int32) : Int32 := if y = 0 then (if o = 0 then (if f ≤ a then 1 else if f < b then 0 else 1) else 1) else o
def gLow (f y a b : Int32) (p : Int32 × Int32) : Int32 × Int32 := if y = 0 then p else if gFi f y a b * p.2 ≤ p.1 * gUn y then p else (gFi f y a b, gUn y)
def gHigh (f y a b : Int32) (p : Int32 × Int32) : Int32 × Int32 := if y = 0 then p else if p.2 = 0 then (gLa f y a b, gUn y) else if p.1 * gUn y ≤ gLa f y a b * p.2 then p else (gLa f y a b, gUn y)
set_option maxRecDepth 100000 in
set_option maxHeartbeats 4000000 in
theorem c_X6_bound (σ V : St) (hV : vwM σ = V) (f y a b : Int32) (ho : σ 33 35 = 0 ∨ σ 33 35 = 1) : Cl LAY yX6_bound cX6_bound 8 (none) 0 0 [.ref 33, .int f, .int y, .int a, .int b] σ (EV (fun τ => vwM τ = V ∧ off5 σ τ ∧ (τ 33 31, τ 33 32) = gLow f y a b (σ 33 31, σ 33 32) ∧ (τ 33 33, τ 33 34) = gHigh f y a b (σ 33 33, σ 33 34) ∧ τ 33 35 = gOut f y a b (σ 33 35))) := by
  refine Cl.of 3 rfl rfl EV.ok ?_
  show Rn LAY none RX6 _ _ _ _ 0 [some (.ref 33), some (.int f), some (.int y), some (.int a), some (.int b), none, none, none] [] _ _
  refine r_iload_n (q := 1) dX6_bound_0 rfl rfl ?_
  refine r_if_ne (t := 32) (q := 4) dX6_bound_1 (by decide) rfl (fun c1 => ?_) (fun c1 => ?_)
  · refine r_iload_n (q := 33) dX6_bound_32 rfl rfl ?_
    refine r_if_le (t := 42) (q := 36) dX6_bound_33 (by decide) rfl (fun c33 => ?_) (fun c33 => ?_)
    · refine r_iload_n (q := 43) dX6_bound_42 rfl rfl ?_
      refine r_iload (q := 45) dX6_bound_43 rfl rfl ?_
      refine r_isub (q := 46) dX6_bound_45 rfl ?_
      refine r_istore (q := 48) dX6_bound_46 rfl (Nat.le_of_ble_eq_true rfl) ?_
      refine r_iload_n (q := 49) dX6_bound_48 rfl rfl ?_
      refine r_if_le (t := 59) (q := 52) dX6_bound_49 (by decide) rfl (fun c49 => ?_) (fun c49 => absurd c33 c49)
      refine r_iload_n (q := 60) dX6_bound_59 rfl rfl ?_
      refine r_iload_n (q := 61) dX6_bound_60 rfl rfl ?_
      refine r_isub (q := 62) dX6_bound_61 rfl ?_
      refine r_istore (q := 64) dX6_bound_62 rfl (Nat.le_of_ble_eq_true rfl) ?_
      refine r_iconst (q := 65) (v := nI 2) dX6_bound_64 rfl (by decide) ?_
      refine r_iload_n (q := 66) dX6_bound_65 rfl rfl ?_
      refine r_if_le (t := 73) (q := 69) dX6_bound_66 (by decide) rfl (fun c66 => ?_) (fun c66 => absurd c33 c66)
      refine r_iload_n (q := 74) dX6_bound_73 rfl rfl ?_
      refine r_ineg (q := 75) dX6_bound_74 rfl ?_
      refine r_imul (q := 76) dX6_bound_75 rfl ?_
      refine r_istore (q := 78) dX6_bound_76 rfl (Nat.le_of_ble_eq_true rfl) ?_
      refine r_iload (q := 80) dX6_bound_78 rfl rfl ?_
      refine r_aload_n (q := 81) dX6_bound_80 rfl rfl ?_
      refine gX6_146 (q := 84) dX6_bound_81 rfl ?_
      refine r_imul (q := 85) dX6_bound_84 rfl ?_
      refine r_aload_n (q := 86) dX6_bound_85 rfl rfl ?_
      refine gX6_149 (q := 89) dX6_bound_86 rfl ?_
      refine r_iload (q := 91) dX6_bound_89 rfl rfl ?_
      refine r_imul (q := 92) dX6_bound_91 rfl ?_
      refine r_icmp_le (t := 107) (q := 95) dX6_bound_92 (by decide) rfl (fun c92 => ?_) (fun c92 => ?_)
      · refine r_aload_n (q := 108) dX6_bound_107 rfl rfl ?_
        refine gX6_152 (q := 111) dX6_bound_108 rfl ?_
        refine r_if_eq (t := 131) (q := 114) dX6_bound_111 (by decide) rfl (fun c111 => ?_) (fun c111 => ?_)
        · refine r_aload_n (q := 132) dX6_bound_131 rfl rfl ?_
          refine r_iload (q := 134) dX6_bound_132 rfl rfl ?_
          refine psX6_155 (q := 137) hV dX6_bound_134 rfl (fun s134 e134 hV134 => ?_)
          refine r_aload_n (q := 138) dX6_bound_137 rfl rfl ?_
          refine r_iload (q := 140) dX6_bound_138 rfl rfl ?_
          refine psX6_152 (q := 143) hV134 dX6_bound_140 rfl (fun s140 e140 hV140 => ?_)
          try simp [e140, e134, u2, -Int32.not_le] at c111
          refine r_retV dX6_bound_143 ⟨hV140, ?_, ?_⟩
          · intro k i hk; simp only [e140, e134, u2]; rw [if_neg (by omega)]; rw [if_neg (by omega)]
          · refine ⟨?_, ?_, ?_⟩
            · simp [e140, e134, u2, gLow, gFi, gUn, *]
            · simp [e140, e134, u2, gHigh, gLa, gUn, *]
            · simp [e140, e134, u2, gOut, c1]
        · refine r_iload (q := 116) dX6_bound_114 rfl rfl ?_
          refine r_aload_n (q := 117) dX6_bound_116 rfl rfl ?_
          refine gX6_152 (q := 120) dX6_bound_117 rfl ?_
          refine r_imul (q := 121) dX6_bound_120 rfl ?_
          refine r_aload_n (q := 122) dX6_bound_121 rfl rfl ?_
          refine gX6_155 (q := 125) dX6_bound_122 rfl ?_
          refine r_iload (q := 127) dX6_bound_125 rfl rfl ?_
          refine r_imul (q := 128) dX6_bound_127 rfl ?_
          refine r_icmp_ge (t := 143) (q := 131) dX6_bound_128 (by decide) rfl (fun c128 => ?_) (fun c128 => ?_)
          · refine r_retV dX6_bound_143 ⟨hV, ?_, ?_⟩
            · intro k i hk; rfl
            · refine ⟨?_, ?_, ?_⟩
              · simp [u2, gLow, gFi, gUn, *]
              · simp [u2, gHigh, gLa, gUn, *]
              · simp [u2, gOut, c1]
          · refine r_aload_n (q := 132) dX6_bound_131 rfl rfl ?_
            refine r_iload (q := 134) dX6_bound_132 rfl rfl ?_
            refine psX6_155 (q := 137) hV dX6_bound_134 rfl (fun s134 e134 hV134 => ?_)
            refine r_aload_n (q := 138) dX6_bound_137 rfl rfl ?_
            refine r_iload (q := 140) dX6_bound_138 rfl rfl ?_
            refine psX6_152 (q := 143) hV134 dX6_bound_140 rfl (fun s140 e140 hV140 => ?_)
            try simp [e140, e134, u2, -Int32.not_le] at c111
            try simp [e140, e134, u2, -Int32.not_le] at c128
            refine r_retV dX6_bound_143 ⟨hV140, ?_, ?_⟩
            · intro k i hk; simp only [e140, e134, u2]; rw [if_neg (by omega)]; rw [if_neg (by omega)]
            · refine ⟨?_, ?_, ?_⟩
              · simp [e140, e134, u2, gLow, gFi, gUn, *]
              · simp [e140, e134, u2, gHigh, gLa, gUn, *]
              · simp [e140, e134, u2, gOut, c1]
      · refine r_aload_n (q := 96) dX6_bound_95 rfl rfl ?_
        refine r_iload (q := 98) dX6_bound_96 rfl rfl ?_
        refine psX6_149 (q := 101) hV dX6_bound_98 rfl (fun s98 e98 hV98 => ?_)
        refine r_aload_n (q := 102) dX6_bound_101 rfl rfl ?_
        refine r_iload (q := 104) dX6_bound_102 rfl rfl ?_
        refine psX6_146 (q := 107) hV98 dX6_bound_104 rfl (fun s104 e104 hV104 => ?_)
        refine r_aload_n (q := 108) dX6_bound_107 rfl rfl ?_
        refine gX6_152 (q := 111) dX6_bound_108 rfl ?_
        refine r_if_eq (t := 131) (q := 114) dX6_bound_111 (by decide) rfl (fun c111 => ?_) (fun c111 => ?_)
        · refine r_aload_n (q := 132) dX6_bound_131 rfl rfl ?_
          refine r_iload (q := 134) dX6_bound_132 rfl rfl ?_
          refine psX6_155 (q := 137) hV104 dX6_bound_134 rfl (fun s134 e134 hV134 => ?_)
          refine r_aload_n (q := 138) dX6_bound_137 rfl rfl ?_
          refine r_iload (q := 140) dX6_bound_138 rfl rfl ?_
          refine psX6_152 (q := 143) hV134 dX6_bound_140 rfl (fun s140 e140 hV140 => ?_)
          try simp [e140, e134, e104, e98, u2, -Int32.not_le] at c111
          refine r_retV dX6_bound_143 ⟨hV140, ?_, ?_⟩
          · intro k i hk; simp only [e140, e134, e104, e98, u2]; rw [if_neg (by omega)]; rw [if_neg (by omega)]; rw [if_neg (by omega)]; rw [if_neg (by omega)]
          · refine ⟨?_, ?_, ?_⟩
            · simp [e140, e134, e104, e98, u2, gLow, gFi, gUn, *]
            · simp [e140, e134, e104, e98, u2, gHigh, gLa, gUn, *]
            · simp [e140, e134, e104, e98, u2, gOut, c1]
        · refine r_iload (q := 116) dX6_bound_114 rfl rfl ?_
          refine r_aload_n (q := 117) dX6_bound_116 rfl rfl ?_
          refine gX6_152 (q := 120) dX6_bound_117 rfl ?_
          refine r_imul (q := 121) dX6_bound_120 rfl ?_
          refine r_aload_n (q := 122) dX6_bound_121 rfl rfl ?_
          refine gX6_155 (q := 125) dX6_bound_122 rfl ?_
          refine r_iload (q := 127) dX6_bound_125 rfl rfl ?_
          refine r_imul (q := 128) dX6_bound_127 rfl ?_
          refine r_icmp_ge (t := 143) (q := 131) dX6_bound_128 (by decide) rfl (fun c128 => ?_) (fun c128 => ?_)
          · try simp [e104, e98, u2, -Int32.not_le] at c111
            try simp [e104, e98, u2, -Int32.not_le] at c128
            refine r_retV dX6_bound_143 ⟨hV104, ?_, ?_⟩
            · intro k i hk; simp only [e104, e98, u2]; rw [if_neg (by omega)]; rw [if_neg (by omega)]
            · refine ⟨?_, ?_, ?_⟩
              · simp [e104, e98, u2, gLow, gFi, gUn, *]
              · simp [e104, e98, u2, gHigh, gLa, gUn, *]
              · simp [e104, e98, u2, gOut, c1]
          · refine r_aload_n (q := 132) dX6_bound_131 rfl rfl ?_
            refine r_iload (q := 134) dX6_bound_132 rfl rfl ?_
            refine psX6_155 (q := 137) hV104 dX6_bound_134 rfl (fun s134 e134 hV134 => ?_)
            refine r_aload_n (q := 138) dX6_bound_137 rfl rfl ?_
            refine r_iload (q := 140) dX6_bound_138 rfl rfl ?_
            refine psX6_152 (q := 143) hV134 dX6_bound_140 rfl (fun s140 e140 hV140 => ?_)
            try simp [e140, e134, e104, e98, u2, -Int32.not_le] at c111
            try simp [e140, e134, e104, e98, u2, -Int32.not_le] at c128
            refine r_retV dX6_bound_143 ⟨hV140, ?_, ?_⟩
            · intro k i hk; simp only [e140, e134, e104, e98, u2]; rw [if_neg (by omega)]; rw [if_neg (by omega)]; rw [if_neg (by omega)]; rw [if_neg (by omega)]
            · refine ⟨?_, ?_, ?_⟩
              · simp [e140, e134, e104, e98, u2, gLow, gFi, gUn, *]
              · simp [e140, e134, e104, e98, u2, gHigh, gLa, gUn, *]
              · simp [e140, e134, e104, e98, u2, gOut, c1]
    · refine r_iload_n (q := 37) dX6_bound_36 rfl rfl ?_
      refine r_iload_n (q := 38) dX6_bound_37 rfl rfl ?_
      refine r_isub (q := 39) dX6_bound_38 rfl ?_
      refine r_goto (q := 46) dX6_bound_39 (by decide) ?_
      refine r_istore (q := 48) dX6_bound_46 rfl (Nat.le_of_ble_eq_true rfl) ?_
      refine r_iload_n (q := 49) dX6_bound_48 rfl rfl ?_
      refine r_if_le (t := 59) (q := 52) dX6_bound_49 (by decide) rfl (fun c49 => absurd c49 c33) (fun c49 => ?_)
      refine r_iload (q := 54) dX6_bound_52 rfl rfl ?_
      refine r_iload_n (q := 55) dX6_bound_54 rfl rfl ?_
      refine r_isub (q := 56) dX6_bound_55 rfl ?_
      refine r_goto (q := 62) dX6_bound_56 (by decide) ?_
      refine r_istore (q := 64) dX6_bound_62 rfl (Nat.le_of_ble_eq_true rfl) ?_
      refine r_iconst (q := 65) (v := nI 2) dX6_bound_64 rfl (by decide) ?_
      refine r_iload_n (q := 66) dX6_bound_65 rfl rfl ?_
      refine r_if_le (t := 73) (q := 69) dX6_bound_66 (by decide) rfl (fun c66 => absurd c66 c33) (fun c66 => ?_)
      refine r_iload_n (q := 70) dX6_bound_69 rfl rfl ?_
      refine r_goto (q := 75) dX6_bound_70 (by decide) ?_
      refine r_imul (q := 76) dX6_bound_75 rfl ?_
      refine r_istore (q := 78) dX6_bound_76 rfl (Nat.le_of_ble_eq_true rfl) ?_
      refine r_iload (q := 80) dX6_bound_78 rfl rfl ?_
      refine r_aload_n (q := 81) dX6_bound_80 rfl rfl ?_
      refine gX6_146 (q := 84) dX6_bound_81 rfl ?_
      refine r_imul (q := 85) dX6_bound_84 rfl ?_
      refine r_aload_n (q := 86) dX6_bound_85 rfl rfl ?_
      refine gX6_149 (q := 89) dX6_bound_86 rfl ?_
      refine r_iload (q := 91) dX6_bound_89 rfl rfl ?_
      refine r_imul (q := 92) dX6_bound_91 rfl ?_
      refine r_icmp_le (t := 107) (q := 95) dX6_bound_92 (by decide) rfl (fun c92 => ?_) (fun c92 => ?_)
      · refine r_aload_n (q := 108) dX6_bound_107 rfl rfl ?_
        refine gX6_152 (q := 111) dX6_bound_108 rfl ?_
        refine r_if_eq (t := 131) (q := 114) dX6_bound_111 (by decide) rfl (fun c111 => ?_) (fun c111 => ?_)
        · refine r_aload_n (q := 132) dX6_bound_131 rfl rfl ?_
          refine r_iload (q := 134) dX6_bound_132 rfl rfl ?_
          refine psX6_155 (q := 137) hV dX6_bound_134 rfl (fun s134 e134 hV134 => ?_)
          refine r_aload_n (q := 138) dX6_bound_137 rfl rfl ?_
          refine r_iload (q := 140) dX6_bound_138 rfl rfl ?_
          refine psX6_152 (q := 143) hV134 dX6_bound_140 rfl (fun s140 e140 hV140 => ?_)
          try simp [e140, e134, u2, -Int32.not_le] at c111
          refine r_retV dX6_bound_143 ⟨hV140, ?_, ?_⟩
          · intro k i hk; simp only [e140, e134, u2]; rw [if_neg (by omega)]; rw [if_neg (by omega)]
          · refine ⟨?_, ?_, ?_⟩
            · simp [e140, e134, u2, gLow, gFi, gUn, *]
            · simp [e140, e134, u2, gHigh, gLa, gUn, *]
            · simp [e140, e134, u2, gOut, c1]
        · refine r_iload (q := 116) dX6_bound_114 rfl rfl ?_
          refine r_aload_n (q := 117) dX6_bound_116 rfl rfl ?_
          refine gX6_152 (q := 120) dX6_bound_117 rfl ?_
          refine r_imul (q := 121) dX6_bound_120 rfl ?_
          refine r_aload_n (q := 122) dX6_bound_121 rfl rfl ?_
          refine gX6_155 (q := 125) dX6_bound_122 rfl ?_
          refine r_iload (q := 127) dX6_bound_125 rfl rfl ?_
          refine r_imul (q := 128) dX6_bound_127 rfl ?_
          refine r_icmp_ge (t := 143) (q := 131) dX6_bound_128 (by decide) rfl (fun c128 => ?_) (fun c128 => ?_)
          · refine r_retV dX6_bound_143 ⟨hV, ?_, ?_⟩
            · intro k i hk; rfl
            · refine ⟨?_, ?_, ?_⟩
              · simp [u2, gLow, gFi, gUn, *]
              · simp [u2, gHigh, gLa, gUn, *]
              · simp [u2, gOut, c1]
          · refine r_aload_n (q := 132) dX6_bound_131 rfl rfl ?_
            refine r_iload (q := 134) dX6_bound_132 rfl rfl ?_
            refine psX6_155 (q := 137) hV dX6_bound_134 rfl (fun s134 e134 hV134 => ?_)
            refine r_aload_n (q := 138) dX6_bound_137 rfl rfl ?_
            refine r_iload (q := 140) dX6_bound_138 rfl rfl ?_
            refine psX6_152 (q := 143) hV134 dX6_bound_140 rfl (fun s140 e140 hV140 => ?_)
            try simp [e140, e134, u2, -Int32.not_le] at c111
            try simp [e140, e134, u2, -Int32.not_le] at c128
            refine r_retV dX6_bound_143 ⟨hV140, ?_, ?_⟩
            · intro k i hk; simp only [e140, e134, u2]; rw [if_neg (by omega)]; rw [if_neg (by omega)]
            · refine ⟨?_, ?_, ?_⟩
              · simp [e140, e134, u2, gLow, gFi, gUn, *]
              · simp [e140, e134, u2, gHigh, gLa, gUn, *]
              · simp [e140, e134, u2, gOut, c1]
      · refine r_aload_n (q := 96) dX6_bound_95 rfl rfl ?_
        refine r_iload (q := 98) dX6_bound_96 rfl rfl ?_
        refine psX6_149 (q := 101) hV dX6_bound_98 rfl (fun s98 e98 hV98 => ?_)
        refine r_aload_n (q := 102) dX6_bound_101 rfl rfl ?_
        refine r_iload (q := 104) dX6_bound_102 rfl rfl ?_
        refine psX6_146 (q := 107) hV98 dX6_bound_104 rfl (fun s104 e104 hV104 => ?_)
        refine r_aload_n (q := 108) dX6_bound_107 rfl rfl ?_
        refine gX6_152 (q := 111) dX6_bound_108 rfl ?_
        refine r_if_eq (t := 131) (q := 114) dX6_bound_111 (by decide) rfl (fun c111 => ?_) (fun c111 => ?_)
        · refine r_aload_n (q := 132) dX6_bound_131 rfl rfl ?_
          refine r_iload (q := 134) dX6_bound_132 rfl rfl ?_
          refine psX6_155 (q := 137) hV104 dX6_bound_134 rfl (fun s134 e134 hV134 => ?_)
          refine r_aload_n (q := 138) dX6_bound_137 rfl rfl ?_
          refine r_iload (q := 140) dX6_bound_138 rfl rfl ?_
          refine psX6_152 (q := 143) hV134 dX6_bound_140 rfl (fun s140 e140 hV140 => ?_)
          try simp [e140, e134, e104, e98, u2, -Int32.not_le] at c111
          refine r_retV dX6_bound_143 ⟨hV140, ?_, ?_⟩
          · intro k i hk; simp only [e140, e134, e104, e98, u2]; rw [if_neg (by omega)]; rw [if_neg (by omega)]; rw [if_neg (by omega)]; rw [if_neg (by omega)]
          · refine ⟨?_, ?_, ?_⟩
            · simp [e140, e134, e104, e98, u2, gLow, gFi, gUn, *]
            · simp [e140, e134, e104, e98, u2, gHigh, gLa, gUn, *]
            · simp [e140, e134, e104, e98, u2, gOut, c1]
        · refine r_iload (q := 116) dX6_bound_114 rfl rfl ?_
          refine r_aload_n (q := 117) dX6_bound_116 rfl rfl ?_
          refine gX6_152 (q := 120) dX6_bound_117 rfl ?_
          refine r_imul (q := 121) dX6_bound_120 rfl ?_
          refine r_aload_n (q := 122) dX6_bound_121 rfl rfl ?_
          refine gX6_155 (q := 125) dX6_bound_122 rfl ?_
          refine r_iload (q := 127) dX6_bound_125 rfl rfl ?_
          refine r_imul (q := 128) dX6_bound_127 rfl ?_
          refine r_icmp_ge (t := 143) (q := 131) dX6_bound_128 (by decide) rfl (fun c128 => ?_) (fun c128 => ?_)
          · try simp [e104, e98, u2, -Int32.not_le] at c111
            try simp [e104, e98, u2, -Int32.not_le] at c128
            refine r_retV dX6_bound_143 ⟨hV104, ?_, ?_⟩
            · intro k i hk; simp only [e104, e98, u2]; rw [if_neg (by omega)]; rw [if_neg (by omega)]
            · refine ⟨?_, ?_, ?_⟩
              · simp [e104, e98, u2, gLow, gFi, gUn, *]
              · simp [e104, e98, u2, gHigh, gLa, gUn, *]
              · simp [e104, e98, u2, gOut, c1]
          · refine r_aload_n (q := 132) dX6_bound_131 rfl rfl ?_
            refine r_iload (q := 134) dX6_bound_132 rfl rfl ?_
            refine psX6_155 (q := 137) hV104 dX6_bound_134 rfl (fun s134 e134 hV134 => ?_)
            refine r_aload_n (q := 138) dX6_bound_137 rfl rfl ?_
            refine r_iload (q := 140) dX6_bound_138 rfl rfl ?_
            refine psX6_152 (q := 143) hV134 dX6_bound_140 rfl (fun s140 e140 hV140 => ?_)
            try simp [e140, e134, e104, e98, u2, -Int32.not_le] at c111
            try simp [e140, e134, e104, e98, u2, -Int32.not_le] at c128
            refine r_retV dX6_bound_143 ⟨hV140, ?_, ?_⟩
            · intro k i hk; simp only [e140, e134, e104, e98, u2]; rw [if_neg (by omega)]; rw [if_neg (by omega)]; rw [if_neg (by omega)]; rw [if_neg (by omega)]
            · refine ⟨?_, ?_, ?_⟩
              · simp [e140, e134, e104, e98, u2, gLow, gFi, gUn, *]
              · simp [e140, e134, e104, e98, u2, gHigh, gLa, gUn, *]
              · simp [e140, e134, e104, e98, u2, gOut, c1]
  · refine r_aload_n (q := 5) dX6_bound_4 rfl rfl ?_
    refine r_aload_n (q := 6) dX6_bound_5 rfl rfl ?_
    refine gX6_142 (q := 9) dX6_bound_6 rfl ?_
    refine r_if_ne (t := 23) (q := 12) dX6_bound_9 (by decide) rfl (fun c9 => ?_) (fun c9 => ?_)
    · refine r_iconst (q := 24) (v := nI 1) dX6_bound_23 rfl (by decide) ?_
      refine r_goto (q := 28) dX6_bound_24 (by decide) ?_
      refine psX6_142 (q := 31) hV dX6_bound_28 rfl (by first | exact Or.inl rfl | exact Or.inr rfl | assumption) (fun s28 e28 hV28 => ?_)
      refine r_retV dX6_bound_31 ⟨hV28, ?_, ?_⟩
      · intro k i hk; simp only [e28, u2]; rw [if_neg (by omega)]
      · refine ⟨?_, ?_, ?_⟩
        · simp [e28, u2, gLow, c1]
        · simp [e28, u2, gHigh, c1]
        · simp only [e28, u2, gOut]; simp [*] <;> first | done | decide
    · refine r_iload_n (q := 13) dX6_bound_12 rfl rfl ?_
      refine r_iload_n (q := 14) dX6_bound_13 rfl rfl ?_
      refine r_icmp_le (t := 23) (q := 17) dX6_bound_14 (by decide) rfl (fun c14 => ?_) (fun c14 => ?_)
      · refine r_iconst (q := 24) (v := nI 1) dX6_bound_23 rfl (by decide) ?_
        refine r_goto (q := 28) dX6_bound_24 (by decide) ?_
        refine psX6_142 (q := 31) hV dX6_bound_28 rfl (by first | exact Or.inl rfl | exact Or.inr rfl | assumption) (fun s28 e28 hV28 => ?_)
        refine r_retV dX6_bound_31 ⟨hV28, ?_, ?_⟩
        · intro k i hk; simp only [e28, u2]; rw [if_neg (by omega)]
        · refine ⟨?_, ?_, ?_⟩
          · simp [e28, u2, gLow, c1]
          · simp [e28, u2, gHigh, c1]
          · simp only [e28, u2, gOut]; simp [*] <;> first | done | decide
      · refine r_iload_n (q := 18) dX6_bound_17 rfl rfl ?_
        refine r_iload (q := 20) dX6_bound_18 rfl rfl ?_
        refine r_icmp_lt (t := 27) (q := 23) dX6_bound_20 (by decide) rfl (fun c20 => ?_) (fun c20 => ?_)
        · refine r_iconst (q := 28) (v := nI 0) dX6_bound_27 rfl (by decide) ?_
          refine psX6_142 (q := 31) hV dX6_bound_28 rfl (by first | exact Or.inl rfl | exact Or.inr rfl | assumption) (fun s28 e28 hV28 => ?_)
          refine r_retV dX6_bound_31 ⟨hV28, ?_, ?_⟩
          · intro k i hk; simp only [e28, u2]; rw [if_neg (by omega)]
          · refine ⟨?_, ?_, ?_⟩
            · simp [e28, u2, gLow, c1]
            · simp [e28, u2, gHigh, c1]
            · simp only [e28, u2, gOut]; simp [*] <;> first | done | decide
        · refine r_iconst (q := 24) (v := nI 1) dX6_bound_23 rfl (by decide) ?_
          refine r_goto (q := 28) dX6_bound_24 (by decide) ?_
          refine psX6_142 (q := 31) hV dX6_bound_28 rfl (by first | exact Or.inl rfl | exact Or.inr rfl | assumption) (fun s28 e28 hV28 => ?_)
          refine r_retV dX6_bound_31 ⟨hV28, ?_, ?_⟩
          · intro k i hk; simp only [e28, u2]; rw [if_neg (by omega)]
          · refine ⟨?_, ?_, ?_⟩
            · simp [e28, u2, gLow, c1]
            · simp [e28, u2, gHigh, c1]
            · simp only [e28, u2, gOut]; simp [*] <;> first | done | decide
