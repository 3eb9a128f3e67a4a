set_option maxRecDepth 100000 in
set_option maxHeartbeats 4000000 in
theorem l_X6_lightOf {V : St} (hF : WF V) {w c d m k : Nat} (h20 : w < 20) (hn : w < nv V 33 19) (hc : c < cls V w) (hd : d < 8) (hk : k < 192) (hz : 1 ≤ nv V 37 k) : ∀ (n b : Nat) (σ : St), vwM σ = V → shown V w c k σ → b + n = nv V 33 7 → Rn LAY none RX6 cX6_lightOf 8 2 48 37 [some (.ref 33), some (.int (nI w)), some (.int (nI c)), some (.int (nI d)), some (.int (nI m)), some (.int (nI k)), some (.int (nI (lightR V w c d k b))), some (.int (nI b))] [] σ (EI (fun v τ => v = nI (lightR V w c d k (nv V 33 7)) ∧ vwM τ = V)) := by
  have hI := hF.1
  have hnb := bd hI 33 7 40 rfl rfl
  intro n
  induction n with
  | zero =>
    intro b σ hV hs hb
    refine r_iload (q := 39) dX6_lightOf_37 rfl rfl ?_
    refine r_aload_n (q := 40) dX6_lightOf_39 rfl rfl ?_
    refine gvX6_97 (q := 43) hV hI dX6_lightOf_40 rfl ?_
    refine r_icmp_geN (t := 149) (q := 46) dX6_lightOf_43 (by decide) rfl (by omega) (by have := bd hI 33 7 40 rfl rfl; omega) (fun c43 => ?_) (fun c43 => absurd (by omega) c43)
    refine r_iload (q := 151) dX6_lightOf_149 rfl rfl ?_
    exact r_retI dX6_lightOf_151 ⟨by rw [show b = nv V 33 7 by omega], hV⟩
  | succ n ih =>
    intro b σ hV hs hb
    refine r_iload (q := 39) dX6_lightOf_37 rfl rfl ?_
    refine r_aload_n (q := 40) dX6_lightOf_39 rfl rfl ?_
    refine gvX6_97 (q := 43) hV hI dX6_lightOf_40 rfl ?_
    refine r_icmp_geN (t := 149) (q := 46) dX6_lightOf_43 (by decide) rfl (by omega) (by have := bd hI 33 7 40 rfl rfl; omega) (fun c43 => absurd c43 (by omega)) (fun c43 => ?_)
    refine r_iload (q := 48) dX6_lightOf_46 rfl rfl ?_
    refine r_if_leN (t := 149) (q := 51) dX6_lightOf_48 (by decide) rfl (by have := lightR_le hI w c d k b; omega) (fun c48 => ?_) (fun c48 => ?_)
    · refine r_iload (q := 151) dX6_lightOf_149 rfl rfl ?_
      have := lightR_0 hI c48 (n + 1)
      exact r_retI dX6_lightOf_151 ⟨by rw [c48, show nv V 33 7 = b + (n + 1) by omega, this], hV⟩
    · refine r_aload_n (q := 52) dX6_lightOf_51 rfl rfl ?_
      refine gX6_29 (q := 55) dX6_lightOf_52 rfl ?_
      refine r_iload (q := 57) dX6_lightOf_55 rfl rfl ?_
      refine r_ialdVM (q := 58) hV hI dX6_lightOf_57 rfl LA39 rfl rfl (by decide) (by omega) ?_
      refine r_iconst (q := 59) (v := nI 2) dX6_lightOf_58 rfl (by decide) ?_
      refine r_icmp_eqN (t := 143) (q := 62) dX6_lightOf_59 (by decide) rfl (by have := bd hI 39 b 3 rfl rfl; omega) (by omega) (fun c59 => ?_) (fun c59 => ?_)
      · refine r_iinc (q := 146) (v := nI (b + 1)) dX6_lightOf_143 rfl rfl (by rw [show Int32.ofInt 1 = nI 1 from rfl]; exact nI_add _ _) ?_
        refine r_goto (q := 37) dX6_lightOf_146 (by decide) ?_
        have e : lightR V w c d k (b + 1) = lightR V w c d k b := by
          show lightS V w c d k b (lightR V w c d k b) = _
          simp only [lightS, opq]
          simp only [*, if_true, if_false, reduceIte] <;> (repeat' split) <;> first | rfl | omega | contradiction | (exfalso; omega)
        rw [← e]
        exact ih (b + 1) _ hV hs (by omega)
      · refine r_aload_n (q := 63) dX6_lightOf_62 rfl rfl ?_
        refine r_iload (q := 65) dX6_lightOf_63 rfl rfl ?_
        refine r_cI1 (q := 68) vX6_173 dX6_lightOf_65 rfl LYX6 rfl (Nat.le_of_ble_eq_true rfl) (by decide) (by decide) (c_X6_isThere _ V hV hI b (by omega)) ?_
        rintro _ _ ⟨rfl, rfl⟩
        refine r_if_eqN (t := 143) (q := 71) dX6_lightOf_68 (by decide) rfl (by have := there_le V b; omega) (fun c68 => ?_) (fun c68 => ?_)
        · refine r_iinc (q := 146) (v := nI (b + 1)) dX6_lightOf_143 rfl rfl (by rw [show Int32.ofInt 1 = nI 1 from rfl]; exact nI_add _ _) ?_
          refine r_goto (q := 37) dX6_lightOf_146 (by decide) ?_
          have e : lightR V w c d k (b + 1) = lightR V w c d k b := by
            show lightS V w c d k b (lightR V w c d k b) = _
            simp only [lightS, opq]
            simp only [*, if_true, if_false, reduceIte] <;> (repeat' split) <;> first | rfl | omega | contradiction | (exfalso; omega)
          rw [← e]
          exact ih (b + 1) _ hV hs (by omega)
        · refine r_aload_n (q := 72) dX6_lightOf_71 rfl rfl ?_
          refine gX6_29 (q := 75) dX6_lightOf_72 rfl ?_
          refine r_iload (q := 77) dX6_lightOf_75 rfl rfl ?_
          refine r_ialdVM (q := 78) hV hI dX6_lightOf_77 rfl LA39 rfl rfl (by decide) (by omega) ?_
          refine r_iconst (q := 79) (v := nI 1) dX6_lightOf_78 rfl (by decide) ?_
          refine r_icmp_neN (t := 99) (q := 82) dX6_lightOf_79 (by decide) rfl (by have := bd hI 39 b 3 rfl rfl; omega) (by omega) (fun c79 => ?_) (fun c79 => ?_)
          · refine r_aload_n (q := 100) dX6_lightOf_99 rfl rfl ?_
            refine r_iload (q := 102) dX6_lightOf_100 rfl rfl ?_
            refine r_cI1 (q := 105) vX6_176 dX6_lightOf_102 rfl LYX6 rfl (Nat.le_of_ble_eq_true rfl) (by decide) (by decide) (c_X6_stands _ V hV hI w c k b hs (by omega)) ?_
            rintro _ τ ⟨rfl, hV1, o1, -⟩
            rw [sHit_eq hF _ hn hc hz]
            have hs1 := o1.shown hs
            refine r_if_eqN (t := 143) (q := 108) dX6_lightOf_105 (by decide) rfl (by have := hitn_le V w c k b (topT V b); omega) (fun c105 => ?_) (fun c105 => ?_)
            · refine r_iinc (q := 146) (v := nI (b + 1)) dX6_lightOf_143 rfl rfl (by rw [show Int32.ofInt 1 = nI 1 from rfl]; exact nI_add _ _) ?_
              refine r_goto (q := 37) dX6_lightOf_146 (by decide) ?_
              have e : lightR V w c d k (b + 1) = lightR V w c d k b := by
                show lightS V w c d k b (lightR V w c d k b) = _
                simp only [lightS, opq]
                simp only [*, if_true, if_false, reduceIte] <;> (repeat' split) <;> first | rfl | omega | contradiction | (exfalso; omega)
              rw [← e]
              exact ih (b + 1) _ hV1 hs1 (by omega)
            · refine r_aload_n (q := 109) dX6_lightOf_108 rfl rfl ?_
              refine gX6_29 (q := 112) dX6_lightOf_109 rfl ?_
              refine r_iload (q := 114) dX6_lightOf_112 rfl rfl ?_
              refine r_ialdVM (q := 115) hV1 hI dX6_lightOf_114 rfl LA39 rfl rfl (by decide) (by omega) ?_
              refine r_iconst (q := 116) (v := nI 1) dX6_lightOf_115 rfl (by decide) ?_
              refine r_icmp_neN (t := 140) (q := 119) dX6_lightOf_116 (by decide) rfl (by have := bd hI 39 b 3 rfl rfl; omega) (by omega) (fun c116 => ?_) (fun c116 => ?_)
              · refine r_iconst (q := 141) (v := nI 0) dX6_lightOf_140 rfl (by decide) ?_
                refine r_istore (q := 143) dX6_lightOf_141 rfl (Nat.le_of_ble_eq_true rfl) ?_
                refine r_iinc (q := 146) (v := nI (b + 1)) dX6_lightOf_143 rfl rfl (by rw [show Int32.ofInt 1 = nI 1 from rfl]; exact nI_add _ _) ?_
                refine r_goto (q := 37) dX6_lightOf_146 (by decide) ?_
                have e : lightR V w c d k (b + 1) = 0 := by
                  show lightS V w c d k b (lightR V w c d k b) = _
                  simp only [lightS, opq]
                  simp only [*, if_true, if_false, reduceIte] <;> (repeat' split) <;> first | rfl | omega | contradiction | (exfalso; omega)
                rw [← e]
                exact ih (b + 1) _ hV1 hs1 (by omega)
              · refine r_iload (q := 121) dX6_lightOf_119 rfl rfl ?_
                refine r_aload_n (q := 122) dX6_lightOf_121 rfl rfl ?_
                refine gX6_53 (q := 125) dX6_lightOf_122 rfl ?_
                refine r_bipush (q := 127) (v := nI 8) dX6_lightOf_125 rfl (by decide) ?_
                refine r_iload (q := 129) dX6_lightOf_127 rfl rfl ?_
                refine r_imulN (q := 130) dX6_lightOf_129 rfl ?_
                refine r_iload_n (q := 131) dX6_lightOf_130 rfl rfl ?_
                refine r_iaddN (q := 132) dX6_lightOf_131 rfl ?_
                refine r_ialdVM (q := 133) hV1 hI dX6_lightOf_132 rfl LA47 rfl rfl (by decide) (by omega) ?_
                refine r_imulN (q := 134) dX6_lightOf_133 rfl ?_
                refine r_bipush (q := 136) (v := nI 8) dX6_lightOf_134 rfl (by decide) ?_
                refine r_idivN (q := 137) dX6_lightOf_136 rfl (by have h1 := lightR_le hI w c d k b; have h2 := bd hI 47 (8 * b + d) 8 rfl rfl; have := Nat.mul_le_mul h1 h2; omega) (by decide) (by decide) ?_
                refine r_goto (q := 141) dX6_lightOf_137 (by decide) ?_
                refine r_istore (q := 143) dX6_lightOf_141 rfl (Nat.le_of_ble_eq_true rfl) ?_
                refine r_iinc (q := 146) (v := nI (b + 1)) dX6_lightOf_143 rfl rfl (by rw [show Int32.ofInt 1 = nI 1 from rfl]; exact nI_add _ _) ?_
                refine r_goto (q := 37) dX6_lightOf_146 (by decide) ?_
                have e : lightR V w c d k (b + 1) = ((lightR V w c d k b * nv V 47 (((8 * b) + d))) / 8) := by
                  show lightS V w c d k b (lightR V w c d k b) = _
                  simp only [lightS, opq]
                  simp only [*, if_true, if_false, reduceIte] <;> (repeat' split) <;> first | rfl | omega | contradiction | (exfalso; omega)
                rw [← e]
                exact ih (b + 1) _ hV1 hs1 (by omega)
          · refine r_aload_n (q := 83) dX6_lightOf_82 rfl rfl ?_
            refine gX6_53 (q := 86) dX6_lightOf_83 rfl ?_
            refine r_bipush (q := 88) (v := nI 8) dX6_lightOf_86 rfl (by decide) ?_
            refine r_iload (q := 90) dX6_lightOf_88 rfl rfl ?_
            refine r_imulN (q := 91) dX6_lightOf_90 rfl ?_
            refine r_iload_n (q := 92) dX6_lightOf_91 rfl rfl ?_
            refine r_iaddN (q := 93) dX6_lightOf_92 rfl ?_
            refine r_ialdVM (q := 94) hV hI dX6_lightOf_93 rfl LA47 rfl rfl (by decide) (by omega) ?_
            refine r_bipush (q := 96) (v := nI 8) dX6_lightOf_94 rfl (by decide) ?_
            refine r_icmp_geN (t := 143) (q := 99) dX6_lightOf_96 (by decide) rfl (by have := bd hI 47 (((8 * b) + d)) 8 rfl rfl; omega) (by omega) (fun c96 => ?_) (fun c96 => ?_)
            · refine r_iinc (q := 146) (v := nI (b + 1)) dX6_lightOf_143 rfl rfl (by rw [show Int32.ofInt 1 = nI 1 from rfl]; exact nI_add _ _) ?_
              refine r_goto (q := 37) dX6_lightOf_146 (by decide) ?_
              have e : lightR V w c d k (b + 1) = lightR V w c d k b := by
                show lightS V w c d k b (lightR V w c d k b) = _
                simp only [lightS, opq]
                simp only [*, if_true, if_false, reduceIte] <;> (repeat' split) <;> first | rfl | omega | contradiction | (exfalso; omega)
              rw [← e]
              exact ih (b + 1) _ hV hs (by omega)
            · refine r_aload_n (q := 100) dX6_lightOf_99 rfl rfl ?_
              refine r_iload (q := 102) dX6_lightOf_100 rfl rfl ?_
              refine r_cI1 (q := 105) vX6_176 dX6_lightOf_102 rfl LYX6 rfl (Nat.le_of_ble_eq_true rfl) (by decide) (by decide) (c_X6_stands _ V hV hI w c k b hs (by omega)) ?_
              rintro _ τ ⟨rfl, hV1, o1, -⟩
              rw [sHit_eq hF _ hn hc hz]
              have hs1 := o1.shown hs
              refine r_if_eqN (t := 143) (q := 108) dX6_lightOf_105 (by decide) rfl (by have := hitn_le V w c k b (topT V b); omega) (fun c105 => ?_) (fun c105 => ?_)
              · refine r_iinc (q := 146) (v := nI (b + 1)) dX6_lightOf_143 rfl rfl (by rw [show Int32.ofInt 1 = nI 1 from rfl]; exact nI_add _ _) ?_
                refine r_goto (q := 37) dX6_lightOf_146 (by decide) ?_
                have e : lightR V w c d k (b + 1) = lightR V w c d k b := by
                  show lightS V w c d k b (lightR V w c d k b) = _
                  simp only [lightS, opq]
                  simp only [*, if_true, if_false, reduceIte] <;> (repeat' split) <;> first | rfl | omega | contradiction | (exfalso; omega)
                rw [← e]
                exact ih (b + 1) _ hV1 hs1 (by omega)
              · refine r_aload_n (q := 109) dX6_lightOf_108 rfl rfl ?_
                refine gX6_29 (q := 112) dX6_lightOf_109 rfl ?_
                refine r_iload (q := 114) dX6_lightOf_112 rfl rfl ?_
                refine r_ialdVM (q := 115) hV1 hI dX6_lightOf_114 rfl LA39 rfl rfl (by decide) (by omega) ?_
                refine r_iconst (q := 116) (v := nI 1) dX6_lightOf_115 rfl (by decide) ?_
                refine r_icmp_neN (t := 140) (q := 119) dX6_lightOf_116 (by decide) rfl (by have := bd hI 39 b 3 rfl rfl; omega) (by omega) (fun c116 => ?_) (fun c116 => ?_)
                · refine r_iconst (q := 141) (v := nI 0) dX6_lightOf_140 rfl (by decide) ?_
                  refine r_istore (q := 143) dX6_lightOf_141 rfl (Nat.le_of_ble_eq_true rfl) ?_
                  refine r_iinc (q := 146) (v := nI (b + 1)) dX6_lightOf_143 rfl rfl (by rw [show Int32.ofInt 1 = nI 1 from rfl]; exact nI_add _ _) ?_
                  refine r_goto (q := 37) dX6_lightOf_146 (by decide) ?_
                  have e : lightR V w c d k (b + 1) = 0 := by
                    show lightS V w c d k b (lightR V w c d k b) = _
                    simp only [lightS, opq]
                    simp only [*, if_true, if_false, reduceIte] <;> (repeat' split) <;> first | rfl | omega | contradiction | (exfalso; omega)
                  rw [← e]
                  exact ih (b + 1) _ hV1 hs1 (by omega)
                · refine r_iload (q := 121) dX6_lightOf_119 rfl rfl ?_
                  refine r_aload_n (q := 122) dX6_lightOf_121 rfl rfl ?_
                  refine gX6_53 (q := 125) dX6_lightOf_122 rfl ?_
                  refine r_bipush (q := 127) (v := nI 8) dX6_lightOf_125 rfl (by decide) ?_
                  refine r_iload (q := 129) dX6_lightOf_127 rfl rfl ?_
                  refine r_imulN (q := 130) dX6_lightOf_129 rfl ?_
                  refine r_iload_n (q := 131) dX6_lightOf_130 rfl rfl ?_
                  refine r_iaddN (q := 132) dX6_lightOf_131 rfl ?_
                  refine r_ialdVM (q := 133) hV1 hI dX6_lightOf_132 rfl LA47 rfl rfl (by decide) (by omega) ?_
                  refine r_imulN (q := 134) dX6_lightOf_133 rfl ?_
                  refine r_bipush (q := 136) (v := nI 8) dX6_lightOf_134 rfl (by decide) ?_
                  refine r_idivN (q := 137) dX6_lightOf_136 rfl (by have h1 := lightR_le hI w c d k b; have h2 := bd hI 47 (8 * b + d) 8 rfl rfl; have := Nat.mul_le_mul h1 h2; omega) (by decide) (by decide) ?_
                  refine r_goto (q := 141) dX6_lightOf_137 (by decide) ?_
                  refine r_istore (q := 143) dX6_lightOf_141 rfl (Nat.le_of_ble_eq_true rfl) ?_
                  refine r_iinc (q := 146) (v := nI (b + 1)) dX6_lightOf_143 rfl rfl (by rw [show Int32.ofInt 1 = nI 1 from rfl]; exact nI_add _ _) ?_
                  refine r_goto (q := 37) dX6_lightOf_146 (by decide) ?_
                  have e : lightR V w c d k (b + 1) = ((lightR V w c d k b * nv V 47 (((8 * b) + d))) / 8) := by
                    show lightS V w c d k b (lightR V w c d k b) = _
                    simp only [lightS, opq]
                    simp only [*, if_true, if_false, reduceIte] <;> (repeat' split) <;> first | rfl | omega | contradiction | (exfalso; omega)
                  rw [← e]
                  exact ih (b + 1) _ hV1 hs1 (by omega)
set_option maxRecDepth 100000 in
set_option maxHeartbeats 4000000 in
theorem c_X6_lightOf (σ V : St) (hV : vwM σ = V) (hF : WF V) (w c d m : Nat) (h20 : w < 20) (hn : w < nv V 33 19) (hc : c < cls V w) (hd : d < 8) (hm : m < nv V 34 d) : Cl LAY yX6_lightOf cX6_lightOf 8 (some .int) 2 48 [.ref 33, .int (nI w), .int (nI c), .int (nI d), .int (nI m)] σ (EI (fun v τ => v = nI (lightN V w c d m) ∧ vwM τ = V)) := by
  refine Cl.of 3 rfl rfl EI.ok ?_
  show Rn LAY none RX6 _ _ _ _ 0 [some (.ref 33), some (.int (nI w)), some (.int (nI c)), some (.int (nI d)), some (.int (nI m)), none, none, none] [] _ _
  have hI := hF.1
  have hmn := bd hI 34 d 24 rfl rfl
  have hz := hF.2.2.2 d m hd hm
  refine r_bipush (q := 2) (v := nI 24) dX6_lightOf_0 rfl (by decide) ?_
  refine r_iload_n (q := 3) dX6_lightOf_2 rfl rfl ?_
  refine r_imulN (q := 4) dX6_lightOf_3 rfl ?_
  refine r_iload (q := 6) dX6_lightOf_4 rfl rfl ?_
  refine r_iaddN (q := 7) dX6_lightOf_6 rfl ?_
  refine r_istore (q := 9) dX6_lightOf_7 rfl (Nat.le_of_ble_eq_true rfl) ?_
  refine r_aload_n (q := 10) dX6_lightOf_9 rfl rfl ?_
  refine r_iload_n (q := 11) dX6_lightOf_10 rfl rfl ?_
  refine r_iload (q := 13) dX6_lightOf_11 rfl rfl ?_
  refine r_cI2 (q := 16) vX6_165 dX6_lightOf_13 rfl LYX6 rfl (Nat.le_of_ble_eq_true rfl) (by decide) (by decide) (c_X6_isInFront _ V hV hI w (24 * d + m) h20 (by omega)) ?_
  rintro _ _ ⟨rfl, rfl⟩
  refine r_if_neN (t := 21) (q := 19) dX6_lightOf_16 (by decide) rfl (by have := front_le V w (24 * d + m); omega) (fun c16 => ?_) (fun c16 => ?_)
  · refine r_aload_n (q := 22) dX6_lightOf_21 rfl rfl ?_
    refine r_iload_n (q := 23) dX6_lightOf_22 rfl rfl ?_
    refine r_iload_n (q := 24) dX6_lightOf_23 rfl rfl ?_
    refine r_iload (q := 26) dX6_lightOf_24 rfl rfl ?_
    refine r_cV3 (q := 29) vX6_169 dX6_lightOf_26 rfl LYX6 rfl (Nat.le_of_ble_eq_true rfl) (by decide) (by decide) (c_X6_show _ V hV hI hF.2.1 w c (24 * d + m) h20 hn (by omega) (by have := (hF.2.1 w).2.2.1; omega)) ?_
    rintro τ ⟨hV1, hs⟩
    refine r_sipush (q := 32) (v := nI 4096) dX6_lightOf_29 rfl (by decide) ?_
    refine r_istore (q := 34) dX6_lightOf_32 rfl (Nat.le_of_ble_eq_true rfl) ?_
    refine r_iconst (q := 35) (v := nI 0) dX6_lightOf_34 rfl (by decide) ?_
    refine r_istore (q := 37) dX6_lightOf_35 rfl (Nat.le_of_ble_eq_true rfl) ?_
    refine (l_X6_lightOf hF h20 hn hc hd (by omega) hz (nv V 33 7) 0 _ hV1 hs (by omega)).mono ?_
    rintro r τ ⟨v, rfl, rfl, h⟩
    exact ⟨_, rfl, by rw [lightN, if_neg c16], h⟩
  · refine r_iconst (q := 20) (v := nI 0) dX6_lightOf_19 rfl (by decide) ?_
    exact r_retI dX6_lightOf_20 ⟨by rw [lightN, if_pos c16], hV⟩
set_option maxRecDepth 100000 in
set_option maxHeartbeats 4000000 in
theorem l_X6_sunOf {V : St} (hF : WF V) {w d m : Nat} (h20 : w < 20) (hn : w < nv V 33 19) (hd : d < 8) (hm : m < nv V 34 d) : ∀ (n c : Nat) (σ : St), vwM σ = V → c + n = cls V w → Rn LAY none RX6 cX6_sunOf 6 3 75 6 [some (.ref 33), some (.int (nI w)), some (.int (nI d)), some (.int (nI m)), some (.int (nI (sunR V w d m c))), some (.int (nI c))] [] σ (EI (fun v τ => v = nI (sunN V w d m) ∧ vwM τ = V)) := by
  have hI := hF.1
  have hcl := (hF.2.1 w).2.2.1
  have hmn := bd hI 34 d 24 rfl rfl
  intro n
  induction n with
  | zero =>
    intro c σ hV hb
    refine r_iload (q := 8) dX6_sunOf_6 rfl rfl ?_
    refine r_aload_n (q := 9) dX6_sunOf_8 rfl rfl ?_
    refine r_iload_n (q := 10) dX6_sunOf_9 rfl rfl ?_
    refine r_cI1 (q := 13) vX6_179 dX6_sunOf_10 rfl LYX6 rfl (Nat.le_of_ble_eq_true rfl) (by decide) (by decide) (c_X6_cellsOf _ V hV hI hF.2.1 w h20) ?_
    rintro _ _ ⟨rfl, rfl⟩
    refine r_icmp_geN (t := 50) (q := 16) dX6_sunOf_13 (by decide) rfl (by omega) (by omega) (fun c13 => ?_) (fun c13 => absurd (by omega) c13)
    refine r_iload (q := 52) dX6_sunOf_50 rfl rfl ?_
    exact r_retI dX6_sunOf_52 ⟨by rw [sunN, show c = cls V w by omega], hV⟩
  | succ n ih =>
    intro c σ hV hb
    refine r_iload (q := 8) dX6_sunOf_6 rfl rfl ?_
    refine r_aload_n (q := 9) dX6_sunOf_8 rfl rfl ?_
    refine r_iload_n (q := 10) dX6_sunOf_9 rfl rfl ?_
    refine r_cI1 (q := 13) vX6_179 dX6_sunOf_10 rfl LYX6 rfl (Nat.le_of_ble_eq_true rfl) (by decide) (by decide) (c_X6_cellsOf _ V hV hI hF.2.1 w h20) ?_
    rintro _ _ ⟨rfl, rfl⟩
    refine r_icmp_geN (t := 50) (q := 16) dX6_sunOf_13 (by decide) rfl (by omega) (by omega) (fun c13 => absurd c13 (by omega)) (fun c13 => ?_)
    refine r_aload_n (q := 17) dX6_sunOf_16 rfl rfl ?_
    refine r_iload_n (q := 18) dX6_sunOf_17 rfl rfl ?_
    refine r_bipush (q := 20) (v := nI 24) dX6_sunOf_18 rfl (by decide) ?_
    refine r_iload_n (q := 21) dX6_sunOf_20 rfl rfl ?_
    refine r_imulN (q := 22) dX6_sunOf_21 rfl ?_
    refine r_iload_n (q := 23) dX6_sunOf_22 rfl rfl ?_
    refine r_iaddN (q := 24) dX6_sunOf_23 rfl ?_
    refine r_cI2 (q := 27) vX6_165 dX6_sunOf_24 rfl LYX6 rfl (Nat.le_of_ble_eq_true rfl) (by decide) (by decide) (c_X6_isInFront _ V hV hI w (24 * d + m) h20 (by omega)) ?_
    rintro _ _ ⟨rfl, rfl⟩
    refine r_if_eqN (t := 50) (q := 30) dX6_sunOf_27 (by decide) rfl (by have := front_le V w (24 * d + m); omega) (fun c27 => ?_) (fun c27 => ?_)
    · refine r_iload (q := 52) dX6_sunOf_50 rfl rfl ?_
      exact r_retI dX6_sunOf_52 ⟨by rw [sunN, sunR_0 c27, sunR_0 c27], hV⟩
    · refine r_iload (q := 32) dX6_sunOf_30 rfl rfl ?_
      refine r_aload_n (q := 33) dX6_sunOf_32 rfl rfl ?_
      refine r_iload_n (q := 34) dX6_sunOf_33 rfl rfl ?_
      refine r_iload (q := 36) dX6_sunOf_34 rfl rfl ?_
      refine r_iload_n (q := 37) dX6_sunOf_36 rfl rfl ?_
      refine r_iload_n (q := 38) dX6_sunOf_37 rfl rfl ?_
      refine r_cI4 (q := 41) vX6_182 dX6_sunOf_38 rfl LYX6 rfl (Nat.le_of_ble_eq_true rfl) (by decide) (by decide) (c_X6_lightOf _ V hV hF w c d m h20 hn (by omega) hd hm) ?_
      rintro _ τ ⟨rfl, hV1⟩
      refine r_iaddN (q := 42) dX6_sunOf_41 rfl ?_
      refine r_istore (q := 44) dX6_sunOf_42 rfl (Nat.le_of_ble_eq_true rfl) ?_
      refine r_iinc (q := 47) (v := nI (c + 1)) dX6_sunOf_44 rfl rfl (by rw [show Int32.ofInt 1 = nI 1 from rfl]; exact nI_add _ _) ?_
      refine r_goto (q := 6) dX6_sunOf_47 (by decide) ?_
      exact ih (c + 1) _ hV1 (by omega)
set_option maxRecDepth 100000 in
set_option maxHeartbeats 4000000 in
theorem c_X6_sunOf (σ V : St) (hV : vwM σ = V) (hF : WF V) (w d m : Nat) (h20 : w < 20) (hn : w < nv V 33 19) (hd : d < 8) (hm : m < nv V 34 d) : Cl LAY yX6_sunOf cX6_sunOf 6 (some .int) 3 75 [.ref 33, .int (nI w), .int (nI d), .int (nI m)] σ (EI (fun v τ => v = nI (sunN V w d m) ∧ vwM τ = V)) := by
  refine Cl.of 2 rfl rfl EI.ok ?_
  show Rn LAY none RX6 _ _ _ _ 0 [some (.ref 33), some (.int (nI w)), some (.int (nI d)), some (.int (nI m)), none, none] [] _ _
  refine r_iconst (q := 1) (v := nI 0) dX6_sunOf_0 rfl (by decide) ?_
  refine r_istore (q := 3) dX6_sunOf_1 rfl (Nat.le_of_ble_eq_true rfl) ?_
  refine r_iconst (q := 4) (v := nI 0) dX6_sunOf_3 rfl (by decide) ?_
  refine r_istore (q := 6) dX6_sunOf_4 rfl (Nat.le_of_ble_eq_true rfl) ?_
  exact l_X6_sunOf hF h20 hn hd hm (cls V w) 0 _ hV (by omega)
set_option maxRecDepth 100000 in
set_option maxHeartbeats 4000000 in
theorem l_X6_hoursOf {V : St} (hF : WF V) {w d : Nat} (h20 : w < 20) (hn : w < nv V 33 19) (hd : d < 8) : ∀ (n m : Nat) (σ : St), vwM σ = V → m + n = nv V 34 d → Rn LAY none RX6 cX6_hoursOf 5 4 100 5 [some (.ref 33), some (.int (nI w)), some (.int (nI d)), some (.int (nI (hoursR V w d m))), some (.int (nI m))] [] σ (EI (fun v τ => v = nI (hoursN V w d) ∧ vwM τ = V)) := by
  have hI := hF.1
  have hcl := (hF.2.1 w).2.2.1
  have hmn := bd hI 34 d 24 rfl rfl
  intro n
  induction n with
  | zero =>
    intro m σ hV hb
    refine r_iload (q := 7) dX6_hoursOf_5 rfl rfl ?_
    refine r_aload_n (q := 8) dX6_hoursOf_7 rfl rfl ?_
    refine gX6_7 (q := 11) dX6_hoursOf_8 rfl ?_
    refine r_iload_n (q := 12) dX6_hoursOf_11 rfl rfl ?_
    refine r_ialdVM (q := 13) hV hI dX6_hoursOf_12 rfl LA34 rfl rfl (by decide) (by omega) ?_
    refine r_icmp_geN (t := 58) (q := 16) dX6_hoursOf_13 (by decide) rfl (by omega) (by have := bd hI 34 d 24 rfl rfl; omega) (fun c13 => ?_) (fun c13 => absurd (by omega) c13)
    refine r_iload_n (q := 59) dX6_hoursOf_58 rfl rfl ?_
    exact r_retI dX6_hoursOf_59 ⟨by rw [hoursN, show m = nv V 34 d by omega], hV⟩
  | succ n ih =>
    intro m σ hV hb
    refine r_iload (q := 7) dX6_hoursOf_5 rfl rfl ?_
    refine r_aload_n (q := 8) dX6_hoursOf_7 rfl rfl ?_
    refine gX6_7 (q := 11) dX6_hoursOf_8 rfl ?_
    refine r_iload_n (q := 12) dX6_hoursOf_11 rfl rfl ?_
    refine r_ialdVM (q := 13) hV hI dX6_hoursOf_12 rfl LA34 rfl rfl (by decide) (by omega) ?_
    refine r_icmp_geN (t := 58) (q := 16) dX6_hoursOf_13 (by decide) rfl (by omega) (by have := bd hI 34 d 24 rfl rfl; omega) (fun c13 => absurd c13 (by omega)) (fun c13 => ?_)
    refine r_iload_n (q := 17) dX6_hoursOf_16 rfl rfl ?_
    refine r_bipush (q := 19) (v := nI 8) dX6_hoursOf_17 rfl (by decide) ?_
    refine r_aload_n (q := 20) dX6_hoursOf_19 rfl rfl ?_
    refine r_iload_n (q := 21) dX6_hoursOf_20 rfl rfl ?_
    refine r_iload_n (q := 22) dX6_hoursOf_21 rfl rfl ?_
    refine r_iload (q := 24) dX6_hoursOf_22 rfl rfl ?_
    refine r_cI3 (q := 27) vX6_186 dX6_hoursOf_24 rfl LYX6 rfl (Nat.le_of_ble_eq_true rfl) (by decide) (by decide) (c_X6_sunOf _ V hV hF w d m h20 hn hd (by omega)) ?_
    rintro _ τ ⟨rfl, hV1⟩
    refine r_imulN (q := 28) dX6_hoursOf_27 rfl ?_
    refine r_aload_n (q := 29) dX6_hoursOf_28 rfl rfl ?_
    refine gvX6_25 (q := 32) hV1 hI dX6_hoursOf_29 rfl ?_
    refine r_sipush (q := 35) (v := nI 4096) dX6_hoursOf_32 rfl (by decide) ?_
    refine r_imulN (q := 36) dX6_hoursOf_35 rfl ?_
    refine r_aload_n (q := 37) dX6_hoursOf_36 rfl rfl ?_
    refine r_iload_n (q := 38) dX6_hoursOf_37 rfl rfl ?_
    refine r_cI1 (q := 41) vX6_179 dX6_hoursOf_38 rfl LYX6 rfl (Nat.le_of_ble_eq_true rfl) (by decide) (by decide) (c_X6_cellsOf _ V hV1 hI hF.2.1 w h20) ?_
    rintro _ _ ⟨rfl, rfl⟩
    refine r_imulN (q := 42) dX6_hoursOf_41 rfl ?_
    refine r_icmp_ltN (t := 49) (q := 45) dX6_hoursOf_42 (by decide) rfl (by have := sunN_le hF w d m; omega) (by have h1 := bd hI 33 5 8 rfl rfl; have := Nat.mul_le_mul (show nv V 33 5 * 4096 ≤ 32768 by omega) hcl; omega) (fun c42 => ?_) (fun c42 => ?_)
    · refine r_iconst (q := 50) (v := nI 0) dX6_hoursOf_49 rfl (by decide) ?_
      refine r_iaddN (q := 51) dX6_hoursOf_50 rfl ?_
      refine r_istore_n (q := 52) dX6_hoursOf_51 rfl (Nat.le_of_ble_eq_true rfl) ?_
      refine r_iinc (q := 55) (v := nI (m + 1)) dX6_hoursOf_52 rfl rfl (by rw [show Int32.ofInt 1 = nI 1 from rfl]; exact nI_add _ _) ?_
      refine r_goto (q := 5) dX6_hoursOf_55 (by decide) ?_
      have e : hoursR V w d (m + 1) = (hoursR V w d m + 0) := by
        show hoursR V w d m + litN V w d m = _
        rw [litN, if_pos c42]
      rw [← e]
      exact ih (m + 1) _ hV1 (by omega)
    · refine r_iconst (q := 46) (v := nI 1) dX6_hoursOf_45 rfl (by decide) ?_
      refine r_goto (q := 50) dX6_hoursOf_46 (by decide) ?_
      refine r_iaddN (q := 51) dX6_hoursOf_50 rfl ?_
      refine r_istore_n (q := 52) dX6_hoursOf_51 rfl (Nat.le_of_ble_eq_true rfl) ?_
      refine r_iinc (q := 55) (v := nI (m + 1)) dX6_hoursOf_52 rfl rfl (by rw [show Int32.ofInt 1 = nI 1 from rfl]; exact nI_add _ _) ?_
      refine r_goto (q := 5) dX6_hoursOf_55 (by decide) ?_
      have e : hoursR V w d (m + 1) = (hoursR V w d m + 1) := by
        show hoursR V w d m + litN V w d m = _
        rw [litN, if_neg c42]
      rw [← e]
      exact ih (m + 1) _ hV1 (by omega)
set_option maxRecDepth 100000 in
set_option maxHeartbeats 4000000 in
theorem c_X6_hoursOf (σ V : St) (hV : vwM σ = V) (hF : WF V) (w d : Nat) (h20 : w < 20) (hn : w < nv V 33 19) (hd : d < 8) : Cl LAY yX6_hoursOf cX6_hoursOf 5 (some .int) 4 100 [.ref 33, .int (nI w), .int (nI d)] σ (EI (fun v τ => v = nI (hoursN V w d) ∧ vwM τ = V)) := by
  refine Cl.of 2 rfl rfl EI.ok ?_
  show Rn LAY none RX6 _ _ _ _ 0 [some (.ref 33), some (.int (nI w)), some (.int (nI d)), none, none] [] _ _
  refine r_iconst (q := 1) (v := nI 0) dX6_hoursOf_0 rfl (by decide) ?_
  refine r_istore_n (q := 2) dX6_hoursOf_1 rfl (Nat.le_of_ble_eq_true rfl) ?_
  refine r_iconst (q := 3) (v := nI 0) dX6_hoursOf_2 rfl (by decide) ?_
  refine r_istore (q := 5) dX6_hoursOf_3 rfl (Nat.le_of_ble_eq_true rfl) ?_
  exact l_X6_hoursOf hF h20 hn hd (nv V 34 d) 0 _ hV (by omega)
set_option maxRecDepth 100000 in
set_option maxHeartbeats 4000000 in
theorem l_X6_fallsOn {V : St} (hF : WF V) {w : Nat} (h20 : w < 20) (hn : w < nv V 33 19) : ∀ (n d : Nat) (σ : St), vwM σ = V → d + n = 8 → Rn LAY none RX6 cX6_fallsOn 3 5 124 2 [some (.ref 33), some (.int (nI w)), some (.int (nI d))] [] σ (EI (fun v τ => v = fallR V w d n ∧ vwM τ = V)) := by
  have hI := hF.1
  intro n
  induction n with
  | zero =>
    intro d σ hV hb
    refine r_iload_n (q := 3) dX6_fallsOn_2 rfl rfl ?_
    refine r_bipush (q := 5) (v := nI 8) dX6_fallsOn_3 rfl (by decide) ?_
    refine r_icmp_geN (t := 40) (q := 8) dX6_fallsOn_5 (by decide) rfl (by omega) (by omega) (fun c5 => ?_) (fun c5 => absurd (by omega) c5)
    refine r_bipush (q := 42) (v := -9) dX6_fallsOn_40 rfl (by decide) ?_
    exact r_retI dX6_fallsOn_42 ⟨rfl, hV⟩
  | succ n ih =>
    intro d σ hV hb
    refine r_iload_n (q := 3) dX6_fallsOn_2 rfl rfl ?_
    refine r_bipush (q := 5) (v := nI 8) dX6_fallsOn_3 rfl (by decide) ?_
    refine r_icmp_geN (t := 40) (q := 8) dX6_fallsOn_5 (by decide) rfl (by omega) (by omega) (fun c5 => absurd c5 (by omega)) (fun c5 => ?_)
    refine r_aload_n (q := 9) dX6_fallsOn_8 rfl rfl ?_
    refine gX6_22 (q := 12) dX6_fallsOn_9 rfl ?_
    refine r_iload_n (q := 13) dX6_fallsOn_12 rfl rfl ?_
    refine r_ialdVM (q := 14) hV hI dX6_fallsOn_13 rfl LA38 rfl rfl (by decide) (by omega) ?_
    refine r_if_leN (t := 34) (q := 17) dX6_fallsOn_14 (by decide) rfl (by have := bd hI 38 d 24 rfl rfl; omega) (fun c14 => ?_) (fun c14 => ?_)
    · refine r_iinc (q := 37) (v := nI (d + 1)) dX6_fallsOn_34 rfl rfl (by rw [show Int32.ofInt 1 = nI 1 from rfl]; exact nI_add _ _) ?_
      refine r_goto (q := 2) dX6_fallsOn_37 (by decide) ?_
      refine (ih (d + 1) _ hV (by omega)).mono ?_
      rintro r τ ⟨v, rfl, rfl, h⟩
      exact ⟨_, rfl, by rw [fallR, if_pos c14], h⟩
    · refine r_aload_n (q := 18) dX6_fallsOn_17 rfl rfl ?_
      refine r_iload_n (q := 19) dX6_fallsOn_18 rfl rfl ?_
      refine r_iload_n (q := 20) dX6_fallsOn_19 rfl rfl ?_
      refine r_cI2 (q := 23) vX6_190 dX6_fallsOn_20 rfl LYX6 rfl (Nat.le_of_ble_eq_true rfl) (by decide) (by decide) (c_X6_hoursOf _ V hV hF w d h20 hn (by omega)) ?_
      rintro _ τ ⟨rfl, hV1⟩
      refine r_aload_n (q := 24) dX6_fallsOn_23 rfl rfl ?_
      refine gX6_22 (q := 27) dX6_fallsOn_24 rfl ?_
      refine r_iload_n (q := 28) dX6_fallsOn_27 rfl rfl ?_
      refine r_ialdVM (q := 29) hV1 hI dX6_fallsOn_28 rfl LA38 rfl rfl (by decide) (by omega) ?_
      refine r_icmp_geN (t := 34) (q := 32) dX6_fallsOn_29 (by decide) rfl (by have h1 := hoursR_le V w d (nv V 34 d); have h2 := bd hI 34 d 24 rfl rfl; unfold hoursN; omega) (by have := bd hI 38 d 24 rfl rfl; omega) (fun c29 => ?_) (fun c29 => ?_)
      · refine r_iinc (q := 37) (v := nI (d + 1)) dX6_fallsOn_34 rfl rfl (by rw [show Int32.ofInt 1 = nI 1 from rfl]; exact nI_add _ _) ?_
        refine r_goto (q := 2) dX6_fallsOn_37 (by decide) ?_
        refine (ih (d + 1) _ hV1 (by omega)).mono ?_
        rintro r τ ⟨v, rfl, rfl, h⟩
        exact ⟨_, rfl, by rw [fallR, if_neg c14, if_neg (by omega)], h⟩
      · refine r_iload_n (q := 33) dX6_fallsOn_32 rfl rfl ?_
        exact r_retI dX6_fallsOn_33 ⟨by rw [fallR, if_neg c14, if_pos (by omega)], hV1⟩
set_option maxRecDepth 100000 in
set_option maxHeartbeats 4000000 in
theorem c_X6_fallsOn (σ V : St) (hV : vwM σ = V) (hF : WF V) (w : Nat) (h20 : w < 20) (hn : w < nv V 33 19) : Cl LAY yX6_fallsOn cX6_fallsOn 3 (some .int) 5 124 [.ref 33, .int (nI w)] σ (EI (fun v τ => v = fallI V w ∧ vwM τ = V)) := by
  refine Cl.of 1 rfl rfl EI.ok ?_
  show Rn LAY none RX6 _ _ _ _ 0 [some (.ref 33), some (.int (nI w)), none] [] _ _
  refine r_iconst (q := 1) (v := nI 0) dX6_fallsOn_0 rfl (by decide) ?_
  refine r_istore_n (q := 2) dX6_fallsOn_1 rfl (Nat.le_of_ble_eq_true rfl) ?_
  exact l_X6_fallsOn hF h20 hn 8 0 _ hV (by omega)
