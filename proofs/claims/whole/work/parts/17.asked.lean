theorem takR_lt {V : St} {w c d k b a : Nat} (h : takR V w c d k b = some a) : a < b := by
  induction b generalizing a with
  | zero => cases h
  | succ b ih =>
    have h2 : takS V w c d k b (takR V w c d k b) = some a := h
    unfold takS at h2
    split at h2
    · have := ih h2; omega
    · split at h2
      · have := ih h2; omega
      · cases ho : takR V w c d k b with
        | none => rw [ho] at h2; cases h2; omega
        | some x =>
          rw [ho] at h2
          dsimp only at h2
          have := ih ho
          split at h2 <;> cases h2 <;> omega
theorem takV_none {o : Option Nat} (hb : ∀ a, o = some a → a < 1000) (h : takV o = -9) : o = none := by
  cases o with
  | none => rfl
  | some a =>
    have h1 := hb a rfl
    have h2 : (nI a).toInt = (-9 : Int32).toInt := by rw [← h]; rfl
    rw [nI_toInt (by omega)] at h2
    have : (-9 : Int32).toInt = -9 := rfl
    omega
theorem takV_some {o : Option Nat} (h : ¬ takV o = -9) : ∃ a, o = some a := by
  cases o with
  | none => exact absurd rfl h
  | some a => exact ⟨a, rfl⟩
def PR (V : St) (w c k : Nat) (o : Option Nat) (bt bu : Int32) : Prop := ∀ a, o = some a → ∃ q, LR (bt, bu) q ∧ SL (lowP V w c k a (topT V a)) q
theorem near_key {V : St} {w c k a b : Nat} {l p : Int32 × Int32} {zl zp : Int × Int} (hl : LR l zl) (sl : SL (lowP V w c k b (topT V b)) zl) (hp : LR p zp) (sp : SL (lowP V w c k a (topT V a)) zp) : p.1 * l.2 ≤ l.1 * p.2 ↔ near V w c k b a = 0 := by
  obtain ⟨l1, l2, l3, l4, l5, l6⟩ := hl
  obtain ⟨r1, r2, r3, r4, r5, r6⟩ := hp
  have m1 := mulB (A := 1000) (B := 100) (a := zp.1) (b := zl.2) (by omega) (by omega) (by omega) (by omega)
  have m2 := mulB (A := 1000) (B := 100) (a := zl.1) (b := zp.2) (by omega) (by omega) (by omega) (by omega)
  rw [t_le (t_mul r1 l2 (by omega) (by omega)) (t_mul l1 r2 (by omega) (by omega))]
  have key := SL_lt sl sp
  unfold near
  by_cases hc : (lowP V w c k b (topT V b)).1 * (lowP V w c k a (topT V a)).2 < (lowP V w c k a (topT V a)).1 * (lowP V w c k b (topT V b)).2
  · rw [if_pos hc]
    have := key.mpr hc
    exact ⟨fun h => by omega, fun h => by omega⟩
  · rw [if_neg hc]
    have : ¬ zl.1 * zp.2 < zp.1 * zl.2 := fun h => hc (key.mp h)
    exact ⟨fun _ => rfl, fun _ => by omega⟩
set_option maxRecDepth 100000 in
set_option maxHeartbeats 4000000 in
theorem l_X6_takerOf {V : St} (hF : WF V) {w c d m k : Nat} (h20 : w < 20) (hn : w < nv V 33 19) (hc : c < cls V w) (hd : d < 8) (hk : k < 192) (hz : 1 ≤ nv V 37 k) : ∀ (n b : Nat) (σ : St) (bt bu : Int32) (z9 : Option Value), vwM σ = V → shown V w c k σ → b + n = nv V 33 7 → PR V w c k (takR V w c d k b) bt bu → Rn LAY none RX6 cX6_takerOf 10 2 48 44 [some (.ref 33), some (.int (nI w)), some (.int (nI c)), some (.int (nI d)), some (.int (nI m)), some (.int (takV (takR V w c d k b))), some (.int bt), some (.int bu), some (.int (nI b)), z9] [] σ (EI (fun v τ => v = takV (takR V w c d k (nv V 33 7)) ∧ vwM τ = V)) := by
  have hI := hF.1
  have hnb := bd hI 33 7 40 rfl rfl
  intro n
  induction n with
  | zero =>
    intro b σ bt bu z9 hV hs hb hpr
    refine r_iload (q := 46) dX6_takerOf_44 rfl rfl ?_
    refine r_aload_n (q := 47) dX6_takerOf_46 rfl rfl ?_
    refine gvX6_97 (q := 50) hV hI dX6_takerOf_47 rfl ?_
    refine r_icmp_geN (t := 168) (q := 53) dX6_takerOf_50 (by decide) rfl (by omega) (by have := bd hI 33 7 40 rfl rfl; omega) (fun c50 => ?_) (fun c50 => absurd (by omega) c50)
    refine r_iload (q := 170) dX6_takerOf_168 rfl rfl ?_
    exact r_retI dX6_takerOf_170 ⟨by rw [show nv V 33 7 = b by omega], hV⟩
  | succ n ih =>
    intro b σ bt bu z9 hV hs hb hpr
    refine r_iload (q := 46) dX6_takerOf_44 rfl rfl ?_
    refine r_aload_n (q := 47) dX6_takerOf_46 rfl rfl ?_
    refine gvX6_97 (q := 50) hV hI dX6_takerOf_47 rfl ?_
    refine r_icmp_geN (t := 168) (q := 53) dX6_takerOf_50 (by decide) rfl (by omega) (by have := bd hI 33 7 40 rfl rfl; omega) (fun c50 => absurd c50 (by omega)) (fun c50 => ?_)
    refine r_aload_n (q := 54) dX6_takerOf_53 rfl rfl ?_
    refine gX6_29 (q := 57) dX6_takerOf_54 rfl ?_
    refine r_iload (q := 59) dX6_takerOf_57 rfl rfl ?_
    refine r_ialdVM (q := 60) hV hI dX6_takerOf_59 rfl LA39 rfl rfl (by decide) (by omega) ?_
    refine r_iconst (q := 61) (v := nI 2) dX6_takerOf_60 rfl (by decide) ?_
    refine r_icmp_eqN (t := 92) (q := 64) dX6_takerOf_61 (by decide) rfl (by have := bd hI 39 b 3 rfl rfl; omega) (by omega) (fun c61 => ?_) (fun c61 => ?_)
    · refine r_iconst (q := 93) (v := nI 1) dX6_takerOf_92 rfl (by decide) ?_
      refine r_goto (q := 97) dX6_takerOf_93 (by decide) ?_
      refine r_istore (q := 99) dX6_takerOf_97 rfl (Nat.le_of_ble_eq_true rfl) ?_
      refine r_iload (q := 101) dX6_takerOf_99 rfl rfl ?_
      refine r_if_neN (t := 162) (q := 104) dX6_takerOf_101 (by decide) rfl (by omega) (fun c101 => ?_) (fun c101 => absurd c101 (by decide))
      refine r_iinc (q := 165) (v := nI (b + 1)) dX6_takerOf_162 rfl rfl (by rw [show Int32.ofInt 1 = nI 1 from rfl]; exact nI_add _ _) ?_
      refine r_goto (q := 44) dX6_takerOf_165 (by decide) ?_
      have h8 := bd hI 47 (8 * b + d) 8 rfl rfl
      have e : takR V w c d k (b + 1) = takR V w c d k b := by
        show takS V w c d k b (takR V w c d k b) = _
        simp only [takS, opq]; (repeat' split); all_goals first | rfl | contradiction | omega | (exfalso; omega)
      have ih2 := ih (b + 1) _ bt bu (some (.int (nI 1))) hV hs (by omega) (by rw [e]; exact hpr)
      rw [e] at ih2
      exact ih2
    · refine r_aload_n (q := 65) dX6_takerOf_64 rfl rfl ?_
      refine gX6_29 (q := 68) dX6_takerOf_65 rfl ?_
      refine r_iload (q := 70) dX6_takerOf_68 rfl rfl ?_
      refine r_ialdVM (q := 71) hV hI dX6_takerOf_70 rfl LA39 rfl rfl (by decide) (by omega) ?_
      refine r_iconst (q := 72) (v := nI 1) dX6_takerOf_71 rfl (by decide) ?_
      refine r_icmp_neN (t := 96) (q := 75) dX6_takerOf_72 (by decide) rfl (by have := bd hI 39 b 3 rfl rfl; omega) (by omega) (fun c72 => ?_) (fun c72 => ?_)
      · refine r_iconst (q := 97) (v := nI 0) dX6_takerOf_96 rfl (by decide) ?_
        refine r_istore (q := 99) dX6_takerOf_97 rfl (Nat.le_of_ble_eq_true rfl) ?_
        refine r_iload (q := 101) dX6_takerOf_99 rfl rfl ?_
        refine r_if_neN (t := 162) (q := 104) dX6_takerOf_101 (by decide) rfl (by omega) (fun c101 => absurd rfl c101) (fun c101 => ?_)
        refine r_aload_n (q := 105) dX6_takerOf_104 rfl rfl ?_
        refine r_iload (q := 107) dX6_takerOf_105 rfl rfl ?_
        refine r_cI1 (q := 110) vX6_173 dX6_takerOf_107 rfl LYX6 rfl (Nat.le_of_ble_eq_true rfl) (by decide) (by decide) (c_X6_isThere _ V hV hI b (by omega)) ?_
        rintro _ _ ⟨rfl, rfl⟩
        refine r_if_eqN (t := 162) (q := 113) dX6_takerOf_110 (by decide) rfl (by have := there_le V b; omega) (fun c110 => ?_) (fun c110 => ?_)
        · refine r_iinc (q := 165) (v := nI (b + 1)) dX6_takerOf_162 rfl rfl (by rw [show Int32.ofInt 1 = nI 1 from rfl]; exact nI_add _ _) ?_
          refine r_goto (q := 44) dX6_takerOf_165 (by decide) ?_
          have h8 := bd hI 47 (8 * b + d) 8 rfl rfl
          have e : takR V w c d k (b + 1) = takR V w c d k b := by
            show takS V w c d k b (takR V w c d k b) = _
            simp only [takS, opq]; (repeat' split); all_goals first | rfl | contradiction | omega | (exfalso; omega)
          have ih2 := ih (b + 1) _ bt bu (some (.int (nI 0))) hV hs (by omega) (by rw [e]; exact hpr)
          rw [e] at ih2
          exact ih2
        · refine r_aload_n (q := 114) dX6_takerOf_113 rfl rfl ?_
          refine r_iload (q := 116) dX6_takerOf_114 rfl rfl ?_
          refine r_cI1 (q := 119) vX6_176 dX6_takerOf_116 rfl LYX6 rfl (Nat.le_of_ble_eq_true rfl) (by decide) (by decide) (c_X6_stands _ V hV hI w c k b hs (by omega)) ?_
          rintro _ τ ⟨rfl, hV1, o1, hl1⟩
          rw [sHit_eq hF _ hn hc hz]
          have hs1 := o1.shown hs
          obtain ⟨q, hq1, hq2⟩ := sLow_t hF (k := k) (b := b) hn hc
          have a1 : τ 33 31 = (sLow V w c k b).1 := congrArg Prod.fst hl1
          have a2 : τ 33 32 = (sLow V w c k b).2 := congrArg Prod.snd hl1
          refine r_if_eqN (t := 162) (q := 122) dX6_takerOf_119 (by decide) rfl (by have := hitn_le V w c k b (topT V b); omega) (fun c119 => ?_) (fun c119 => ?_)
          · refine r_iinc (q := 165) (v := nI (b + 1)) dX6_takerOf_162 rfl rfl (by rw [show Int32.ofInt 1 = nI 1 from rfl]; exact nI_add _ _) ?_
            refine r_goto (q := 44) dX6_takerOf_165 (by decide) ?_
            have h8 := bd hI 47 (8 * b + d) 8 rfl rfl
            have e : takR V w c d k (b + 1) = takR V w c d k b := by
              show takS V w c d k b (takR V w c d k b) = _
              simp only [takS, opq]; (repeat' split); all_goals first | rfl | contradiction | omega | (exfalso; omega)
            have ih2 := ih (b + 1) _ bt bu (some (.int (nI 0))) hV1 hs1 (by omega) (by rw [e]; exact hpr)
            rw [e] at ih2
            exact ih2
          · refine r_iload (q := 124) dX6_takerOf_122 rfl rfl ?_
            refine r_bipush (q := 126) (v := -9) dX6_takerOf_124 rfl (by decide) ?_
            refine r_icmp_eq (t := 146) (q := 129) dX6_takerOf_126 (by decide) rfl (fun c126 => ?_) (fun c126 => ?_)
            · have ho := takV_none (fun x hx => by have := takR_lt hx; omega) c126
              refine r_iload (q := 148) dX6_takerOf_146 rfl rfl ?_
              refine r_istore (q := 150) dX6_takerOf_148 rfl (Nat.le_of_ble_eq_true rfl) ?_
              refine r_aload_n (q := 151) dX6_takerOf_150 rfl rfl ?_
              refine gX6_149 (q := 154) dX6_takerOf_151 rfl ?_
              refine r_as a1 ?_
              refine r_istore (q := 156) dX6_takerOf_154 rfl (Nat.le_of_ble_eq_true rfl) ?_
              refine r_aload_n (q := 157) dX6_takerOf_156 rfl rfl ?_
              refine gX6_146 (q := 160) dX6_takerOf_157 rfl ?_
              refine r_as a2 ?_
              refine r_istore (q := 162) dX6_takerOf_160 rfl (Nat.le_of_ble_eq_true rfl) ?_
              refine r_iinc (q := 165) (v := nI (b + 1)) dX6_takerOf_162 rfl rfl (by rw [show Int32.ofInt 1 = nI 1 from rfl]; exact nI_add _ _) ?_
              refine r_goto (q := 44) dX6_takerOf_165 (by decide) ?_
              have h8 := bd hI 47 (8 * b + d) 8 rfl rfl
              have hop : opq V d b = 1 := by simp only [opq]; (repeat' split); all_goals first | rfl | contradiction | omega | (exfalso; omega)
              have e : takR V w c d k (b + 1) = some b := by
                show takS V w c d k b (takR V w c d k b) = _
                unfold takS
                rw [if_neg (by omega), if_neg c119, ho]
              have hpr2 : PR V w c k (takR V w c d k (b + 1)) (sLow V w c k b).1 (sLow V w c k b).2 := by
                rw [e]
                intro y hy
                cases hy
                exact ⟨q, hq1, hq2⟩
              have ih2 := ih (b + 1) _ _ _ (some (.int (nI 0))) hV1 hs1 (by omega) hpr2
              rw [e] at ih2
              exact ih2
            · obtain ⟨x, ho⟩ := takV_some c126
              obtain ⟨q2, hp1, hp2⟩ := hpr x ho
              refine r_aload_n (q := 130) dX6_takerOf_129 rfl rfl ?_
              refine gX6_149 (q := 133) dX6_takerOf_130 rfl ?_
              refine r_as a1 ?_
              refine r_iload (q := 135) dX6_takerOf_133 rfl rfl ?_
              refine r_imul (q := 136) dX6_takerOf_135 rfl ?_
              refine r_iload (q := 138) dX6_takerOf_136 rfl rfl ?_
              refine r_aload_n (q := 139) dX6_takerOf_138 rfl rfl ?_
              refine gX6_146 (q := 142) dX6_takerOf_139 rfl ?_
              refine r_as a2 ?_
              refine r_imul (q := 143) dX6_takerOf_142 rfl ?_
              refine r_icmp_ge (t := 162) (q := 146) dX6_takerOf_143 (by decide) rfl (fun c143 => ?_) (fun c143 => ?_)
              · refine r_iinc (q := 165) (v := nI (b + 1)) dX6_takerOf_162 rfl rfl (by rw [show Int32.ofInt 1 = nI 1 from rfl]; exact nI_add _ _) ?_
                refine r_goto (q := 44) dX6_takerOf_165 (by decide) ?_
                have h8 := bd hI 47 (8 * b + d) 8 rfl rfl
                have hop : opq V d b = 1 := by simp only [opq]; (repeat' split); all_goals first | rfl | contradiction | omega | (exfalso; omega)
                have e : takR V w c d k (b + 1) = takR V w c d k b := by
                  show takS V w c d k b (takR V w c d k b) = _
                  unfold takS
                  rw [if_neg (by omega), if_neg c119, ho]
                  show (if near V w c k b x = 0 then some x else some b) = _
                  rw [if_pos ((near_key hq1 hq2 hp1 hp2).mp c143)]
                have ih2 := ih (b + 1) _ bt bu (some (.int (nI 0))) hV1 hs1 (by omega) (by rw [e]; exact hpr)
                rw [e] at ih2
                exact ih2
              · refine r_iload (q := 148) dX6_takerOf_146 rfl rfl ?_
                refine r_istore (q := 150) dX6_takerOf_148 rfl (Nat.le_of_ble_eq_true rfl) ?_
                refine r_aload_n (q := 151) dX6_takerOf_150 rfl rfl ?_
                refine gX6_149 (q := 154) dX6_takerOf_151 rfl ?_
                refine r_as a1 ?_
                refine r_istore (q := 156) dX6_takerOf_154 rfl (Nat.le_of_ble_eq_true rfl) ?_
                refine r_aload_n (q := 157) dX6_takerOf_156 rfl rfl ?_
                refine gX6_146 (q := 160) dX6_takerOf_157 rfl ?_
                refine r_as a2 ?_
                refine r_istore (q := 162) dX6_takerOf_160 rfl (Nat.le_of_ble_eq_true rfl) ?_
                refine r_iinc (q := 165) (v := nI (b + 1)) dX6_takerOf_162 rfl rfl (by rw [show Int32.ofInt 1 = nI 1 from rfl]; exact nI_add _ _) ?_
                refine r_goto (q := 44) dX6_takerOf_165 (by decide) ?_
                have h8 := bd hI 47 (8 * b + d) 8 rfl rfl
                have hop : opq V d b = 1 := by simp only [opq]; (repeat' split); all_goals first | rfl | contradiction | omega | (exfalso; omega)
                have e : takR V w c d k (b + 1) = some b := by
                  show takS V w c d k b (takR V w c d k b) = _
                  unfold takS
                  rw [if_neg (by omega), if_neg c119, ho]
                  show (if near V w c k b x = 0 then some x else some b) = _
                  rw [if_neg (fun h => c143 ((near_key hq1 hq2 hp1 hp2).mpr h))]
                have hpr2 : PR V w c k (takR V w c d k (b + 1)) (sLow V w c k b).1 (sLow V w c k b).2 := by
                  rw [e]
                  intro y hy
                  cases hy
                  exact ⟨q, hq1, hq2⟩
                have ih2 := ih (b + 1) _ _ _ (some (.int (nI 0))) hV1 hs1 (by omega) hpr2
                rw [e] at ih2
                exact ih2
      · refine r_aload_n (q := 76) dX6_takerOf_75 rfl rfl ?_
        refine gX6_53 (q := 79) dX6_takerOf_76 rfl ?_
        refine r_bipush (q := 81) (v := nI 8) dX6_takerOf_79 rfl (by decide) ?_
        refine r_iload (q := 83) dX6_takerOf_81 rfl rfl ?_
        refine r_imulN (q := 84) dX6_takerOf_83 rfl ?_
        refine r_iload_n (q := 85) dX6_takerOf_84 rfl rfl ?_
        refine r_iaddN (q := 86) dX6_takerOf_85 rfl ?_
        refine r_ialdVM (q := 87) hV hI dX6_takerOf_86 rfl LA47 rfl rfl (by decide) (by omega) ?_
        refine r_bipush (q := 89) (v := nI 8) dX6_takerOf_87 rfl (by decide) ?_
        refine r_icmp_neN (t := 96) (q := 92) dX6_takerOf_89 (by decide) rfl (by have := bd hI 47 (((8 * b) + d)) 8 rfl rfl; omega) (by omega) (fun c89 => ?_) (fun c89 => ?_)
        · refine r_iconst (q := 97) (v := nI 0) dX6_takerOf_96 rfl (by decide) ?_
          refine r_istore (q := 99) dX6_takerOf_97 rfl (Nat.le_of_ble_eq_true rfl) ?_
          refine r_iload (q := 101) dX6_takerOf_99 rfl rfl ?_
          refine r_if_neN (t := 162) (q := 104) dX6_takerOf_101 (by decide) rfl (by omega) (fun c101 => absurd rfl c101) (fun c101 => ?_)
          refine r_aload_n (q := 105) dX6_takerOf_104 rfl rfl ?_
          refine r_iload (q := 107) dX6_takerOf_105 rfl rfl ?_
          refine r_cI1 (q := 110) vX6_173 dX6_takerOf_107 rfl LYX6 rfl (Nat.le_of_ble_eq_true rfl) (by decide) (by decide) (c_X6_isThere _ V hV hI b (by omega)) ?_
          rintro _ _ ⟨rfl, rfl⟩
          refine r_if_eqN (t := 162) (q := 113) dX6_takerOf_110 (by decide) rfl (by have := there_le V b; omega) (fun c110 => ?_) (fun c110 => ?_)
          · refine r_iinc (q := 165) (v := nI (b + 1)) dX6_takerOf_162 rfl rfl (by rw [show Int32.ofInt 1 = nI 1 from rfl]; exact nI_add _ _) ?_
            refine r_goto (q := 44) dX6_takerOf_165 (by decide) ?_
            have h8 := bd hI 47 (8 * b + d) 8 rfl rfl
            have e : takR V w c d k (b + 1) = takR V w c d k b := by
              show takS V w c d k b (takR V w c d k b) = _
              simp only [takS, opq]; (repeat' split); all_goals first | rfl | contradiction | omega | (exfalso; omega)
            have ih2 := ih (b + 1) _ bt bu (some (.int (nI 0))) hV hs (by omega) (by rw [e]; exact hpr)
            rw [e] at ih2
            exact ih2
          · refine r_aload_n (q := 114) dX6_takerOf_113 rfl rfl ?_
            refine r_iload (q := 116) dX6_takerOf_114 rfl rfl ?_
            refine r_cI1 (q := 119) vX6_176 dX6_takerOf_116 rfl LYX6 rfl (Nat.le_of_ble_eq_true rfl) (by decide) (by decide) (c_X6_stands _ V hV hI w c k b hs (by omega)) ?_
            rintro _ τ ⟨rfl, hV1, o1, hl1⟩
            rw [sHit_eq hF _ hn hc hz]
            have hs1 := o1.shown hs
            obtain ⟨q, hq1, hq2⟩ := sLow_t hF (k := k) (b := b) hn hc
            have a1 : τ 33 31 = (sLow V w c k b).1 := congrArg Prod.fst hl1
            have a2 : τ 33 32 = (sLow V w c k b).2 := congrArg Prod.snd hl1
            refine r_if_eqN (t := 162) (q := 122) dX6_takerOf_119 (by decide) rfl (by have := hitn_le V w c k b (topT V b); omega) (fun c119 => ?_) (fun c119 => ?_)
            · refine r_iinc (q := 165) (v := nI (b + 1)) dX6_takerOf_162 rfl rfl (by rw [show Int32.ofInt 1 = nI 1 from rfl]; exact nI_add _ _) ?_
              refine r_goto (q := 44) dX6_takerOf_165 (by decide) ?_
              have h8 := bd hI 47 (8 * b + d) 8 rfl rfl
              have e : takR V w c d k (b + 1) = takR V w c d k b := by
                show takS V w c d k b (takR V w c d k b) = _
                simp only [takS, opq]; (repeat' split); all_goals first | rfl | contradiction | omega | (exfalso; omega)
              have ih2 := ih (b + 1) _ bt bu (some (.int (nI 0))) hV1 hs1 (by omega) (by rw [e]; exact hpr)
              rw [e] at ih2
              exact ih2
            · refine r_iload (q := 124) dX6_takerOf_122 rfl rfl ?_
              refine r_bipush (q := 126) (v := -9) dX6_takerOf_124 rfl (by decide) ?_
              refine r_icmp_eq (t := 146) (q := 129) dX6_takerOf_126 (by decide) rfl (fun c126 => ?_) (fun c126 => ?_)
              · have ho := takV_none (fun x hx => by have := takR_lt hx; omega) c126
                refine r_iload (q := 148) dX6_takerOf_146 rfl rfl ?_
                refine r_istore (q := 150) dX6_takerOf_148 rfl (Nat.le_of_ble_eq_true rfl) ?_
                refine r_aload_n (q := 151) dX6_takerOf_150 rfl rfl ?_
                refine gX6_149 (q := 154) dX6_takerOf_151 rfl ?_
                refine r_as a1 ?_
                refine r_istore (q := 156) dX6_takerOf_154 rfl (Nat.le_of_ble_eq_true rfl) ?_
                refine r_aload_n (q := 157) dX6_takerOf_156 rfl rfl ?_
                refine gX6_146 (q := 160) dX6_takerOf_157 rfl ?_
                refine r_as a2 ?_
                refine r_istore (q := 162) dX6_takerOf_160 rfl (Nat.le_of_ble_eq_true rfl) ?_
                refine r_iinc (q := 165) (v := nI (b + 1)) dX6_takerOf_162 rfl rfl (by rw [show Int32.ofInt 1 = nI 1 from rfl]; exact nI_add _ _) ?_
                refine r_goto (q := 44) dX6_takerOf_165 (by decide) ?_
                have h8 := bd hI 47 (8 * b + d) 8 rfl rfl
                have hop : opq V d b = 1 := by simp only [opq]; (repeat' split); all_goals first | rfl | contradiction | omega | (exfalso; omega)
                have e : takR V w c d k (b + 1) = some b := by
                  show takS V w c d k b (takR V w c d k b) = _
                  unfold takS
                  rw [if_neg (by omega), if_neg c119, ho]
                have hpr2 : PR V w c k (takR V w c d k (b + 1)) (sLow V w c k b).1 (sLow V w c k b).2 := by
                  rw [e]
                  intro y hy
                  cases hy
                  exact ⟨q, hq1, hq2⟩
                have ih2 := ih (b + 1) _ _ _ (some (.int (nI 0))) hV1 hs1 (by omega) hpr2
                rw [e] at ih2
                exact ih2
              · obtain ⟨x, ho⟩ := takV_some c126
                obtain ⟨q2, hp1, hp2⟩ := hpr x ho
                refine r_aload_n (q := 130) dX6_takerOf_129 rfl rfl ?_
                refine gX6_149 (q := 133) dX6_takerOf_130 rfl ?_
                refine r_as a1 ?_
                refine r_iload (q := 135) dX6_takerOf_133 rfl rfl ?_
                refine r_imul (q := 136) dX6_takerOf_135 rfl ?_
                refine r_iload (q := 138) dX6_takerOf_136 rfl rfl ?_
                refine r_aload_n (q := 139) dX6_takerOf_138 rfl rfl ?_
                refine gX6_146 (q := 142) dX6_takerOf_139 rfl ?_
                refine r_as a2 ?_
                refine r_imul (q := 143) dX6_takerOf_142 rfl ?_
                refine r_icmp_ge (t := 162) (q := 146) dX6_takerOf_143 (by decide) rfl (fun c143 => ?_) (fun c143 => ?_)
                · refine r_iinc (q := 165) (v := nI (b + 1)) dX6_takerOf_162 rfl rfl (by rw [show Int32.ofInt 1 = nI 1 from rfl]; exact nI_add _ _) ?_
                  refine r_goto (q := 44) dX6_takerOf_165 (by decide) ?_
                  have h8 := bd hI 47 (8 * b + d) 8 rfl rfl
                  have hop : opq V d b = 1 := by simp only [opq]; (repeat' split); all_goals first | rfl | contradiction | omega | (exfalso; omega)
                  have e : takR V w c d k (b + 1) = takR V w c d k b := by
                    show takS V w c d k b (takR V w c d k b) = _
                    unfold takS
                    rw [if_neg (by omega), if_neg c119, ho]
                    show (if near V w c k b x = 0 then some x else some b) = _
                    rw [if_pos ((near_key hq1 hq2 hp1 hp2).mp c143)]
                  have ih2 := ih (b + 1) _ bt bu (some (.int (nI 0))) hV1 hs1 (by omega) (by rw [e]; exact hpr)
                  rw [e] at ih2
                  exact ih2
                · refine r_iload (q := 148) dX6_takerOf_146 rfl rfl ?_
                  refine r_istore (q := 150) dX6_takerOf_148 rfl (Nat.le_of_ble_eq_true rfl) ?_
                  refine r_aload_n (q := 151) dX6_takerOf_150 rfl rfl ?_
                  refine gX6_149 (q := 154) dX6_takerOf_151 rfl ?_
                  refine r_as a1 ?_
                  refine r_istore (q := 156) dX6_takerOf_154 rfl (Nat.le_of_ble_eq_true rfl) ?_
                  refine r_aload_n (q := 157) dX6_takerOf_156 rfl rfl ?_
                  refine gX6_146 (q := 160) dX6_takerOf_157 rfl ?_
                  refine r_as a2 ?_
                  refine r_istore (q := 162) dX6_takerOf_160 rfl (Nat.le_of_ble_eq_true rfl) ?_
                  refine r_iinc (q := 165) (v := nI (b + 1)) dX6_takerOf_162 rfl rfl (by rw [show Int32.ofInt 1 = nI 1 from rfl]; exact nI_add _ _) ?_
                  refine r_goto (q := 44) dX6_takerOf_165 (by decide) ?_
                  have h8 := bd hI 47 (8 * b + d) 8 rfl rfl
                  have hop : opq V d b = 1 := by simp only [opq]; (repeat' split); all_goals first | rfl | contradiction | omega | (exfalso; omega)
                  have e : takR V w c d k (b + 1) = some b := by
                    show takS V w c d k b (takR V w c d k b) = _
                    unfold takS
                    rw [if_neg (by omega), if_neg c119, ho]
                    show (if near V w c k b x = 0 then some x else some b) = _
                    rw [if_neg (fun h => c143 ((near_key hq1 hq2 hp1 hp2).mpr h))]
                  have hpr2 : PR V w c k (takR V w c d k (b + 1)) (sLow V w c k b).1 (sLow V w c k b).2 := by
                    rw [e]
                    intro y hy
                    cases hy
                    exact ⟨q, hq1, hq2⟩
                  have ih2 := ih (b + 1) _ _ _ (some (.int (nI 0))) hV1 hs1 (by omega) hpr2
                  rw [e] at ih2
                  exact ih2
        · refine r_iconst (q := 93) (v := nI 1) dX6_takerOf_92 rfl (by decide) ?_
          refine r_goto (q := 97) dX6_takerOf_93 (by decide) ?_
          refine r_istore (q := 99) dX6_takerOf_97 rfl (Nat.le_of_ble_eq_true rfl) ?_
          refine r_iload (q := 101) dX6_takerOf_99 rfl rfl ?_
          refine r_if_neN (t := 162) (q := 104) dX6_takerOf_101 (by decide) rfl (by omega) (fun c101 => ?_) (fun c101 => absurd c101 (by decide))
          refine r_iinc (q := 165) (v := nI (b + 1)) dX6_takerOf_162 rfl rfl (by rw [show Int32.ofInt 1 = nI 1 from rfl]; exact nI_add _ _) ?_
          refine r_goto (q := 44) dX6_takerOf_165 (by decide) ?_
          have h8 := bd hI 47 (8 * b + d) 8 rfl rfl
          have e : takR V w c d k (b + 1) = takR V w c d k b := by
            show takS V w c d k b (takR V w c d k b) = _
            simp only [takS, opq]; (repeat' split); all_goals first | rfl | contradiction | omega | (exfalso; omega)
          have ih2 := ih (b + 1) _ bt bu (some (.int (nI 1))) hV hs (by omega) (by rw [e]; exact hpr)
          rw [e] at ih2
          exact ih2
set_option maxRecDepth 100000 in
set_option maxHeartbeats 4000000 in
theorem c_X6_takerOf (σ V : St) (hV : vwM σ = V) (hF : WF V) (w c d m : Nat) (h20 : w < 20) (hn : w < nv V 33 19) (hc : c < cls V w) (hd : d < 8) (hm : m < nv V 34 d) : Cl LAY yX6_takerOf cX6_takerOf 10 (some .int) 2 48 [.ref 33, .int (nI w), .int (nI c), .int (nI d), .int (nI m)] σ (EI (fun v τ => v = takN V w c d m ∧ vwM τ = V)) := by
  refine Cl.of 5 rfl rfl EI.ok ?_
  show Rn LAY none RX6 _ _ _ _ 0 [some (.ref 33), some (.int (nI w)), some (.int (nI c)), some (.int (nI d)), some (.int (nI m)), none, none, none, none, none] [] _ _
  have hI := hF.1
  have hmn := bd hI 34 d 24 rfl rfl
  have hz := hF.2.2.2 d m hd hm
  refine r_aload_n (q := 1) dX6_takerOf_0 rfl rfl ?_
  refine r_iload_n (q := 2) dX6_takerOf_1 rfl rfl ?_
  refine r_bipush (q := 4) (v := nI 24) dX6_takerOf_2 rfl (by decide) ?_
  refine r_iload_n (q := 5) dX6_takerOf_4 rfl rfl ?_
  refine r_imulN (q := 6) dX6_takerOf_5 rfl ?_
  refine r_iload (q := 8) dX6_takerOf_6 rfl rfl ?_
  refine r_iaddN (q := 9) dX6_takerOf_8 rfl ?_
  refine r_cI2 (q := 12) vX6_165 dX6_takerOf_9 rfl LYX6 rfl (Nat.le_of_ble_eq_true rfl) (by decide) (by decide) (c_X6_isInFront _ V hV hI w (24 * d + m) h20 (by omega)) ?_
  rintro _ _ ⟨rfl, rfl⟩
  refine r_if_neN (t := 18) (q := 15) dX6_takerOf_12 (by decide) rfl (by have := front_le V w (24 * d + m); omega) (fun c12 => ?_) (fun c12 => ?_)
  · refine r_aload_n (q := 19) dX6_takerOf_18 rfl rfl ?_
    refine r_iload_n (q := 20) dX6_takerOf_19 rfl rfl ?_
    refine r_iload_n (q := 21) dX6_takerOf_20 rfl rfl ?_
    refine r_bipush (q := 23) (v := nI 24) dX6_takerOf_21 rfl (by decide) ?_
    refine r_iload_n (q := 24) dX6_takerOf_23 rfl rfl ?_
    refine r_imulN (q := 25) dX6_takerOf_24 rfl ?_
    refine r_iload (q := 27) dX6_takerOf_25 rfl rfl ?_
    refine r_iaddN (q := 28) dX6_takerOf_27 rfl ?_
    refine r_cV3 (q := 31) vX6_169 dX6_takerOf_28 rfl LYX6 rfl (Nat.le_of_ble_eq_true rfl) (by decide) (by decide) (c_X6_show _ V hV hI hF.2.1 w c (24 * d + m) h20 hn (by omega) (by have := (hF.2.1 w).2.2.1; omega)) ?_
    rintro τ ⟨hV1, hs⟩
    refine r_bipush (q := 33) (v := -9) dX6_takerOf_31 rfl (by decide) ?_
    refine r_istore (q := 35) dX6_takerOf_33 rfl (Nat.le_of_ble_eq_true rfl) ?_
    refine r_iconst (q := 36) (v := nI 0) dX6_takerOf_35 rfl (by decide) ?_
    refine r_istore (q := 38) dX6_takerOf_36 rfl (Nat.le_of_ble_eq_true rfl) ?_
    refine r_iconst (q := 39) (v := nI 1) dX6_takerOf_38 rfl (by decide) ?_
    refine r_istore (q := 41) dX6_takerOf_39 rfl (Nat.le_of_ble_eq_true rfl) ?_
    refine r_iconst (q := 42) (v := nI 0) dX6_takerOf_41 rfl (by decide) ?_
    refine r_istore (q := 44) dX6_takerOf_42 rfl (Nat.le_of_ble_eq_true rfl) ?_
    refine (l_X6_takerOf hF h20 hn hc hd (by omega) hz (nv V 33 7) 0 _ _ _ none hV1 hs (by omega) (fun x hx => by cases hx)).mono ?_
    rintro r τ ⟨v, rfl, rfl, h⟩
    exact ⟨_, rfl, by rw [takN, if_neg c12], h⟩
  · refine r_bipush (q := 17) (v := -8) dX6_takerOf_15 rfl (by decide) ?_
    exact r_retI dX6_takerOf_17 ⟨by rw [takN, if_pos c12], hV⟩
theorem isMin_of {V : St} {x y : Int32} (h : ¬ isMin V x y = 0) : ∃ d m, d < 8 ∧ m < nv V 34 d ∧ x = nI d ∧ y = nI m := by
  unfold isMin at h
  split at h
  · omega
  · rename_i h1
    obtain ⟨d, hd, rfl⟩ := ix_of h1
    rw [nI_clamp (by omega)] at h
    obtain ⟨m, hm, rfl⟩ := ix_of h
    exact ⟨d, m, hd, hm, rfl, rfl⟩
set_option maxRecDepth 100000 in
set_option maxHeartbeats 4000000 in
theorem c_X6_sun (σ V : St) (hV : vwM σ = V) (hF : WF V) (w d m : Int32) : Cl LAY yX6_sun cX6_sun 4 (some .int) 4 100 [.ref 33, .int w, .int d, .int m] σ (EI (fun v τ => v = resO (cSun V w d m) (nI (sunN V w.toNatClampNeg d.toNatClampNeg m.toNatClampNeg)) ∧ vwM τ = stO (cSun V w d m) (V) (rfM V (cSun V w d m)))) := by
  have hI := hF.1
  have hnw := bd hI 33 19 20 rfl rfl
  have hnb := bd hI 33 7 40 rfl rfl
  refine Cl.of 0 rfl rfl EI.ok ?_
  show Rn LAY none RX6 _ _ _ _ 0 [some (.ref 33), some (.int w), some (.int d), some (.int m)] [] _ _
  refine r_aload_n (q := 1) dX6_sun_0 rfl rfl ?_
  refine r_iload_n (q := 2) dX6_sun_1 rfl rfl ?_
  refine r_cI1 (q := 5) vX6_194 dX6_sun_2 rfl LYX6 rfl (Nat.le_of_ble_eq_true rfl) (by decide) (by decide) (c_X6_isWindow _ V hV hI _) ?_
  rintro _ _ ⟨rfl, rfl⟩
  refine r_if_eqN (t := 27) (q := 8) dX6_sun_5 (by decide) rfl (by have := ix_le w (nv V 33 19); omega) (fun c5 => ?_) (fun c5 => ?_)
  · refine r_aload_n (q := 28) dX6_sun_27 rfl rfl ?_
    refine r_iconst (q := 29) (v := -1) dX6_sun_28 rfl (by decide) ?_
    refine r_cI1 (q := 32) vX6_111 dX6_sun_29 rfl LYX6 rfl (Nat.le_of_ble_eq_true rfl) (by decide) (by decide) (c_X6_refuse _ V hV (-1) 1 rfl (by decide)) ?_
    rintro _ τ ⟨rfl, hR⟩
    exact r_retI dX6_sun_32 (eo_bad (by first | (simp [cSun, *]; done) | (unfold cSun; (try simp only [hwc, hdc, hmc]); (repeat' split); all_goals first | rfl | contradiction | omega | (exfalso; simp only [Int32.lt_iff_toInt_lt, Int32.le_iff_toInt_le] at *; omega))) (by decide) hR)
  · obtain ⟨w, hw, rfl⟩ := ix_of c5
    have hwc := nI_clamp (n := w) (by omega)
    refine r_aload_n (q := 9) dX6_sun_8 rfl rfl ?_
    refine r_iload_n (q := 10) dX6_sun_9 rfl rfl ?_
    refine r_iload_n (q := 11) dX6_sun_10 rfl rfl ?_
    refine r_cI2 (q := 14) vX6_197 dX6_sun_11 rfl LYX6 rfl (Nat.le_of_ble_eq_true rfl) (by decide) (by decide) (c_X6_isMinute _ V hV hI _ _) ?_
    rintro _ _ ⟨rfl, rfl⟩
    refine r_if_eqN (t := 27) (q := 17) dX6_sun_14 (by decide) rfl (by have := isMin_le V d m; omega) (fun c14 => ?_) (fun c14 => ?_)
    · refine r_aload_n (q := 28) dX6_sun_27 rfl rfl ?_
      refine r_iconst (q := 29) (v := -1) dX6_sun_28 rfl (by decide) ?_
      refine r_cI1 (q := 32) vX6_111 dX6_sun_29 rfl LYX6 rfl (Nat.le_of_ble_eq_true rfl) (by decide) (by decide) (c_X6_refuse _ V hV (-1) 1 rfl (by decide)) ?_
      rintro _ τ ⟨rfl, hR⟩
      exact r_retI dX6_sun_32 (eo_bad (by first | (simp [cSun, *]; done) | (unfold cSun; (try simp only [hwc, hdc, hmc]); (repeat' split); all_goals first | rfl | contradiction | omega | (exfalso; simp only [Int32.lt_iff_toInt_lt, Int32.le_iff_toInt_le] at *; omega))) (by decide) hR)
    · obtain ⟨d, m, hd, hm, rfl, rfl⟩ := isMin_of c14
      have hmn := bd hI 34 d 24 rfl rfl
      have hdc := nI_clamp (n := d) (by omega)
      have hmc := nI_clamp (n := m) (by omega)
      refine r_aload_n (q := 18) dX6_sun_17 rfl rfl ?_
      refine r_iload_n (q := 19) dX6_sun_18 rfl rfl ?_
      refine r_iload_n (q := 20) dX6_sun_19 rfl rfl ?_
      refine r_iload_n (q := 21) dX6_sun_20 rfl rfl ?_
      refine r_cI3 (q := 24) vX6_186 dX6_sun_21 rfl LYX6 rfl (Nat.le_of_ble_eq_true rfl) (by decide) (by decide) (c_X6_sunOf _ V hV hF w d m (by omega) hw hd hm) ?_
      rintro _ τ ⟨rfl, hV1⟩
      refine r_goto (q := 32) dX6_sun_24 (by decide) ?_
      exact r_retI dX6_sun_32 (eo_ok (by first | (simp [cSun, *]; done) | (unfold cSun; (try simp only [hwc, hdc, hmc]); (repeat' split); all_goals first | rfl | contradiction | omega | (exfalso; simp only [Int32.lt_iff_toInt_lt, Int32.le_iff_toInt_le] at *; omega))) (by rw [hwc, hdc, hmc]) hV1)
set_option maxRecDepth 100000 in
set_option maxHeartbeats 4000000 in
theorem c_X6_light (σ V : St) (hV : vwM σ = V) (hF : WF V) (w c d m : Int32) : Cl LAY yX6_light cX6_light 5 (some .int) 3 75 [.ref 33, .int w, .int c, .int d, .int m] σ (EI (fun v τ => v = resO (cLight V w c d m) (nI (lightN V w.toNatClampNeg c.toNatClampNeg d.toNatClampNeg m.toNatClampNeg)) ∧ vwM τ = stO (cLight V w c d m) (V) (rfM V (cLight V w c d m)))) := by
  have hI := hF.1
  have hnw := bd hI 33 19 20 rfl rfl
  have hnb := bd hI 33 7 40 rfl rfl
  refine Cl.of 0 rfl rfl EI.ok ?_
  show Rn LAY none RX6 _ _ _ _ 0 [some (.ref 33), some (.int w), some (.int c), some (.int d), some (.int m)] [] _ _
  refine r_aload_n (q := 1) dX6_light_0 rfl rfl ?_
  refine r_iload_n (q := 2) dX6_light_1 rfl rfl ?_
  refine r_cI1 (q := 5) vX6_194 dX6_light_2 rfl LYX6 rfl (Nat.le_of_ble_eq_true rfl) (by decide) (by decide) (c_X6_isWindow _ V hV hI _) ?_
  rintro _ _ ⟨rfl, rfl⟩
  refine r_if_eqN (t := 45) (q := 8) dX6_light_5 (by decide) rfl (by have := ix_le w (nv V 33 19); omega) (fun c5 => ?_) (fun c5 => ?_)
  · refine r_aload_n (q := 46) dX6_light_45 rfl rfl ?_
    refine r_iconst (q := 47) (v := -1) dX6_light_46 rfl (by decide) ?_
    refine r_cI1 (q := 50) vX6_111 dX6_light_47 rfl LYX6 rfl (Nat.le_of_ble_eq_true rfl) (by decide) (by decide) (c_X6_refuse _ V hV (-1) 1 rfl (by decide)) ?_
    rintro _ τ ⟨rfl, hR⟩
    exact r_retI dX6_light_50 (eo_bad (by first | (simp [cLight, *]; done) | (unfold cLight; (try simp only [hwc, hcc, hdc, hmc]); (repeat' split); all_goals first | rfl | contradiction | omega | (exfalso; simp only [Int32.lt_iff_toInt_lt, Int32.le_iff_toInt_le] at *; omega))) (by decide) hR)
  · obtain ⟨w, hw, rfl⟩ := ix_of c5
    have hwc := nI_clamp (n := w) (by omega)
    refine r_iload_n (q := 9) dX6_light_8 rfl rfl ?_
    refine r_iconst (q := 10) (v := nI 0) dX6_light_9 rfl (by decide) ?_
    refine r_aload_n (q := 11) dX6_light_10 rfl rfl ?_
    refine r_iload_n (q := 12) dX6_light_11 rfl rfl ?_
    refine r_cI1 (q := 15) vX6_179 dX6_light_12 rfl LYX6 rfl (Nat.le_of_ble_eq_true rfl) (by decide) (by decide) (c_X6_cellsOf _ V hV hI hF.2.1 w (by omega)) ?_
    rintro _ _ ⟨rfl, rfl⟩
    refine r_iconst (q := 16) (v := nI 1) dX6_light_15 rfl (by decide) ?_
    refine r_isub (q := 17) dX6_light_16 rfl ?_
    refine r_sI3 (q := 20) vX6_100 dX6_light_17 rfl (Nat.le_of_ble_eq_true rfl) (by decide) (by decide) (c_X6_in _ _ _ _) ?_
    rintro _ _ ⟨rfl, rfl⟩
    refine r_if_eqN (t := 45) (q := 23) dX6_light_20 (by decide) rfl (by have := inN_le c (nI 0) (nI (cls V w) - nI 1); omega) (fun c20 => ?_) (fun c20 => ?_)
    · rw [ix_in _ (by have := (hF.2.1 w).2.2.1; omega)] at c20
      refine r_aload_n (q := 46) dX6_light_45 rfl rfl ?_
      refine r_iconst (q := 47) (v := -1) dX6_light_46 rfl (by decide) ?_
      refine r_cI1 (q := 50) vX6_111 dX6_light_47 rfl LYX6 rfl (Nat.le_of_ble_eq_true rfl) (by decide) (by decide) (c_X6_refuse _ V hV (-1) 1 rfl (by decide)) ?_
      rintro _ τ ⟨rfl, hR⟩
      exact r_retI dX6_light_50 (eo_bad (by first | (simp [cLight, *]; done) | (unfold cLight; (try simp only [hwc, hcc, hdc, hmc]); (repeat' split); all_goals first | rfl | contradiction | omega | (exfalso; simp only [Int32.lt_iff_toInt_lt, Int32.le_iff_toInt_le] at *; omega))) (by decide) hR)
    · rw [ix_in _ (by have := (hF.2.1 w).2.2.1; omega)] at c20
      have hcl := (hF.2.1 w).2.2.1
      obtain ⟨c, hc, rfl⟩ := ix_of c20
      have hcc := nI_clamp (n := c) (by omega)
      refine r_aload_n (q := 24) dX6_light_23 rfl rfl ?_
      refine r_iload_n (q := 25) dX6_light_24 rfl rfl ?_
      refine r_iload (q := 27) dX6_light_25 rfl rfl ?_
      refine r_cI2 (q := 30) vX6_197 dX6_light_27 rfl LYX6 rfl (Nat.le_of_ble_eq_true rfl) (by decide) (by decide) (c_X6_isMinute _ V hV hI _ _) ?_
      rintro _ _ ⟨rfl, rfl⟩
      refine r_if_eqN (t := 45) (q := 33) dX6_light_30 (by decide) rfl (by have := isMin_le V d m; omega) (fun c30 => ?_) (fun c30 => ?_)
      · refine r_aload_n (q := 46) dX6_light_45 rfl rfl ?_
        refine r_iconst (q := 47) (v := -1) dX6_light_46 rfl (by decide) ?_
        refine r_cI1 (q := 50) vX6_111 dX6_light_47 rfl LYX6 rfl (Nat.le_of_ble_eq_true rfl) (by decide) (by decide) (c_X6_refuse _ V hV (-1) 1 rfl (by decide)) ?_
        rintro _ τ ⟨rfl, hR⟩
        exact r_retI dX6_light_50 (eo_bad (by first | (simp [cLight, *]; done) | (unfold cLight; (try simp only [hwc, hcc, hdc, hmc]); (repeat' split); all_goals first | rfl | contradiction | omega | (exfalso; simp only [Int32.lt_iff_toInt_lt, Int32.le_iff_toInt_le] at *; omega))) (by decide) hR)
      · obtain ⟨d, m, hd, hm, rfl, rfl⟩ := isMin_of c30
        have hmn := bd hI 34 d 24 rfl rfl
        have hdc := nI_clamp (n := d) (by omega)
        have hmc := nI_clamp (n := m) (by omega)
        refine r_aload_n (q := 34) dX6_light_33 rfl rfl ?_
        refine r_iload_n (q := 35) dX6_light_34 rfl rfl ?_
        refine r_iload_n (q := 36) dX6_light_35 rfl rfl ?_
        refine r_iload_n (q := 37) dX6_light_36 rfl rfl ?_
        refine r_iload (q := 39) dX6_light_37 rfl rfl ?_
        refine r_cI4 (q := 42) vX6_182 dX6_light_39 rfl LYX6 rfl (Nat.le_of_ble_eq_true rfl) (by decide) (by decide) (c_X6_lightOf _ V hV hF w c d m (by omega) hw hc hd hm) ?_
        rintro _ τ ⟨rfl, hV1⟩
        refine r_goto (q := 50) dX6_light_42 (by decide) ?_
        exact r_retI dX6_light_50 (eo_ok (by first | (simp [cLight, *]; done) | (unfold cLight; (try simp only [hwc, hcc, hdc, hmc]); (repeat' split); all_goals first | rfl | contradiction | omega | (exfalso; simp only [Int32.lt_iff_toInt_lt, Int32.le_iff_toInt_le] at *; omega))) (by rw [hwc, hcc, hdc, hmc]) hV1)
set_option maxRecDepth 100000 in
set_option maxHeartbeats 4000000 in
theorem c_X6_taker (σ V : St) (hV : vwM σ = V) (hF : WF V) (w c d m : Int32) : Cl LAY yX6_taker cX6_taker 5 (some .int) 3 77 [.ref 33, .int w, .int c, .int d, .int m] σ (EI (fun v τ => v = resB (cLight V w c d m) (takN V w.toNatClampNeg c.toNatClampNeg d.toNatClampNeg m.toNatClampNeg) ∧ vwM τ = stO (cLight V w c d m) (V) (rfM V (cLight V w c d m)))) := by
  have hI := hF.1
  have hnw := bd hI 33 19 20 rfl rfl
  have hnb := bd hI 33 7 40 rfl rfl
  refine Cl.of 0 rfl rfl EI.ok ?_
  show Rn LAY none RX6 _ _ _ _ 0 [some (.ref 33), some (.int w), some (.int c), some (.int d), some (.int m)] [] _ _
  refine r_aload_n (q := 1) dX6_taker_0 rfl rfl ?_
  refine r_iload_n (q := 2) dX6_taker_1 rfl rfl ?_
  refine r_cI1 (q := 5) vX6_194 dX6_taker_2 rfl LYX6 rfl (Nat.le_of_ble_eq_true rfl) (by decide) (by decide) (c_X6_isWindow _ V hV hI _) ?_
  rintro _ _ ⟨rfl, rfl⟩
  refine r_if_eqN (t := 45) (q := 8) dX6_taker_5 (by decide) rfl (by have := ix_le w (nv V 33 19); omega) (fun c5 => ?_) (fun c5 => ?_)
  · refine r_aload_n (q := 46) dX6_taker_45 rfl rfl ?_
    refine r_iconst (q := 47) (v := -1) dX6_taker_46 rfl (by decide) ?_
    refine r_cI1 (q := 50) vX6_203 dX6_taker_47 rfl LYX6 rfl (Nat.le_of_ble_eq_true rfl) (by decide) (by decide) (c_X6_refuseBig _ V hV (-1) 1 rfl (by decide)) ?_
    rintro _ τ ⟨rfl, hR⟩
    exact r_retI dX6_taker_50 (eb_bad (by first | (simp [cLight, *]; done) | (unfold cLight; (try simp only [hwc, hcc, hdc, hmc]); (repeat' split); all_goals first | rfl | contradiction | omega | (exfalso; simp only [Int32.lt_iff_toInt_lt, Int32.le_iff_toInt_le] at *; omega))) (by decide) hR)
  · obtain ⟨w, hw, rfl⟩ := ix_of c5
    have hwc := nI_clamp (n := w) (by omega)
    refine r_iload_n (q := 9) dX6_taker_8 rfl rfl ?_
    refine r_iconst (q := 10) (v := nI 0) dX6_taker_9 rfl (by decide) ?_
    refine r_aload_n (q := 11) dX6_taker_10 rfl rfl ?_
    refine r_iload_n (q := 12) dX6_taker_11 rfl rfl ?_
    refine r_cI1 (q := 15) vX6_179 dX6_taker_12 rfl LYX6 rfl (Nat.le_of_ble_eq_true rfl) (by decide) (by decide) (c_X6_cellsOf _ V hV hI hF.2.1 w (by omega)) ?_
    rintro _ _ ⟨rfl, rfl⟩
    refine r_iconst (q := 16) (v := nI 1) dX6_taker_15 rfl (by decide) ?_
    refine r_isub (q := 17) dX6_taker_16 rfl ?_
    refine r_sI3 (q := 20) vX6_100 dX6_taker_17 rfl (Nat.le_of_ble_eq_true rfl) (by decide) (by decide) (c_X6_in _ _ _ _) ?_
    rintro _ _ ⟨rfl, rfl⟩
    refine r_if_eqN (t := 45) (q := 23) dX6_taker_20 (by decide) rfl (by have := inN_le c (nI 0) (nI (cls V w) - nI 1); omega) (fun c20 => ?_) (fun c20 => ?_)
    · rw [ix_in _ (by have := (hF.2.1 w).2.2.1; omega)] at c20
      refine r_aload_n (q := 46) dX6_taker_45 rfl rfl ?_
      refine r_iconst (q := 47) (v := -1) dX6_taker_46 rfl (by decide) ?_
      refine r_cI1 (q := 50) vX6_203 dX6_taker_47 rfl LYX6 rfl (Nat.le_of_ble_eq_true rfl) (by decide) (by decide) (c_X6_refuseBig _ V hV (-1) 1 rfl (by decide)) ?_
      rintro _ τ ⟨rfl, hR⟩
      exact r_retI dX6_taker_50 (eb_bad (by first | (simp [cLight, *]; done) | (unfold cLight; (try simp only [hwc, hcc, hdc, hmc]); (repeat' split); all_goals first | rfl | contradiction | omega | (exfalso; simp only [Int32.lt_iff_toInt_lt, Int32.le_iff_toInt_le] at *; omega))) (by decide) hR)
    · rw [ix_in _ (by have := (hF.2.1 w).2.2.1; omega)] at c20
      have hcl := (hF.2.1 w).2.2.1
      obtain ⟨c, hc, rfl⟩ := ix_of c20
      have hcc := nI_clamp (n := c) (by omega)
      refine r_aload_n (q := 24) dX6_taker_23 rfl rfl ?_
      refine r_iload_n (q := 25) dX6_taker_24 rfl rfl ?_
      refine r_iload (q := 27) dX6_taker_25 rfl rfl ?_
      refine r_cI2 (q := 30) vX6_197 dX6_taker_27 rfl LYX6 rfl (Nat.le_of_ble_eq_true rfl) (by decide) (by decide) (c_X6_isMinute _ V hV hI _ _) ?_
      rintro _ _ ⟨rfl, rfl⟩
      refine r_if_eqN (t := 45) (q := 33) dX6_taker_30 (by decide) rfl (by have := isMin_le V d m; omega) (fun c30 => ?_) (fun c30 => ?_)
      · refine r_aload_n (q := 46) dX6_taker_45 rfl rfl ?_
        refine r_iconst (q := 47) (v := -1) dX6_taker_46 rfl (by decide) ?_
        refine r_cI1 (q := 50) vX6_203 dX6_taker_47 rfl LYX6 rfl (Nat.le_of_ble_eq_true rfl) (by decide) (by decide) (c_X6_refuseBig _ V hV (-1) 1 rfl (by decide)) ?_
        rintro _ τ ⟨rfl, hR⟩
        exact r_retI dX6_taker_50 (eb_bad (by first | (simp [cLight, *]; done) | (unfold cLight; (try simp only [hwc, hcc, hdc, hmc]); (repeat' split); all_goals first | rfl | contradiction | omega | (exfalso; simp only [Int32.lt_iff_toInt_lt, Int32.le_iff_toInt_le] at *; omega))) (by decide) hR)
      · obtain ⟨d, m, hd, hm, rfl, rfl⟩ := isMin_of c30
        have hmn := bd hI 34 d 24 rfl rfl
        have hdc := nI_clamp (n := d) (by omega)
        have hmc := nI_clamp (n := m) (by omega)
        refine r_aload_n (q := 34) dX6_taker_33 rfl rfl ?_
        refine r_iload_n (q := 35) dX6_taker_34 rfl rfl ?_
        refine r_iload_n (q := 36) dX6_taker_35 rfl rfl ?_
        refine r_iload_n (q := 37) dX6_taker_36 rfl rfl ?_
        refine r_iload (q := 39) dX6_taker_37 rfl rfl ?_
        refine r_cI4 (q := 42) vX6_200 dX6_taker_39 rfl LYX6 rfl (Nat.le_of_ble_eq_true rfl) (by decide) (by decide) (c_X6_takerOf _ V hV hF w c d m (by omega) hw hc hd hm) ?_
        rintro _ τ ⟨rfl, hV1⟩
        refine r_goto (q := 50) dX6_taker_42 (by decide) ?_
        exact r_retI dX6_taker_50 (eb_ok (by first | (simp [cLight, *]; done) | (unfold cLight; (try simp only [hwc, hcc, hdc, hmc]); (repeat' split); all_goals first | rfl | contradiction | omega | (exfalso; simp only [Int32.lt_iff_toInt_lt, Int32.le_iff_toInt_le] at *; omega))) (by rw [hwc, hcc, hdc, hmc]) hV1)
set_option maxRecDepth 100000 in
set_option maxHeartbeats 4000000 in
theorem c_X6_hours (σ V : St) (hV : vwM σ = V) (hF : WF V) (w d : Int32) : Cl LAY yX6_hours cX6_hours 3 (some .int) 5 124 [.ref 33, .int w, .int d] σ (EI (fun v τ => v = resO (cHours V w d) (nI (hoursN V w.toNatClampNeg d.toNatClampNeg)) ∧ vwM τ = stO (cHours V w d) (V) (rfM V (cHours V w d)))) := by
  have hI := hF.1
  have hnw := bd hI 33 19 20 rfl rfl
  have hnb := bd hI 33 7 40 rfl rfl
  refine Cl.of 0 rfl rfl EI.ok ?_
  show Rn LAY none RX6 _ _ _ _ 0 [some (.ref 33), some (.int w), some (.int d)] [] _ _
  refine r_aload_n (q := 1) dX6_hours_0 rfl rfl ?_
  refine r_iload_n (q := 2) dX6_hours_1 rfl rfl ?_
  refine r_cI1 (q := 5) vX6_194 dX6_hours_2 rfl LYX6 rfl (Nat.le_of_ble_eq_true rfl) (by decide) (by decide) (c_X6_isWindow _ V hV hI _) ?_
  rintro _ _ ⟨rfl, rfl⟩
  refine r_if_eqN (t := 24) (q := 8) dX6_hours_5 (by decide) rfl (by have := ix_le w (nv V 33 19); omega) (fun c5 => ?_) (fun c5 => ?_)
  · refine r_aload_n (q := 25) dX6_hours_24 rfl rfl ?_
    refine r_iconst (q := 26) (v := -1) dX6_hours_25 rfl (by decide) ?_
    refine r_cI1 (q := 29) vX6_111 dX6_hours_26 rfl LYX6 rfl (Nat.le_of_ble_eq_true rfl) (by decide) (by decide) (c_X6_refuse _ V hV (-1) 1 rfl (by decide)) ?_
    rintro _ τ ⟨rfl, hR⟩
    exact r_retI dX6_hours_29 (eo_bad (by first | (simp [cHours, *]; done) | (unfold cHours; (try simp only [hwc, hdc]); (repeat' split); all_goals first | rfl | contradiction | omega | (exfalso; simp only [Int32.lt_iff_toInt_lt, Int32.le_iff_toInt_le] at *; omega))) (by decide) hR)
  · obtain ⟨w, hw, rfl⟩ := ix_of c5
    have hwc := nI_clamp (n := w) (by omega)
    refine r_iload_n (q := 9) dX6_hours_8 rfl rfl ?_
    refine r_sI1 (q := 12) vX6_107 dX6_hours_9 rfl (Nat.le_of_ble_eq_true rfl) (by decide) (by decide) (c_X6_isDay _ _) ?_
    rintro _ _ ⟨rfl, rfl⟩
    refine r_if_eqN (t := 24) (q := 15) dX6_hours_12 (by decide) rfl (by have := ix_le d 8; omega) (fun c12 => ?_) (fun c12 => ?_)
    · refine r_aload_n (q := 25) dX6_hours_24 rfl rfl ?_
      refine r_iconst (q := 26) (v := -1) dX6_hours_25 rfl (by decide) ?_
      refine r_cI1 (q := 29) vX6_111 dX6_hours_26 rfl LYX6 rfl (Nat.le_of_ble_eq_true rfl) (by decide) (by decide) (c_X6_refuse _ V hV (-1) 1 rfl (by decide)) ?_
      rintro _ τ ⟨rfl, hR⟩
      exact r_retI dX6_hours_29 (eo_bad (by first | (simp [cHours, *]; done) | (unfold cHours; (try simp only [hwc, hdc]); (repeat' split); all_goals first | rfl | contradiction | omega | (exfalso; simp only [Int32.lt_iff_toInt_lt, Int32.le_iff_toInt_le] at *; omega))) (by decide) hR)
    · obtain ⟨d, hd, rfl⟩ := ix_of c12
      have hdc := nI_clamp (n := d) (by omega)
      refine r_aload_n (q := 16) dX6_hours_15 rfl rfl ?_
      refine r_iload_n (q := 17) dX6_hours_16 rfl rfl ?_
      refine r_iload_n (q := 18) dX6_hours_17 rfl rfl ?_
      refine r_cI2 (q := 21) vX6_190 dX6_hours_18 rfl LYX6 rfl (Nat.le_of_ble_eq_true rfl) (by decide) (by decide) (c_X6_hoursOf _ V hV hF w d (by omega) hw hd) ?_
      rintro _ τ ⟨rfl, hV1⟩
      refine r_goto (q := 29) dX6_hours_21 (by decide) ?_
      exact r_retI dX6_hours_29 (eo_ok (by first | (simp [cHours, *]; done) | (unfold cHours; (try simp only [hwc, hdc]); (repeat' split); all_goals first | rfl | contradiction | omega | (exfalso; simp only [Int32.lt_iff_toInt_lt, Int32.le_iff_toInt_le] at *; omega))) (by rw [hwc, hdc]) hV1)
