/-! ===== Shade ===== -/
def opqP (V : St) (p : Int32) (d b : Nat) : Nat := if nI b = p then (if nv V 9 (b * 8 + d) < 8 then 1 else 0) else if nv V 10 b = 0 then 0 else if nv V 9 (b * 8 + d) < 8 then 1 else 0
def topP (V : St) (p : Int32) (t b : Nat) : Nat := if nI b = p then t else nv V 45 b
theorem topP_le {V : St} (hI : InvN V) (p : Int32) {t : Nat} (ht : t ≤ 200) (b : Nat) : topP V p t b ≤ 200 := by
  unfold topP
  split
  · exact ht
  · exact bd hI 45 b 200 rfl rfl
def sel (V : St) (p : Int32) (d : Nat) (A : Nat → Nat) : Nat → List Nat
  | 0 => []
  | b + 1 => if opqP V p d b = 0 then sel V p d A b else if A b = 0 then sel V p d A b else sel V p d A b ++ [b]
theorem sel_len (V : St) (p : Int32) (d : Nat) (A : Nat → Nat) (b : Nat) : (sel V p d A b).length ≤ b := by
  induction b with
  | zero => exact Nat.le_refl _
  | succ b ih =>
    rw [sel]
    (repeat' split)
    · omega
    · omega
    · rw [List.length_append]; simp; omega
theorem sel_lt (V : St) (p : Int32) (d : Nat) (A : Nat → Nat) (b : Nat) : ∀ x ∈ sel V p d A b, x < b := by
  induction b with
  | zero => intro x hx; cases hx
  | succ b ih =>
    intro x hx
    rw [sel] at hx
    split at hx
    · have := ih x hx; omega
    · split at hx
      · have := ih x hx; omega
      · rcases List.mem_append.mp hx with h | h
        · have := ih x h; omega
        · rw [List.mem_singleton.mp h]; omega
theorem gd_mem {l : List Nat} {i : Nat} (h : i < l.length) : l.getD i 0 ∈ l := by
  rw [List.getD_eq_getElem?_getD, List.getElem?_eq_getElem h]
  exact List.getElem_mem h
theorem gd_l {l : List Nat} {b i : Nat} (h : i < l.length) : (l ++ [b]).getD i 0 = l.getD i 0 := by
  rw [List.getD_eq_getElem?_getD, List.getD_eq_getElem?_getD, List.getElem?_append_left h]
theorem gd_r {l : List Nat} {b : Nat} : (l ++ [b]).getD l.length 0 = b := by
  rw [List.getD_eq_getElem?_getD, List.getElem?_append_right (Nat.le_refl _)]
  simp
theorem mL_c {σ τ V : St} {b t : Nat} (h1 : τ 23 = σ 23) (h2 : τ 24 = σ 24) (h3 : τ 25 = σ 25) (n : Nat) : mL τ V b t n = mL σ V b t n ∧ mH τ V b t n = mH σ V b t n ∧ mO τ V b t n = mO σ V b t n := by
  induction n with
  | zero => exact ⟨rfl, rfl, rfl⟩
  | succ n ih =>
    obtain ⟨i1, i2, i3⟩ := ih
    rw [mL, mH, mO, mL, mH, mO, h1, h2, h3, i1, i2, i3]
    exact ⟨rfl, rfl, rfl⟩
theorem mHit_c {σ τ V : St} {b t : Nat} (h1 : τ 23 = σ 23) (h2 : τ 24 = σ 24) (h3 : τ 25 = σ 25) : mHit τ V b t = mHit σ V b t := by
  obtain ⟨i1, i2, i3⟩ := mL_c (V := V) (b := b) (t := t) h1 h2 h3 3
  unfold mHit
  rw [i1, i2, i3]
def offG (σ τ : St) : Prop := ∀ k, ¬ k = 22 → ¬ k = 26 → ¬ k = 27 → ¬ k = 28 → ¬ k = 29 → τ k = σ k
def gat (V : St) (p : Int32) (t d : Nat) (l : List Nat) (τ : St) : Prop := τ 26 0 = nI l.length ∧ ∀ i, i < l.length → τ 27 i = nI (l.getD i 0) ∧ τ 28 i = nI (topP V p t (l.getD i 0)) ∧ τ 29 i = nI (nv V 9 (l.getD i 0 * 8 + d))
theorem gat_c {V : St} {p : Int32} {t d : Nat} {l : List Nat} {σ τ : St} (h : gat V p t d l σ) (h0 : τ 26 = σ 26) (h1 : τ 27 = σ 27) (h2 : τ 28 = σ 28) (h3 : τ 29 = σ 29) : gat V p t d l τ := by
  unfold gat
  rw [h0, h1, h2, h3]
  exact h
set_option maxRecDepth 100000 in
set_option maxHeartbeats 4000000 in
theorem l_X2_gather {V σ0 : St} (hG : GOOD V) {p : Int32} {t d : Nat} (ht : t ≤ 200) (hd : d < 8) : ∀ (n b : Nat) (σ : St) (z7 z8 z9 z10 : Option Value), b + n = nv V 33 7 → vw σ = V → offG σ0 σ → gat V p t d (sel V p d (fun x => mHit σ0 V x (topP V p t x)) b) σ → Rn LAYC none RX2 cX2_gather 11 1 32 8 [some (.ref 26), some (.ref 4), some (.ref 22), some (.int (nI d)), some (.int p), some (.int (nI t)), some (.int (nI b)), z7, z8, z9, z10] [] σ (EV (fun τ => vw τ = V ∧ offG σ0 τ ∧ gat V p t d (sel V p d (fun x => mHit σ0 V x (topP V p t x)) (nv V 33 7)) τ)) := by
  have hI := hG.1.1
  have hR := hG.2
  have hnb := bd hI 33 7 40 rfl rfl
  have hrel := hR.nb
  intro n
  induction n with
  | zero =>
    intro b σ z7 z8 z9 z10 hb hV hoff hgat
    refine r_iload (q := 10) dX2_gather_8 rfl rfl ?_
    refine r_aload_n (q := 11) dX2_gather_10 rfl rfl ?_
    refine gvX2_25 (q := 14) hV hI dX2_gather_11 rfl ?_
    refine r_icmp_geN (t := 158) (q := 17) dX2_gather_14 (by decide) rfl (by omega) (by omega) (fun c14 => ?_) (fun c14 => absurd (by omega) c14)
    exact r_retV dX2_gather_158 ⟨hV, hoff, by rw [show nv V 33 7 = b by omega]; exact hgat⟩
  | succ n ih =>
    intro b σ z7 z8 z9 z10 hb hV hoff hgat
    refine r_iload (q := 10) dX2_gather_8 rfl rfl ?_
    refine r_aload_n (q := 11) dX2_gather_10 rfl rfl ?_
    refine gvX2_25 (q := 14) hV hI dX2_gather_11 rfl ?_
    refine r_icmp_geN (t := 158) (q := 17) dX2_gather_14 (by decide) rfl (by omega) (by omega) (fun c14 => absurd c14 (by omega)) (fun c14 => ?_)
    refine r_iload (q := 19) dX2_gather_17 rfl rfl ?_
    refine r_iload (q := 21) dX2_gather_19 rfl rfl ?_
    refine r_icmp_ne (t := 28) (q := 24) dX2_gather_21 (by decide) rfl (fun c21 => ?_) (fun c21 => ?_)
    · refine r_iconst (q := 29) (v := nI 0) dX2_gather_28 rfl (by decide) ?_
      refine r_istore (q := 31) dX2_gather_29 rfl (Nat.le_of_ble_eq_true rfl) ?_
      refine r_aload_n (q := 32) dX2_gather_31 rfl rfl ?_
      refine gX2_28 (q := 35) dX2_gather_32 rfl ?_
      refine r_iload (q := 37) dX2_gather_35 rfl rfl ?_
      refine r_bipush (q := 39) (v := nI 8) dX2_gather_37 rfl (by decide) ?_
      refine r_imulN (q := 40) dX2_gather_39 rfl ?_
      refine r_iload_n (q := 41) dX2_gather_40 rfl rfl ?_
      refine r_iaddN (q := 42) dX2_gather_41 rfl ?_
      refine r_ialdV (q := 43) hV hI dX2_gather_42 rfl LA9 rfl rfl (by decide) (by omega) ?_
      refine r_istore (q := 45) dX2_gather_43 rfl (Nat.le_of_ble_eq_true rfl) ?_
      refine r_iload (q := 47) dX2_gather_45 rfl rfl ?_
      refine r_if_eqN (t := 55) (q := 50) dX2_gather_47 (by decide) rfl (by decide) (fun c47 => ?_) (fun c47 => absurd rfl c47)
      refine r_aload_n (q := 56) dX2_gather_55 rfl rfl ?_
      refine r_iload (q := 58) dX2_gather_56 rfl rfl ?_
      refine r_cI1 (q := 61) vX2_31 dX2_gather_58 rfl LYX1 rfl (Nat.le_of_ble_eq_true rfl) (by decide) (by decide) (c_X1_topOf _ V hV hG b (by omega)) ?_
      rintro _ τ0 ⟨rfl, hτ0⟩
      rw [hτ0]
      clear hτ0
      refine r_istore (q := 63) dX2_gather_61 rfl (Nat.le_of_ble_eq_true rfl) ?_
      refine r_iload (q := 65) dX2_gather_63 rfl rfl ?_
      refine r_if_neN (t := 78) (q := 68) dX2_gather_65 (by decide) rfl (by decide) (fun c65 => absurd rfl c65) (fun c65 => ?_)
      refine r_aload_n (q := 69) dX2_gather_68 rfl rfl ?_
      refine gX2_35 (q := 72) dX2_gather_69 rfl ?_
      refine r_iload (q := 74) dX2_gather_72 rfl rfl ?_
      refine r_zaldV (q := 75) hV hI dX2_gather_74 rfl LA10 rfl rfl (by decide) (by omega) ?_
      refine r_if_eqN (t := 89) (q := 78) dX2_gather_75 (by decide) rfl (by have := bd hI 10 b 1 rfl rfl; omega) (fun c75 => ?_) (fun c75 => ?_)
      · refine r_iconst (q := 90) (v := nI 0) dX2_gather_89 rfl (by decide) ?_
        refine r_istore (q := 92) dX2_gather_90 rfl (Nat.le_of_ble_eq_true rfl) ?_
        refine r_iload (q := 94) dX2_gather_92 rfl rfl ?_
        refine r_if_eqN (t := 152) (q := 97) dX2_gather_94 (by decide) rfl (by decide) (fun c94 => ?_) (fun c94 => absurd rfl c94)
        refine r_iinc (q := 155) (v := nI (b + 1)) dX2_gather_152 rfl rfl (by rw [show Int32.ofInt 1 = nI 1 from rfl]; exact nI_add _ _) ?_
        refine r_goto (q := 8) dX2_gather_155 (by decide) ?_
        have hop : opqP V p d b = 0 := by
          simp only [opqP]; (repeat' split); all_goals first | rfl | contradiction | omega | (exfalso; omega)
        have es : sel V p d (fun x => mHit σ0 V x (topP V p t x)) (b + 1) = sel V p d (fun x => mHit σ0 V x (topP V p t x)) b := by rw [sel, if_pos hop]
        exact ih (b + 1) _ _ _ _ _ (by omega) hV hoff (by rw [es]; exact hgat)
      · refine r_iload (q := 80) dX2_gather_78 rfl rfl ?_
        refine r_bipush (q := 82) (v := nI 8) dX2_gather_80 rfl (by decide) ?_
        refine r_icmp_geN (t := 89) (q := 85) dX2_gather_82 (by decide) rfl (by have := bd hI 9 (((b * 8) + d)) 8 rfl rfl; omega) (by omega) (fun c82 => ?_) (fun c82 => ?_)
        · refine r_iconst (q := 90) (v := nI 0) dX2_gather_89 rfl (by decide) ?_
          refine r_istore (q := 92) dX2_gather_90 rfl (Nat.le_of_ble_eq_true rfl) ?_
          refine r_iload (q := 94) dX2_gather_92 rfl rfl ?_
          refine r_if_eqN (t := 152) (q := 97) dX2_gather_94 (by decide) rfl (by decide) (fun c94 => ?_) (fun c94 => absurd rfl c94)
          refine r_iinc (q := 155) (v := nI (b + 1)) dX2_gather_152 rfl rfl (by rw [show Int32.ofInt 1 = nI 1 from rfl]; exact nI_add _ _) ?_
          refine r_goto (q := 8) dX2_gather_155 (by decide) ?_
          have hop : opqP V p d b = 0 := by
            simp only [opqP]; (repeat' split); all_goals first | rfl | contradiction | omega | (exfalso; omega)
          have es : sel V p d (fun x => mHit σ0 V x (topP V p t x)) (b + 1) = sel V p d (fun x => mHit σ0 V x (topP V p t x)) b := by rw [sel, if_pos hop]
          exact ih (b + 1) _ _ _ _ _ (by omega) hV hoff (by rw [es]; exact hgat)
        · refine r_iconst (q := 86) (v := nI 1) dX2_gather_85 rfl (by decide) ?_
          refine r_goto (q := 90) dX2_gather_86 (by decide) ?_
          refine r_istore (q := 92) dX2_gather_90 rfl (Nat.le_of_ble_eq_true rfl) ?_
          refine r_iload (q := 94) dX2_gather_92 rfl rfl ?_
          refine r_if_eqN (t := 152) (q := 97) dX2_gather_94 (by decide) rfl (by decide) (fun c94 => absurd c94 (by decide)) (fun c94 => ?_)
          refine r_aload_n (q := 98) dX2_gather_97 rfl rfl ?_
          refine r_aload_n (q := 99) dX2_gather_98 rfl rfl ?_
          refine r_iload (q := 101) dX2_gather_99 rfl rfl ?_
          refine r_iload (q := 103) dX2_gather_101 rfl rfl ?_
          refine r_cI3 (q := 106) vX2_39 dX2_gather_103 rfl LYX0 rfl (Nat.le_of_ble_eq_true rfl) (by decide) (by decide) (c_X0_meets _ V hV hI b (nv V 45 b) (by omega) (by have := bd hI 45 b 200 rfl rfl; omega)) ?_
          rintro _ s103 ⟨rfl, hV103, o103, -⟩
          have etp : topP V p t b = nv V 45 b := by rw [topP, if_neg c21]
          rw [mHit_c (hoff 23 (by decide) (by decide) (by decide) (by decide) (by decide)) (hoff 24 (by decide) (by decide) (by decide) (by decide) (by decide)) (hoff 25 (by decide) (by decide) (by decide) (by decide) (by decide)), show mHit σ0 V b (nv V 45 b) = mHit σ0 V b (topP V p t b) by rw [etp]]
          have hln := sel_len V p d (fun x => mHit σ0 V x (topP V p t x)) b
          have g103 : gat V p t d (sel V p d (fun x => mHit σ0 V x (topP V p t x)) b) s103 := gat_c hgat (o103 26 (by decide)) (o103 27 (by decide)) (o103 28 (by decide)) (o103 29 (by decide))
          have of103 : offG σ0 s103 := fun k h1 h2 h3 h4 h5 => (o103 k h1).trans (hoff k h1 h2 h3 h4 h5)
          refine r_if_eqN (t := 152) (q := 109) dX2_gather_106 (by decide) rfl (by have := mHit_le σ0 V b (topP V p t b); omega) (fun c106 => ?_) (fun c106 => ?_)
          · refine r_iinc (q := 155) (v := nI (b + 1)) dX2_gather_152 rfl rfl (by rw [show Int32.ofInt 1 = nI 1 from rfl]; exact nI_add _ _) ?_
            refine r_goto (q := 8) dX2_gather_155 (by decide) ?_
            have hop : opqP V p d b = 1 := by
              simp only [opqP]; (repeat' split); all_goals first | rfl | contradiction | omega | (exfalso; omega)
            have es : sel V p d (fun x => mHit σ0 V x (topP V p t x)) (b + 1) = sel V p d (fun x => mHit σ0 V x (topP V p t x)) b := by rw [sel, if_neg (by omega), if_pos c106]
            exact ih (b + 1) _ _ _ _ _ (by omega) hV103 of103 (by rw [es]; exact g103)
          · refine r_aload_n (q := 110) dX2_gather_109 rfl rfl ?_
            refine gX2_15 (q := 113) dX2_gather_110 rfl ?_
            refine r_aload_n (q := 114) dX2_gather_113 rfl rfl ?_
            refine gX2_9 (q := 117) dX2_gather_114 rfl ?_
            refine r_as g103.1 ?_
            refine r_iload (q := 119) dX2_gather_117 rfl rfl ?_
            refine r_iastS (q := 120) hV103 dX2_gather_119 rfl LA27 rfl (by omega) (by decide) (fun s119 e119 hV119 => ?_)
            refine r_aload_n (q := 121) dX2_gather_120 rfl rfl ?_
            refine gX2_19 (q := 124) dX2_gather_121 rfl ?_
            refine r_aload_n (q := 125) dX2_gather_124 rfl rfl ?_
            refine gX2_9 (q := 128) dX2_gather_125 rfl ?_
            refine r_as (y := nI ((sel V p d (fun x => mHit σ0 V x (topP V p t x)) b).length)) (by rw [e119, u2, if_neg (by omega)]; exact g103.1) ?_
            refine r_iload (q := 130) dX2_gather_128 rfl rfl ?_
            refine r_iastS (q := 131) hV119 dX2_gather_130 rfl LA28 rfl (by omega) (by decide) (fun s130 e130 hV130 => ?_)
            refine r_aload_n (q := 132) dX2_gather_131 rfl rfl ?_
            refine gX2_22 (q := 135) dX2_gather_132 rfl ?_
            refine r_aload_n (q := 136) dX2_gather_135 rfl rfl ?_
            refine gX2_9 (q := 139) dX2_gather_136 rfl ?_
            refine r_as (y := nI ((sel V p d (fun x => mHit σ0 V x (topP V p t x)) b).length)) (by rw [e130, u2, if_neg (by omega), e119, u2, if_neg (by omega)]; exact g103.1) ?_
            refine r_iload (q := 141) dX2_gather_139 rfl rfl ?_
            refine r_iastS (q := 142) hV130 dX2_gather_141 rfl LA29 rfl (by omega) (by decide) (fun s141 e141 hV141 => ?_)
            refine r_aload_n (q := 143) dX2_gather_142 rfl rfl ?_
            refine r_dup (q := 144) dX2_gather_143 rfl ?_
            refine gX2_9 (q := 147) dX2_gather_144 rfl ?_
            refine r_as (y := nI ((sel V p d (fun x => mHit σ0 V x (topP V p t x)) b).length)) (by rw [e141, u2, if_neg (by omega), e130, u2, if_neg (by omega), e119, u2, if_neg (by omega)]; exact g103.1) ?_
            refine r_iconst (q := 148) (v := nI 1) dX2_gather_147 rfl (by decide) ?_
            refine r_iaddN (q := 149) dX2_gather_148 rfl ?_
            refine psX2_9 (q := 152) hV141 dX2_gather_149 rfl (fun s149 e149 hV149 => ?_)
            refine r_iinc (q := 155) (v := nI (b + 1)) dX2_gather_152 rfl rfl (by rw [show Int32.ofInt 1 = nI 1 from rfl]; exact nI_add _ _) ?_
            refine r_goto (q := 8) dX2_gather_155 (by decide) ?_
            have hop : opqP V p d b = 1 := by
              simp only [opqP]; (repeat' split); all_goals first | rfl | contradiction | omega | (exfalso; omega)
            have es : sel V p d (fun x => mHit σ0 V x (topP V p t x)) (b + 1) = sel V p d (fun x => mHit σ0 V x (topP V p t x)) b ++ [b] := by rw [sel, if_neg (by omega), if_neg c106]
            have of149 : offG σ0 s149 := by
              intro k h1 h2 h3 h4 h5
              rw [← of103 k h1 h2 h3 h4 h5]
              funext i
              rw [e149, u2, if_neg (by omega), e141, u2, if_neg (by omega), e130, u2, if_neg (by omega), e119, u2, if_neg (by omega)]
            have g149 : gat V p t d (sel V p d (fun x => mHit σ0 V x (topP V p t x)) b ++ [b]) s149 := by
              refine ⟨?_, fun i hi => ?_⟩
              · rw [e149, u2, if_pos ⟨rfl, rfl⟩, List.length_append]; rfl
              · rw [List.length_append] at hi
                have q27 : s149 27 i = if i = (sel V p d (fun x => mHit σ0 V x (topP V p t x)) b).length then nI b else s103 27 i := by
                  rw [e149, u2, if_neg (by omega), e141, u2, if_neg (by omega), e130, u2, if_neg (by omega), e119, u2]
                  by_cases hx : i = (sel V p d (fun x => mHit σ0 V x (topP V p t x)) b).length
                  · rw [if_pos ⟨rfl, hx⟩, if_pos hx]
                  · rw [if_neg (fun e => hx e.2), if_neg hx]
                have q28 : s149 28 i = if i = (sel V p d (fun x => mHit σ0 V x (topP V p t x)) b).length then nI (topP V p t b) else s103 28 i := by
                  rw [e149, u2, if_neg (by omega), e141, u2, if_neg (by omega), e130, u2, etp]
                  by_cases hx : i = (sel V p d (fun x => mHit σ0 V x (topP V p t x)) b).length
                  · rw [if_pos ⟨rfl, hx⟩, if_pos hx]
                  · rw [if_neg (fun e => hx e.2), if_neg hx, e119, u2, if_neg (by omega)]
                have q29 : s149 29 i = if i = (sel V p d (fun x => mHit σ0 V x (topP V p t x)) b).length then nI (nv V 9 (b * 8 + d)) else s103 29 i := by
                  rw [e149, u2, if_neg (by omega), e141, u2]
                  by_cases hx : i = (sel V p d (fun x => mHit σ0 V x (topP V p t x)) b).length
                  · rw [if_pos ⟨rfl, hx⟩, if_pos hx]
                  · rw [if_neg (fun e => hx e.2), if_neg hx, e130, u2, if_neg (by omega), e119, u2, if_neg (by omega)]
                by_cases hx : i = (sel V p d (fun x => mHit σ0 V x (topP V p t x)) b).length
                · rw [q27, q28, q29, if_pos hx, if_pos hx, if_pos hx, hx, gd_r]; exact ⟨rfl, rfl, rfl⟩
                · have hi2 : i < (sel V p d (fun x => mHit σ0 V x (topP V p t x)) b).length := by simp at hi; omega
                  rw [q27, q28, q29, if_neg hx, if_neg hx, if_neg hx, gd_l hi2]; exact g103.2 i hi2
            exact ih (b + 1) _ _ _ _ _ (by omega) hV149 of149 (by rw [es]; exact g149)
    · refine r_iconst (q := 25) (v := nI 1) dX2_gather_24 rfl (by decide) ?_
      refine r_goto (q := 29) dX2_gather_25 (by decide) ?_
      refine r_istore (q := 31) dX2_gather_29 rfl (Nat.le_of_ble_eq_true rfl) ?_
      refine r_aload_n (q := 32) dX2_gather_31 rfl rfl ?_
      refine gX2_28 (q := 35) dX2_gather_32 rfl ?_
      refine r_iload (q := 37) dX2_gather_35 rfl rfl ?_
      refine r_bipush (q := 39) (v := nI 8) dX2_gather_37 rfl (by decide) ?_
      refine r_imulN (q := 40) dX2_gather_39 rfl ?_
      refine r_iload_n (q := 41) dX2_gather_40 rfl rfl ?_
      refine r_iaddN (q := 42) dX2_gather_41 rfl ?_
      refine r_ialdV (q := 43) hV hI dX2_gather_42 rfl LA9 rfl rfl (by decide) (by omega) ?_
      refine r_istore (q := 45) dX2_gather_43 rfl (Nat.le_of_ble_eq_true rfl) ?_
      refine r_iload (q := 47) dX2_gather_45 rfl rfl ?_
      refine r_if_eqN (t := 55) (q := 50) dX2_gather_47 (by decide) rfl (by decide) (fun c47 => absurd c47 (by decide)) (fun c47 => ?_)
      refine r_iload (q := 52) dX2_gather_50 rfl rfl ?_
      refine r_goto (q := 61) dX2_gather_52 (by decide) ?_
      refine r_istore (q := 63) dX2_gather_61 rfl (Nat.le_of_ble_eq_true rfl) ?_
      refine r_iload (q := 65) dX2_gather_63 rfl rfl ?_
      refine r_if_neN (t := 78) (q := 68) dX2_gather_65 (by decide) rfl (by decide) (fun c65 => ?_) (fun c65 => absurd c65 (by decide))
      refine r_iload (q := 80) dX2_gather_78 rfl rfl ?_
      refine r_bipush (q := 82) (v := nI 8) dX2_gather_80 rfl (by decide) ?_
      refine r_icmp_geN (t := 89) (q := 85) dX2_gather_82 (by decide) rfl (by have := bd hI 9 (((b * 8) + d)) 8 rfl rfl; omega) (by omega) (fun c82 => ?_) (fun c82 => ?_)
      · refine r_iconst (q := 90) (v := nI 0) dX2_gather_89 rfl (by decide) ?_
        refine r_istore (q := 92) dX2_gather_90 rfl (Nat.le_of_ble_eq_true rfl) ?_
        refine r_iload (q := 94) dX2_gather_92 rfl rfl ?_
        refine r_if_eqN (t := 152) (q := 97) dX2_gather_94 (by decide) rfl (by decide) (fun c94 => ?_) (fun c94 => absurd rfl c94)
        refine r_iinc (q := 155) (v := nI (b + 1)) dX2_gather_152 rfl rfl (by rw [show Int32.ofInt 1 = nI 1 from rfl]; exact nI_add _ _) ?_
        refine r_goto (q := 8) dX2_gather_155 (by decide) ?_
        have hop : opqP V p d b = 0 := by
          simp only [opqP]; (repeat' split); all_goals first | rfl | contradiction | omega | (exfalso; omega)
        have es : sel V p d (fun x => mHit σ0 V x (topP V p t x)) (b + 1) = sel V p d (fun x => mHit σ0 V x (topP V p t x)) b := by rw [sel, if_pos hop]
        exact ih (b + 1) _ _ _ _ _ (by omega) hV hoff (by rw [es]; exact hgat)
      · refine r_iconst (q := 86) (v := nI 1) dX2_gather_85 rfl (by decide) ?_
        refine r_goto (q := 90) dX2_gather_86 (by decide) ?_
        refine r_istore (q := 92) dX2_gather_90 rfl (Nat.le_of_ble_eq_true rfl) ?_
        refine r_iload (q := 94) dX2_gather_92 rfl rfl ?_
        refine r_if_eqN (t := 152) (q := 97) dX2_gather_94 (by decide) rfl (by decide) (fun c94 => absurd c94 (by decide)) (fun c94 => ?_)
        refine r_aload_n (q := 98) dX2_gather_97 rfl rfl ?_
        refine r_aload_n (q := 99) dX2_gather_98 rfl rfl ?_
        refine r_iload (q := 101) dX2_gather_99 rfl rfl ?_
        refine r_iload (q := 103) dX2_gather_101 rfl rfl ?_
        refine r_cI3 (q := 106) vX2_39 dX2_gather_103 rfl LYX0 rfl (Nat.le_of_ble_eq_true rfl) (by decide) (by decide) (c_X0_meets _ V hV hI b (t) (by omega) (by have := bd hI 45 b 200 rfl rfl; omega)) ?_
        rintro _ s103 ⟨rfl, hV103, o103, -⟩
        have etp : topP V p t b = t := by rw [topP, if_pos c21]
        rw [mHit_c (hoff 23 (by decide) (by decide) (by decide) (by decide) (by decide)) (hoff 24 (by decide) (by decide) (by decide) (by decide) (by decide)) (hoff 25 (by decide) (by decide) (by decide) (by decide) (by decide)), show mHit σ0 V b (t) = mHit σ0 V b (topP V p t b) by rw [etp]]
        have hln := sel_len V p d (fun x => mHit σ0 V x (topP V p t x)) b
        have g103 : gat V p t d (sel V p d (fun x => mHit σ0 V x (topP V p t x)) b) s103 := gat_c hgat (o103 26 (by decide)) (o103 27 (by decide)) (o103 28 (by decide)) (o103 29 (by decide))
        have of103 : offG σ0 s103 := fun k h1 h2 h3 h4 h5 => (o103 k h1).trans (hoff k h1 h2 h3 h4 h5)
        refine r_if_eqN (t := 152) (q := 109) dX2_gather_106 (by decide) rfl (by have := mHit_le σ0 V b (topP V p t b); omega) (fun c106 => ?_) (fun c106 => ?_)
        · refine r_iinc (q := 155) (v := nI (b + 1)) dX2_gather_152 rfl rfl (by rw [show Int32.ofInt 1 = nI 1 from rfl]; exact nI_add _ _) ?_
          refine r_goto (q := 8) dX2_gather_155 (by decide) ?_
          have hop : opqP V p d b = 1 := by
            simp only [opqP]; (repeat' split); all_goals first | rfl | contradiction | omega | (exfalso; omega)
          have es : sel V p d (fun x => mHit σ0 V x (topP V p t x)) (b + 1) = sel V p d (fun x => mHit σ0 V x (topP V p t x)) b := by rw [sel, if_neg (by omega), if_pos c106]
          exact ih (b + 1) _ _ _ _ _ (by omega) hV103 of103 (by rw [es]; exact g103)
        · refine r_aload_n (q := 110) dX2_gather_109 rfl rfl ?_
          refine gX2_15 (q := 113) dX2_gather_110 rfl ?_
          refine r_aload_n (q := 114) dX2_gather_113 rfl rfl ?_
          refine gX2_9 (q := 117) dX2_gather_114 rfl ?_
          refine r_as g103.1 ?_
          refine r_iload (q := 119) dX2_gather_117 rfl rfl ?_
          refine r_iastS (q := 120) hV103 dX2_gather_119 rfl LA27 rfl (by omega) (by decide) (fun s119 e119 hV119 => ?_)
          refine r_aload_n (q := 121) dX2_gather_120 rfl rfl ?_
          refine gX2_19 (q := 124) dX2_gather_121 rfl ?_
          refine r_aload_n (q := 125) dX2_gather_124 rfl rfl ?_
          refine gX2_9 (q := 128) dX2_gather_125 rfl ?_
          refine r_as (y := nI ((sel V p d (fun x => mHit σ0 V x (topP V p t x)) b).length)) (by rw [e119, u2, if_neg (by omega)]; exact g103.1) ?_
          refine r_iload (q := 130) dX2_gather_128 rfl rfl ?_
          refine r_iastS (q := 131) hV119 dX2_gather_130 rfl LA28 rfl (by omega) (by decide) (fun s130 e130 hV130 => ?_)
          refine r_aload_n (q := 132) dX2_gather_131 rfl rfl ?_
          refine gX2_22 (q := 135) dX2_gather_132 rfl ?_
          refine r_aload_n (q := 136) dX2_gather_135 rfl rfl ?_
          refine gX2_9 (q := 139) dX2_gather_136 rfl ?_
          refine r_as (y := nI ((sel V p d (fun x => mHit σ0 V x (topP V p t x)) b).length)) (by rw [e130, u2, if_neg (by omega), e119, u2, if_neg (by omega)]; exact g103.1) ?_
          refine r_iload (q := 141) dX2_gather_139 rfl rfl ?_
          refine r_iastS (q := 142) hV130 dX2_gather_141 rfl LA29 rfl (by omega) (by decide) (fun s141 e141 hV141 => ?_)
          refine r_aload_n (q := 143) dX2_gather_142 rfl rfl ?_
          refine r_dup (q := 144) dX2_gather_143 rfl ?_
          refine gX2_9 (q := 147) dX2_gather_144 rfl ?_
          refine r_as (y := nI ((sel V p d (fun x => mHit σ0 V x (topP V p t x)) b).length)) (by rw [e141, u2, if_neg (by omega), e130, u2, if_neg (by omega), e119, u2, if_neg (by omega)]; exact g103.1) ?_
          refine r_iconst (q := 148) (v := nI 1) dX2_gather_147 rfl (by decide) ?_
          refine r_iaddN (q := 149) dX2_gather_148 rfl ?_
          refine psX2_9 (q := 152) hV141 dX2_gather_149 rfl (fun s149 e149 hV149 => ?_)
          refine r_iinc (q := 155) (v := nI (b + 1)) dX2_gather_152 rfl rfl (by rw [show Int32.ofInt 1 = nI 1 from rfl]; exact nI_add _ _) ?_
          refine r_goto (q := 8) dX2_gather_155 (by decide) ?_
          have hop : opqP V p d b = 1 := by
            simp only [opqP]; (repeat' split); all_goals first | rfl | contradiction | omega | (exfalso; omega)
          have es : sel V p d (fun x => mHit σ0 V x (topP V p t x)) (b + 1) = sel V p d (fun x => mHit σ0 V x (topP V p t x)) b ++ [b] := by rw [sel, if_neg (by omega), if_neg c106]
          have of149 : offG σ0 s149 := by
            intro k h1 h2 h3 h4 h5
            rw [← of103 k h1 h2 h3 h4 h5]
            funext i
            rw [e149, u2, if_neg (by omega), e141, u2, if_neg (by omega), e130, u2, if_neg (by omega), e119, u2, if_neg (by omega)]
          have g149 : gat V p t d (sel V p d (fun x => mHit σ0 V x (topP V p t x)) b ++ [b]) s149 := by
            refine ⟨?_, fun i hi => ?_⟩
            · rw [e149, u2, if_pos ⟨rfl, rfl⟩, List.length_append]; rfl
            · rw [List.length_append] at hi
              have q27 : s149 27 i = if i = (sel V p d (fun x => mHit σ0 V x (topP V p t x)) b).length then nI b else s103 27 i := by
                rw [e149, u2, if_neg (by omega), e141, u2, if_neg (by omega), e130, u2, if_neg (by omega), e119, u2]
                by_cases hx : i = (sel V p d (fun x => mHit σ0 V x (topP V p t x)) b).length
                · rw [if_pos ⟨rfl, hx⟩, if_pos hx]
                · rw [if_neg (fun e => hx e.2), if_neg hx]
              have q28 : s149 28 i = if i = (sel V p d (fun x => mHit σ0 V x (topP V p t x)) b).length then nI (topP V p t b) else s103 28 i := by
                rw [e149, u2, if_neg (by omega), e141, u2, if_neg (by omega), e130, u2, etp]
                by_cases hx : i = (sel V p d (fun x => mHit σ0 V x (topP V p t x)) b).length
                · rw [if_pos ⟨rfl, hx⟩, if_pos hx]
                · rw [if_neg (fun e => hx e.2), if_neg hx, e119, u2, if_neg (by omega)]
              have q29 : s149 29 i = if i = (sel V p d (fun x => mHit σ0 V x (topP V p t x)) b).length then nI (nv V 9 (b * 8 + d)) else s103 29 i := by
                rw [e149, u2, if_neg (by omega), e141, u2]
                by_cases hx : i = (sel V p d (fun x => mHit σ0 V x (topP V p t x)) b).length
                · rw [if_pos ⟨rfl, hx⟩, if_pos hx]
                · rw [if_neg (fun e => hx e.2), if_neg hx, e130, u2, if_neg (by omega), e119, u2, if_neg (by omega)]
              by_cases hx : i = (sel V p d (fun x => mHit σ0 V x (topP V p t x)) b).length
              · rw [q27, q28, q29, if_pos hx, if_pos hx, if_pos hx, hx, gd_r]; exact ⟨rfl, rfl, rfl⟩
              · have hi2 : i < (sel V p d (fun x => mHit σ0 V x (topP V p t x)) b).length := by simp at hi; omega
                rw [q27, q28, q29, if_neg hx, if_neg hx, if_neg hx, gd_l hi2]; exact g103.2 i hi2
          exact ih (b + 1) _ _ _ _ _ (by omega) hV149 of149 (by rw [es]; exact g149)
set_option maxRecDepth 100000 in
set_option maxHeartbeats 4000000 in
theorem c_X2_gather (σ0 V : St) (hV : vw σ0 = V) (hG : GOOD V) (p : Int32) (t d : Nat) (ht : t ≤ 200) (hd : d < 8) : Cl LAYC yX2_gather cX2_gather 11 (none) 1 32 [.ref 26, .ref 4, .ref 22, .int (nI d), .int p, .int (nI t)] σ0 (EV (fun τ => vw τ = V ∧ offG σ0 τ ∧ gat V p t d (sel V p d (fun x => mHit σ0 V x (topP V p t x)) (nv V 33 7)) τ)) := by
  refine Cl.of 5 rfl rfl EV.ok ?_
  show Rn LAYC none RX2 _ _ _ _ 0 [some (.ref 26), some (.ref 4), some (.ref 22), some (.int (nI d)), some (.int p), some (.int (nI t)), none, none, none, none, none] [] _ _
  refine r_aload_n (q := 1) dX2_gather_0 rfl rfl ?_
  refine r_iconst (q := 2) (v := nI 0) dX2_gather_1 rfl (by decide) ?_
  refine psX2_9 (q := 5) hV dX2_gather_2 rfl (fun s2 e2 hV2 => ?_)
  refine r_iconst (q := 6) (v := nI 0) dX2_gather_5 rfl (by decide) ?_
  refine r_istore (q := 8) dX2_gather_6 rfl (Nat.le_of_ble_eq_true rfl) ?_
  exact l_X2_gather hG ht hd (nv V 33 7) 0 _ _ _ _ _ (Nat.zero_add _) hV2 (fun k h1 h2 h3 h4 h5 => by funext i; rw [e2, u2, if_neg (by omega)]) ⟨by rw [e2, u2, if_pos ⟨rfl, rfl⟩]; rfl, fun i hi => by cases hi⟩
/-! light along the gathered -/
def laf (V : St) (p : Int32) (t w c d k : Nat) (lt b : Nat) : Nat := if hitn V w c k b (topP V p t b) = 0 then lt else lt * nv V 9 (b * 8 + d) / 8
def laI (V : St) (p : Int32) (t w c d k : Nat) (l : List Nat) (i : Nat) : Nat := (l.take i).foldl (laf V p t w c d k) 4096
theorem laI_s {V : St} {p : Int32} {t w c d k : Nat} {l : List Nat} {i : Nat} (h : i < l.length) : laI V p t w c d k l (i + 1) = laf V p t w c d k (laI V p t w c d k l i) (l.getD i 0) := by
  unfold laI
  rw [List.take_succ, List.getElem?_eq_getElem h, List.foldl_append, List.getD_eq_getElem?_getD, List.getElem?_eq_getElem h]
  rfl
theorem laf_le {V : St} (hI : InvN V) (p : Int32) (t w c d k lt b : Nat) : laf V p t w c d k lt b ≤ lt := by
  unfold laf
  have h := bd hI 9 (b * 8 + d) 8 rfl rfl
  split
  · omega
  · have := Nat.mul_le_mul_left lt h
    omega
theorem laI_le {V : St} (hI : InvN V) (p : Int32) (t w c d k : Nat) (l : List Nat) (i : Nat) (hi : i ≤ l.length) : laI V p t w c d k l i ≤ 4096 := by
  induction i with
  | zero => exact Nat.le_refl _
  | succ i ih =>
    rw [laI_s (by omega)]
    exact Nat.le_trans (laf_le hI p t w c d k _ _) (ih (by omega))
theorem laI_0 {V : St} (hI : InvN V) {p : Int32} {t w c d k : Nat} {l : List Nat} {i : Nat} (h : laI V p t w c d k l i = 0) : ∀ n, i + n ≤ l.length → laI V p t w c d k l (i + n) = 0 := by
  intro n
  induction n with
  | zero => intro _; exact h
  | succ n ih =>
    intro hn
    have h1 := ih (by omega)
    have h2 := laf_le hI p t w c d k (laI V p t w c d k l (i + n)) (l.getD (i + n) 0)
    rw [show i + (n + 1) = (i + n) + 1 by omega, laI_s (by omega)]
    omega
/-- what lightAlong and nearestAlong stand on -/
def along (V : St) (p : Int32) (t w c d k : Nat) (l : List Nat) (σ : St) : Prop := gat V p t d l σ ∧ wayIs V k σ ∧ pointIs V w c σ ∧ (∀ x ∈ l, x < 40) ∧ l.length ≤ 40
theorem along_c {V : St} {p : Int32} {t w c d k : Nat} {l : List Nat} {σ τ : St} (h : along V p t w c d k l σ) (ho : off22 σ τ) : along V p t w c d k l τ := by
  obtain ⟨h1, h2, h3, h4, h5⟩ := h
  refine ⟨gat_c h1 (ho 26 (by decide)) (ho 27 (by decide)) (ho 28 (by decide)) (ho 29 (by decide)), ?_, ?_, h4, h5⟩
  · unfold wayIs
    rw [ho 23 (by decide)]
    exact h2
  · unfold pointIs
    rw [ho 24 (by decide), ho 25 (by decide)]
    exact h3
set_option maxRecDepth 100000 in
set_option maxHeartbeats 4000000 in
theorem l_X2_lightAlong {V : St} (hG : GOOD V) {p : Int32} {t w c d k : Nat} {l : List Nat} (ht : t ≤ 200) (hn : w < nv V 33 19) (hc : c < cls V w) (hz : 1 ≤ nv V 37 k) {σ0 : St} : ∀ (n i : Nat) (σ : St), i + n = l.length → vw σ = V → off22 σ0 σ → along V p t w c d k l σ → Rn LAYC none RX2 cX2_lightAlong 5 1 32 7 [some (.ref 26), some (.ref 4), some (.ref 22), some (.int (nI (laI V p t w c d k l i))), some (.int (nI i))] [] σ (EI (fun v τ => v = nI (laI V p t w c d k l l.length) ∧ vw τ = V ∧ off22 σ0 τ)) := by
  have hI := hG.1.1
  intro n
  induction n with
  | zero =>
    intro i σ hb hV hoff hal
    have hln := hal.2.2.2.2
    refine r_iload (q := 9) dX2_lightAlong_7 rfl rfl ?_
    refine r_aload_n (q := 10) dX2_lightAlong_9 rfl rfl ?_
    refine gX2_9 (q := 13) dX2_lightAlong_10 rfl ?_
    refine r_as hal.1.1 ?_
    refine r_icmp_geN (t := 61) (q := 16) dX2_lightAlong_13 (by decide) rfl (by omega) (by omega) (fun c13 => ?_) (fun c13 => absurd (by omega) c13)
    refine r_iload_n (q := 62) dX2_lightAlong_61 rfl rfl ?_
    exact r_retI dX2_lightAlong_62 ⟨by rw [show l.length = i by omega], hV, hoff⟩
  | succ n ih =>
    intro i σ hb hV hoff hal
    have hln := hal.2.2.2.2
    refine r_iload (q := 9) dX2_lightAlong_7 rfl rfl ?_
    refine r_aload_n (q := 10) dX2_lightAlong_9 rfl rfl ?_
    refine gX2_9 (q := 13) dX2_lightAlong_10 rfl ?_
    refine r_as hal.1.1 ?_
    refine r_icmp_geN (t := 61) (q := 16) dX2_lightAlong_13 (by decide) rfl (by omega) (by omega) (fun c13 => absurd c13 (by omega)) (fun c13 => ?_)
    refine r_iload_n (q := 17) dX2_lightAlong_16 rfl rfl ?_
    refine r_if_leN (t := 61) (q := 20) dX2_lightAlong_17 (by decide) rfl (by have h1 := laI_le hI p t w c d k l i (by omega); omega) (fun c17 => ?_) (fun c17 => ?_)
    · refine r_iload_n (q := 62) dX2_lightAlong_61 rfl rfl ?_
      have h0 := laI_0 hI c17 (n + 1) (by omega)
      exact r_retI dX2_lightAlong_62 ⟨by rw [c17, show l.length = i + (n + 1) by omega, h0], hV, hoff⟩
    · refine r_aload_n (q := 21) dX2_lightAlong_20 rfl rfl ?_
      refine r_aload_n (q := 22) dX2_lightAlong_21 rfl rfl ?_
      refine r_aload_n (q := 23) dX2_lightAlong_22 rfl rfl ?_
      refine gX2_15 (q := 26) dX2_lightAlong_23 rfl ?_
      refine r_iload (q := 28) dX2_lightAlong_26 rfl rfl ?_
      refine r_iald (q := 29) dX2_lightAlong_28 rfl LA27 (by omega) (by decide) ?_
      refine r_as (hal.1.2 i (by omega)).1 ?_
      refine r_aload_n (q := 30) dX2_lightAlong_29 rfl rfl ?_
      refine gX2_19 (q := 33) dX2_lightAlong_30 rfl ?_
      refine r_iload (q := 35) dX2_lightAlong_33 rfl rfl ?_
      refine r_iald (q := 36) dX2_lightAlong_35 rfl LA28 (by omega) (by decide) ?_
      refine r_as (hal.1.2 i (by omega)).2.1 ?_
      refine r_cI3 (q := 39) vX2_39 dX2_lightAlong_36 rfl LYX0 rfl (Nat.le_of_ble_eq_true rfl) (by decide) (by decide) (c_X0_meets _ V hV hI (l.getD i 0) (topP V p t (l.getD i 0)) (hal.2.2.2.1 _ (gd_mem (by omega))) (topP_le hI p ht _)) ?_
      rintro _ s36 ⟨rfl, hV36, o36, l36⟩
      obtain ⟨em, elr⟩ := meet_pt (b := l.getD i 0) (t := topP V p t (l.getD i 0)) hG hn hc (topP_le hI p ht _) hz hal.2.1 hal.2.2.1
      rw [em]
      have al36 := along_c hal o36
      have of36 : off22 σ0 s36 := fun k hk => (o36 k hk).trans (hoff k hk)
      refine r_if_eqN (t := 55) (q := 42) dX2_lightAlong_39 (by decide) rfl (by have := hitn_le V w c k (l.getD i 0) (topP V p t (l.getD i 0)); omega) (fun c39 => ?_) (fun c39 => ?_)
      · refine r_iinc (q := 58) (v := nI (i + 1)) dX2_lightAlong_55 rfl rfl (by rw [show Int32.ofInt 1 = nI 1 from rfl]; exact nI_add _ _) ?_
        refine r_goto (q := 7) dX2_lightAlong_58 (by decide) ?_
        have e : laI V p t w c d k l (i + 1) = laI V p t w c d k l i := by rw [laI_s (by omega), laf, if_pos c39]
        rw [← e]
        exact ih (i + 1) _ (by omega) hV36 of36 al36
      · refine r_iload_n (q := 43) dX2_lightAlong_42 rfl rfl ?_
        refine r_aload_n (q := 44) dX2_lightAlong_43 rfl rfl ?_
        refine gX2_22 (q := 47) dX2_lightAlong_44 rfl ?_
        refine r_iload (q := 49) dX2_lightAlong_47 rfl rfl ?_
        refine r_iald (q := 50) dX2_lightAlong_49 rfl LA29 (by omega) (by decide) ?_
        refine r_as (al36.1.2 i (by omega)).2.2 ?_
        refine r_imulN (q := 51) dX2_lightAlong_50 rfl ?_
        refine r_bipush (q := 53) (v := nI 8) dX2_lightAlong_51 rfl (by decide) ?_
        refine r_idivN (q := 54) dX2_lightAlong_53 rfl (by have h1 := laI_le hI p t w c d k l i (by omega); have h2 := bd hI 9 (l.getD i 0 * 8 + d) 8 rfl rfl; have := Nat.mul_le_mul h1 h2; omega) (by decide) (by decide) ?_
        refine r_istore_n (q := 55) dX2_lightAlong_54 rfl (Nat.le_of_ble_eq_true rfl) ?_
        refine r_iinc (q := 58) (v := nI (i + 1)) dX2_lightAlong_55 rfl rfl (by rw [show Int32.ofInt 1 = nI 1 from rfl]; exact nI_add _ _) ?_
        refine r_goto (q := 7) dX2_lightAlong_58 (by decide) ?_
        have e : laI V p t w c d k l (i + 1) = ((laI V p t w c d k l i * nv V 9 (l.getD i 0 * 8 + d)) / 8) := by rw [laI_s (by omega), laf, if_neg c39]
        rw [← e]
        exact ih (i + 1) _ (by omega) hV36 of36 al36
set_option maxRecDepth 100000 in
set_option maxHeartbeats 4000000 in
theorem c_X2_lightAlong (σ0 V : St) (hV : vw σ0 = V) (hG : GOOD V) (p : Int32) (t w c d k : Nat) (l : List Nat) (ht : t ≤ 200) (hn : w < nv V 33 19) (hc : c < cls V w) (hz : 1 ≤ nv V 37 k) (hal : along V p t w c d k l σ0) : Cl LAYC yX2_lightAlong cX2_lightAlong 5 (some .int) 1 32 [.ref 26, .ref 4, .ref 22] σ0 (EI (fun v τ => v = nI (laI V p t w c d k l l.length) ∧ vw τ = V ∧ off22 σ0 τ)) := by
  refine Cl.of 2 rfl rfl EI.ok ?_
  show Rn LAYC none RX2 _ _ _ _ 0 [some (.ref 26), some (.ref 4), some (.ref 22), none, none] [] _ _
  refine r_sipush (q := 3) (v := nI 4096) dX2_lightAlong_0 rfl (by decide) ?_
  refine r_istore_n (q := 4) dX2_lightAlong_3 rfl (Nat.le_of_ble_eq_true rfl) ?_
  refine r_iconst (q := 5) (v := nI 0) dX2_lightAlong_4 rfl (by decide) ?_
  refine r_istore (q := 7) dX2_lightAlong_5 rfl (Nat.le_of_ble_eq_true rfl) ?_
  exact l_X2_lightAlong hG ht hn hc hz l.length 0 _ (Nat.zero_add _) hV (fun _ _ => rfl) hal
/-! the nearest along the gathered -/
def nearP (V : St) (p : Int32) (t w c k b a : Nat) : Nat := if (lowP V w c k b (topP V p t b)).1 * (lowP V w c k a (topP V p t a)).2 < (lowP V w c k a (topP V p t a)).1 * (lowP V w c k b (topP V p t b)).2 then 1 else 0
def nef (V : St) (p : Int32) (t w c k : Nat) (q : Option Nat) (b : Nat) : Option Nat := if hitn V w c k b (topP V p t b) = 0 then q else match q with
  | none => some b
  | some a => if nearP V p t w c k b a = 0 then some a else some b
theorem nef_0 {V : St} {p : Int32} {t w c k b : Nat} {q : Option Nat} (h : hitn V w c k b (topP V p t b) = 0) : nef V p t w c k q b = q := if_pos h
theorem nef_n {V : St} {p : Int32} {t w c k b : Nat} (h : ¬ hitn V w c k b (topP V p t b) = 0) : nef V p t w c k none b = some b := if_neg h
theorem nef_s {V : St} {p : Int32} {t w c k b a : Nat} (h : ¬ hitn V w c k b (topP V p t b) = 0) : nef V p t w c k (some a) b = if nearP V p t w c k b a = 0 then some a else some b := if_neg h
def neI (V : St) (p : Int32) (t w c k : Nat) (l : List Nat) (i : Nat) : Option Nat := (l.take i).foldl (nef V p t w c k) none
theorem neI_s {V : St} {p : Int32} {t w c k : Nat} {l : List Nat} {i : Nat} (h : i < l.length) : neI V p t w c k l (i + 1) = nef V p t w c k (neI V p t w c k l i) (l.getD i 0) := by
  unfold neI
  rw [List.take_succ, List.getElem?_eq_getElem h, List.foldl_append, List.getD_eq_getElem?_getD, List.getElem?_eq_getElem h]
  rfl
theorem neI_in {V : St} {p : Int32} {t w c k : Nat} {l : List Nat} : ∀ (i : Nat) {a : Nat}, i ≤ l.length → neI V p t w c k l i = some a → a ∈ l := by
  intro i
  induction i with
  | zero => intro a _ h; cases h
  | succ i ih =>
    intro a hi h
    rw [neI_s (by omega)] at h
    unfold nef at h
    split at h
    · exact ih (by omega) h
    · cases ho : neI V p t w c k l i with
      | none => rw [ho] at h; cases h; exact gd_mem (by omega)
      | some x =>
        rw [ho] at h
        dsimp only at h
        split at h
        · cases h; exact ih (by omega) ho
        · cases h; exact gd_mem (by omega)
def PK (V : St) (p : Int32) (t w c k : Nat) (q : Option Nat) (bt bu : Int32) : Prop := ∀ a, q = some a → LR (bt, bu) (lowP V w c k a (topP V p t a))
theorem nearP_key {V : St} {pp : Int32} {t w c k a b : Nat} {l p : Int32 × Int32} (hl : LR l (lowP V w c k b (topP V pp t b))) (hp : LR p (lowP V w c k a (topP V pp t a))) : p.1 * l.2 ≤ l.1 * p.2 ↔ nearP V pp t w c k b a = 0 := by
  obtain ⟨l1, l2, l3, l4, l5, l6⟩ := hl
  obtain ⟨r1, r2, r3, r4, r5, r6⟩ := hp
  unfold nearP
  generalize lowP V w c k b (topP V pp t b) = zl at *
  generalize lowP V w c k a (topP V pp t a) = zp at *
  have m1 := mulB (A := 1000) (B := 100) (a := zp.1) (b := zl.2) (by omega) (by omega) (by omega) (by omega)
  have m2 := mulB (A := 1000) (B := 100) (a := zl.1) (b := zp.2) (by omega) (by omega) (by omega) (by omega)
  rw [t_le (t_mul r1 l2 (by omega) (by omega)) (t_mul l1 r2 (by omega) (by omega))]
  by_cases hc : zl.1 * zp.2 < zp.1 * zl.2
  · rw [if_pos hc]
    exact ⟨fun h => by omega, fun h => by omega⟩
  · rw [if_neg hc]
    exact ⟨fun _ => rfl, fun _ => by omega⟩
set_option maxRecDepth 100000 in
set_option maxHeartbeats 4000000 in
theorem l_X2_nearestAlong {V : St} (hG : GOOD V) {p : Int32} {t w c d k : Nat} {l : List Nat} (ht : t ≤ 200) (hn : w < nv V 33 19) (hc : c < cls V w) (hz : 1 ≤ nv V 37 k) {σ0 : St} : ∀ (n i : Nat) (σ : St) (bt bu : Int32), i + n = l.length → vw σ = V → off22 σ0 σ → along V p t w c d k l σ → PK V p t w c k (neI V p t w c k l i) bt bu → Rn LAYC none RX2 cX2_nearestAlong 7 1 32 12 [some (.ref 26), some (.ref 4), some (.ref 22), some (.int (takV (neI V p t w c k l i))), some (.int bt), some (.int bu), some (.int (nI i))] [] σ (EI (fun v τ => v = takV (neI V p t w c k l l.length) ∧ vw τ = V ∧ off22 σ0 τ)) := by
  have hI := hG.1.1
  intro n
  induction n with
  | zero =>
    intro i σ bt bu hb hV hoff hal hpk
    have hln := hal.2.2.2.2
    refine r_iload (q := 14) dX2_nearestAlong_12 rfl rfl ?_
    refine r_aload_n (q := 15) dX2_nearestAlong_14 rfl rfl ?_
    refine gX2_9 (q := 18) dX2_nearestAlong_15 rfl ?_
    refine r_as hal.1.1 ?_
    refine r_icmp_geN (t := 92) (q := 21) dX2_nearestAlong_18 (by decide) rfl (by omega) (by omega) (fun c18 => ?_) (fun c18 => absurd (by omega) c18)
    refine r_iload_n (q := 93) dX2_nearestAlong_92 rfl rfl ?_
    exact r_retI dX2_nearestAlong_93 ⟨by rw [show l.length = i by omega], hV, hoff⟩
  | succ n ih =>
    intro i σ bt bu hb hV hoff hal hpk
    have hln := hal.2.2.2.2
    refine r_iload (q := 14) dX2_nearestAlong_12 rfl rfl ?_
    refine r_aload_n (q := 15) dX2_nearestAlong_14 rfl rfl ?_
    refine gX2_9 (q := 18) dX2_nearestAlong_15 rfl ?_
    refine r_as hal.1.1 ?_
    refine r_icmp_geN (t := 92) (q := 21) dX2_nearestAlong_18 (by decide) rfl (by omega) (by omega) (fun c18 => absurd c18 (by omega)) (fun c18 => ?_)
    refine r_aload_n (q := 22) dX2_nearestAlong_21 rfl rfl ?_
    refine r_aload_n (q := 23) dX2_nearestAlong_22 rfl rfl ?_
    refine r_aload_n (q := 24) dX2_nearestAlong_23 rfl rfl ?_
    refine gX2_15 (q := 27) dX2_nearestAlong_24 rfl ?_
    refine r_iload (q := 29) dX2_nearestAlong_27 rfl rfl ?_
    refine r_iald (q := 30) dX2_nearestAlong_29 rfl LA27 (by omega) (by decide) ?_
    refine r_as (hal.1.2 i (by omega)).1 ?_
    refine r_aload_n (q := 31) dX2_nearestAlong_30 rfl rfl ?_
    refine gX2_19 (q := 34) dX2_nearestAlong_31 rfl ?_
    refine r_iload (q := 36) dX2_nearestAlong_34 rfl rfl ?_
    refine r_iald (q := 37) dX2_nearestAlong_36 rfl LA28 (by omega) (by decide) ?_
    refine r_as (hal.1.2 i (by omega)).2.1 ?_
    refine r_cI3 (q := 40) vX2_39 dX2_nearestAlong_37 rfl LYX0 rfl (Nat.le_of_ble_eq_true rfl) (by decide) (by decide) (c_X0_meets _ V hV hI (l.getD i 0) (topP V p t (l.getD i 0)) (hal.2.2.2.1 _ (gd_mem (by omega))) (topP_le hI p ht _)) ?_
    rintro _ s36 ⟨rfl, hV36, o36, l36⟩
    obtain ⟨em, elr⟩ := meet_pt (b := l.getD i 0) (t := topP V p t (l.getD i 0)) hG hn hc (topP_le hI p ht _) hz hal.2.1 hal.2.2.1
    rw [em]
    have al36 := along_c hal o36
    have of36 : off22 σ0 s36 := fun k hk => (o36 k hk).trans (hoff k hk)
    refine r_if_eqN (t := 86) (q := 43) dX2_nearestAlong_40 (by decide) rfl (by have := hitn_le V w c k (l.getD i 0) (topP V p t (l.getD i 0)); omega) (fun c40 => ?_) (fun c40 => ?_)
    · refine r_iinc (q := 89) (v := nI (i + 1)) dX2_nearestAlong_86 rfl rfl (by rw [show Int32.ofInt 1 = nI 1 from rfl]; exact nI_add _ _) ?_
      refine r_goto (q := 12) dX2_nearestAlong_89 (by decide) ?_
      have e : neI V p t w c k l (i + 1) = neI V p t w c k l i := by rw [neI_s (by omega), nef_0 c40]
      have ih2 := ih (i + 1) _ bt bu (by omega) hV36 of36 al36 (by rw [e]; exact hpk)
      rw [e] at ih2
      exact ih2
    · have hh1 : hitn V w c k (l.getD i 0) (topP V p t (l.getD i 0)) = 1 := by have := hitn_le V w c k (l.getD i 0) (topP V p t (l.getD i 0)); omega
      have l36 := l36 (by rw [em]; exact hh1)
      have a1 : s36 22 3 = (mL σ V (l.getD i 0) (topP V p t (l.getD i 0)) 3).1 := congrArg Prod.fst l36
      have a2 : s36 22 4 = (mL σ V (l.getD i 0) (topP V p t (l.getD i 0)) 3).2 := congrArg Prod.snd l36
      refine r_iload_n (q := 44) dX2_nearestAlong_43 rfl rfl ?_
      refine r_bipush (q := 46) (v := -9) dX2_nearestAlong_44 rfl (by decide) ?_
      refine r_icmp_eq (t := 66) (q := 49) dX2_nearestAlong_46 (by decide) rfl (fun c46 => ?_) (fun c46 => ?_)
      · have ho := takV_none (fun x hx => by have := hal.2.2.2.1 x (neI_in i (by omega) hx); omega) c46
        refine r_aload_n (q := 67) dX2_nearestAlong_66 rfl rfl ?_
        refine gX2_15 (q := 70) dX2_nearestAlong_67 rfl ?_
        refine r_iload (q := 72) dX2_nearestAlong_70 rfl rfl ?_
        refine r_iald (q := 73) dX2_nearestAlong_72 rfl LA27 (by omega) (by decide) ?_
        refine r_as (al36.1.2 i (by omega)).1 ?_
        refine r_istore_n (q := 74) dX2_nearestAlong_73 rfl (Nat.le_of_ble_eq_true rfl) ?_
        refine r_aload_n (q := 75) dX2_nearestAlong_74 rfl rfl ?_
        refine gX2_45 (q := 78) dX2_nearestAlong_75 rfl ?_
        refine r_as a1 ?_
        refine r_istore (q := 80) dX2_nearestAlong_78 rfl (Nat.le_of_ble_eq_true rfl) ?_
        refine r_aload_n (q := 81) dX2_nearestAlong_80 rfl rfl ?_
        refine gX2_48 (q := 84) dX2_nearestAlong_81 rfl ?_
        refine r_as a2 ?_
        refine r_istore (q := 86) dX2_nearestAlong_84 rfl (Nat.le_of_ble_eq_true rfl) ?_
        refine r_iinc (q := 89) (v := nI (i + 1)) dX2_nearestAlong_86 rfl rfl (by rw [show Int32.ofInt 1 = nI 1 from rfl]; exact nI_add _ _) ?_
        refine r_goto (q := 12) dX2_nearestAlong_89 (by decide) ?_
        have e : neI V p t w c k l (i + 1) = some (l.getD i 0) := by rw [neI_s (by omega), ho, nef_n c40]
        have hpk2 : PK V p t w c k (neI V p t w c k l (i + 1)) (mL σ V (l.getD i 0) (topP V p t (l.getD i 0)) 3).1 (mL σ V (l.getD i 0) (topP V p t (l.getD i 0)) 3).2 := by
          rw [e]
          intro y hy
          cases hy
          exact elr
        have ih2 := ih (i + 1) _ _ _ (by omega) hV36 of36 al36 hpk2
        rw [e] at ih2
        exact ih2
      · obtain ⟨x, ho⟩ := takV_some c46
        have hp1 := hpk x ho
        refine r_aload_n (q := 50) dX2_nearestAlong_49 rfl rfl ?_
        refine gX2_45 (q := 53) dX2_nearestAlong_50 rfl ?_
        refine r_as a1 ?_
        refine r_iload (q := 55) dX2_nearestAlong_53 rfl rfl ?_
        refine r_imul (q := 56) dX2_nearestAlong_55 rfl ?_
        refine r_iload (q := 58) dX2_nearestAlong_56 rfl rfl ?_
        refine r_aload_n (q := 59) dX2_nearestAlong_58 rfl rfl ?_
        refine gX2_48 (q := 62) dX2_nearestAlong_59 rfl ?_
        refine r_as a2 ?_
        refine r_imul (q := 63) dX2_nearestAlong_62 rfl ?_
        refine r_icmp_ge (t := 86) (q := 66) dX2_nearestAlong_63 (by decide) rfl (fun c63 => ?_) (fun c63 => ?_)
        · refine r_iinc (q := 89) (v := nI (i + 1)) dX2_nearestAlong_86 rfl rfl (by rw [show Int32.ofInt 1 = nI 1 from rfl]; exact nI_add _ _) ?_
          refine r_goto (q := 12) dX2_nearestAlong_89 (by decide) ?_
          have e : neI V p t w c k l (i + 1) = neI V p t w c k l i := by
            rw [neI_s (by omega), ho, nef_s c40, if_pos ((nearP_key elr hp1).mp c63)]
          have ih2 := ih (i + 1) _ bt bu (by omega) hV36 of36 al36 (by rw [e]; exact hpk)
          rw [e] at ih2
          exact ih2
        · refine r_aload_n (q := 67) dX2_nearestAlong_66 rfl rfl ?_
          refine gX2_15 (q := 70) dX2_nearestAlong_67 rfl ?_
          refine r_iload (q := 72) dX2_nearestAlong_70 rfl rfl ?_
          refine r_iald (q := 73) dX2_nearestAlong_72 rfl LA27 (by omega) (by decide) ?_
          refine r_as (al36.1.2 i (by omega)).1 ?_
          refine r_istore_n (q := 74) dX2_nearestAlong_73 rfl (Nat.le_of_ble_eq_true rfl) ?_
          refine r_aload_n (q := 75) dX2_nearestAlong_74 rfl rfl ?_
          refine gX2_45 (q := 78) dX2_nearestAlong_75 rfl ?_
          refine r_as a1 ?_
          refine r_istore (q := 80) dX2_nearestAlong_78 rfl (Nat.le_of_ble_eq_true rfl) ?_
          refine r_aload_n (q := 81) dX2_nearestAlong_80 rfl rfl ?_
          refine gX2_48 (q := 84) dX2_nearestAlong_81 rfl ?_
          refine r_as a2 ?_
          refine r_istore (q := 86) dX2_nearestAlong_84 rfl (Nat.le_of_ble_eq_true rfl) ?_
          refine r_iinc (q := 89) (v := nI (i + 1)) dX2_nearestAlong_86 rfl rfl (by rw [show Int32.ofInt 1 = nI 1 from rfl]; exact nI_add _ _) ?_
          refine r_goto (q := 12) dX2_nearestAlong_89 (by decide) ?_
          have e : neI V p t w c k l (i + 1) = some (l.getD i 0) := by rw [neI_s (by omega), ho, nef_s c40, if_neg (fun h => c63 ((nearP_key elr hp1).mpr h))]
          have hpk2 : PK V p t w c k (neI V p t w c k l (i + 1)) (mL σ V (l.getD i 0) (topP V p t (l.getD i 0)) 3).1 (mL σ V (l.getD i 0) (topP V p t (l.getD i 0)) 3).2 := by
            rw [e]
            intro y hy
            cases hy
            exact elr
          have ih2 := ih (i + 1) _ _ _ (by omega) hV36 of36 al36 hpk2
          rw [e] at ih2
          exact ih2
set_option maxRecDepth 100000 in
set_option maxHeartbeats 4000000 in
theorem c_X2_nearestAlong (σ0 V : St) (hV : vw σ0 = V) (hG : GOOD V) (p : Int32) (t w c d k : Nat) (l : List Nat) (ht : t ≤ 200) (hn : w < nv V 33 19) (hc : c < cls V w) (hz : 1 ≤ nv V 37 k) (hal : along V p t w c d k l σ0) : Cl LAYC yX2_nearestAlong cX2_nearestAlong 7 (some .int) 1 32 [.ref 26, .ref 4, .ref 22] σ0 (EI (fun v τ => v = takV (neI V p t w c k l l.length) ∧ vw τ = V ∧ off22 σ0 τ)) := by
  refine Cl.of 4 rfl rfl EI.ok ?_
  show Rn LAYC none RX2 _ _ _ _ 0 [some (.ref 26), some (.ref 4), some (.ref 22), none, none, none, none] [] _ _
  refine r_bipush (q := 2) (v := -9) dX2_nearestAlong_0 rfl (by decide) ?_
  refine r_istore_n (q := 3) dX2_nearestAlong_2 rfl (Nat.le_of_ble_eq_true rfl) ?_
  refine r_iconst (q := 4) (v := nI 0) dX2_nearestAlong_3 rfl (by decide) ?_
  refine r_istore (q := 6) dX2_nearestAlong_4 rfl (Nat.le_of_ble_eq_true rfl) ?_
  refine r_iconst (q := 7) (v := nI 1) dX2_nearestAlong_6 rfl (by decide) ?_
  refine r_istore (q := 9) dX2_nearestAlong_7 rfl (Nat.le_of_ble_eq_true rfl) ?_
  refine r_iconst (q := 10) (v := nI 0) dX2_nearestAlong_9 rfl (by decide) ?_
  refine r_istore (q := 12) dX2_nearestAlong_10 rfl (Nat.le_of_ble_eq_true rfl) ?_
  exact l_X2_nearestAlong hG ht hn hc hz l.length 0 _ _ _ (Nat.zero_add _) hV (fun _ _ => rfl) hal (fun x hx => by cases hx)
