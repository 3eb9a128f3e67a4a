/-! ===== what changes the class ===== -/
theorem r_nameQ {ly : List LyE} {sc : Option (Nat × (Nat → Int32))} {own : String} {cc : ByteArray} {nL fr lo pc k j : Nat} {x : Int32} {L : List (Option Value)} {st : List Value} {σ V : St} {r : Nat → Int32} {E : Option Int32 → St → Prop} (hV : vw σ = V) (h32 : σ 32 = r) (hs : scr k j = false) (hk : ¬ 32 = k) (K : ∀ τ, vw τ = wr V k j x → τ 32 = r → Rn ly sc own cc nL fr lo pc L st τ E) : Rn ly sc own cc nL fr lo pc L st (va_up σ k (upd (σ k) j x)) E := K _ (vw_w hV hs) ((if_neg hk).trans h32)
def none32 (τ : St) : Prop := ∀ i, i < 160 → τ 32 i = -1
theorem none32.c {σ τ : St} (h : none32 σ) (e : τ 32 = σ 32) : none32 τ := fun i hi => by rw [e]; exact h i hi
def finO (c : Int32) (P : Prop) (V τ : St) : Prop := if c = 0 then P else fin (rfB V c) τ
theorem go_bad {c k val : Int32} {P : Prop} {V τ : St} (hc : c = k) (hk : k ≠ 0) (h : vw τ = rfB V k) (hJ : J V τ) : k = resO c val ∧ finO c P V τ := by
  subst hc
  refine ⟨(if_neg hk).symm, ?_⟩
  rw [finO, if_neg hk]
  exact ⟨h, rfB_J hJ⟩
theorem go_ok {c v val : Int32} {P : Prop} {V τ : St} (hc : c = 0) (hv : v = val) (h : P) : v = resO c val ∧ finO c P V τ := by
  refine ⟨hv.trans (if_pos hc).symm, ?_⟩
  rw [finO, if_pos hc]
  exact h
/-- DAYS 0 .. n - 1 of a row of eighths -/
def thrW (V : St) (b : Nat) (x : Int32) (n : Nat) : St := fun k i => if k = 9 ∧ b * 8 ≤ i ∧ i < b * 8 + n then x else V k i
theorem thrW_0 (V : St) (b : Nat) (x : Int32) : thrW V b x 0 = V := by
  funext k i
  exact if_neg (by omega)
theorem thrW_s (V : St) (b : Nat) (x : Int32) (n : Nat) : wr (thrW V b x n) 9 (b * 8 + n) x = thrW V b x (n + 1) := by
  funext k i
  rw [wr_at]
  unfold thrW
  by_cases h1 : k = 9 ∧ i = b * 8 + n
  · rw [if_pos h1, if_pos (by omega)]
  · rw [if_neg h1]
    by_cases h2 : k = 9 ∧ b * 8 ≤ i ∧ i < b * 8 + n
    · rw [if_pos h2, if_pos (by omega)]
    · rw [if_neg h2, if_neg (by omega)]
set_option maxRecDepth 100000 in
set_option maxHeartbeats 4000000 in
theorem c_X3_add (σ V : St) (hV : vw σ = V) (hG : GOOD V) (d : Nat) (x y z : Int32) (hd : d < 8) (hm : nv V 2 d < 24) : Cl LAYC yX3_add cX3_add 7 (some .int) 0 0 [.ref 1, .int (nI d), .int x, .int y, .int z] σ (EI (fun v τ => v = nI (nv V 34 d) ∧ vw τ = wr (wr (wr (wr V 3 ((d * 24 + nv V 2 d) * 3 + 0) x) 3 ((d * 24 + nv V 2 d) * 3 + 1) y) 3 ((d * 24 + nv V 2 d) * 3 + 2) z) 2 d (nI (nv V 2 d + 1)) ∧ τ 32 = σ 32)) := by
  have hI := hG.1.1
  have hR := hG.2
  refine Cl.of 2 rfl rfl EI.ok ?_
  show Rn LAYC none RX3 _ _ _ _ 0 [some (.ref 1), some (.int (nI d)), some (.int x), some (.int y), some (.int z), none, none] [] _ _
  refine r_aload_n (q := 1) dX3_add_0 rfl rfl ?_
  refine gX3_9 (q := 4) dX3_add_1 rfl ?_
  refine r_iload_n (q := 5) dX3_add_4 rfl rfl ?_
  refine r_ialdV (q := 6) hV hI dX3_add_5 rfl LA2 rfl rfl (by decide) (by omega) ?_
  refine r_istore (q := 8) dX3_add_6 rfl (Nat.le_of_ble_eq_true rfl) ?_
  refine r_iload_n (q := 9) dX3_add_8 rfl rfl ?_
  refine r_bipush (q := 11) (v := nI 24) dX3_add_9 rfl (by decide) ?_
  refine r_imulN (q := 12) dX3_add_11 rfl ?_
  refine r_iload (q := 14) dX3_add_12 rfl rfl ?_
  refine r_iaddN (q := 15) dX3_add_14 rfl ?_
  refine r_iconst (q := 16) (v := nI 3) dX3_add_15 rfl (by decide) ?_
  refine r_imulN (q := 17) dX3_add_16 rfl ?_
  refine r_istore (q := 19) dX3_add_17 rfl (Nat.le_of_ble_eq_true rfl) ?_
  refine r_aload_n (q := 20) dX3_add_19 rfl rfl ?_
  refine gX3_15 (q := 23) dX3_add_20 rfl ?_
  refine r_iload (q := 25) dX3_add_23 rfl rfl ?_
  refine r_iconst (q := 26) (v := nI 0) dX3_add_25 rfl (by decide) ?_
  refine r_iaddN (q := 27) dX3_add_26 rfl ?_
  refine r_iload_n (q := 28) dX3_add_27 rfl rfl ?_
  refine r_iast (q := 29) dX3_add_28 rfl LA3 (by omega) (by decide) (r_nameQ hV rfl rfl (by decide) (fun s28 hV28 q28 => ?_))
  refine r_aload_n (q := 30) dX3_add_29 rfl rfl ?_
  refine gX3_15 (q := 33) dX3_add_30 rfl ?_
  refine r_iload (q := 35) dX3_add_33 rfl rfl ?_
  refine r_iconst (q := 36) (v := nI 1) dX3_add_35 rfl (by decide) ?_
  refine r_iaddN (q := 37) dX3_add_36 rfl ?_
  refine r_iload_n (q := 38) dX3_add_37 rfl rfl ?_
  refine r_iast (q := 39) dX3_add_38 rfl LA3 (by omega) (by decide) (r_nameQ hV28 q28 rfl (by decide) (fun s38 hV38 q38 => ?_))
  refine r_aload_n (q := 40) dX3_add_39 rfl rfl ?_
  refine gX3_15 (q := 43) dX3_add_40 rfl ?_
  refine r_iload (q := 45) dX3_add_43 rfl rfl ?_
  refine r_iconst (q := 46) (v := nI 2) dX3_add_45 rfl (by decide) ?_
  refine r_iaddN (q := 47) dX3_add_46 rfl ?_
  refine r_iload (q := 49) dX3_add_47 rfl rfl ?_
  refine r_iast (q := 50) dX3_add_49 rfl LA3 (by omega) (by decide) (r_nameQ hV38 q38 rfl (by decide) (fun s49 hV49 q49 => ?_))
  refine r_aload_n (q := 51) dX3_add_50 rfl rfl ?_
  refine gX3_9 (q := 54) dX3_add_51 rfl ?_
  refine r_iload_n (q := 55) dX3_add_54 rfl rfl ?_
  refine r_iload (q := 57) dX3_add_55 rfl rfl ?_
  refine r_iconst (q := 58) (v := nI 1) dX3_add_57 rfl (by decide) ?_
  refine r_iaddN (q := 59) dX3_add_58 rfl ?_
  refine r_iast (q := 60) dX3_add_59 rfl LA2 (by omega) (by decide) (r_nameQ hV49 q49 rfl (by decide) (fun s59 hV59 q59 => ?_))
  refine r_iload (q := 62) dX3_add_60 rfl rfl ?_
  exact r_retI dX3_add_62 ⟨by rw [hR.mn d], hV59, q59⟩
set_option maxRecDepth 100000 in
set_option maxHeartbeats 4000000 in
theorem l_X1_add {V0 : St} {b : Nat} {k x0 x1 y0 y1 f t : Int32} {r : Nat → Int32} (hb : b < 40) : ∀ (n d : Nat) (σ : St), d + n = 8 → vw σ = thrW V0 b (if k = nI 2 then nI 8 else nI 0) d → σ 32 = r → Rn LAYC none RX1 cX1_add 10 0 0 120 [some (.ref 4), some (.int k), some (.int x0), some (.int x1), some (.int y0), some (.int y1), some (.int f), some (.int t), some (.int (nI b)), some (.int (nI d))] [] σ (EI (fun v τ => v = nI b ∧ vw τ = wr (thrW V0 b (if k = nI 2 then nI 8 else nI 0) 8) 4 0 (nI (b + 1)) ∧ τ 32 = r)) := by
  intro n
  induction n with
  | zero =>
    intro d σ hd hV h32
    refine r_iload (q := 122) dX1_add_120 rfl rfl ?_
    refine r_bipush (q := 124) (v := nI 8) dX1_add_122 rfl (by decide) ?_
    refine r_icmp_geN (t := 157) (q := 127) dX1_add_124 (by decide) rfl (by omega) (by omega) (fun c124 => ?_) (fun c124 => absurd (by omega) c124)
    refine r_aload_n (q := 158) dX1_add_157 rfl rfl ?_
    refine r_iload (q := 160) dX1_add_158 rfl rfl ?_
    refine r_iconst (q := 161) (v := nI 1) dX1_add_160 rfl (by decide) ?_
    refine r_iaddN (q := 162) dX1_add_161 rfl ?_
    refine pX1_9 (q := 165) dX1_add_162 rfl (r_nameQ hV rfl rfl (by decide) (fun s162 hV162 q162 => ?_))
    refine r_iload (q := 167) dX1_add_165 rfl rfl ?_
    exact r_retI dX1_add_167 ⟨rfl, by rw [hV162, show d = 8 by omega], q162.trans h32⟩
  | succ n ih =>
    intro d σ hd hV h32
    refine r_iload (q := 122) dX1_add_120 rfl rfl ?_
    refine r_bipush (q := 124) (v := nI 8) dX1_add_122 rfl (by decide) ?_
    refine r_icmp_geN (t := 157) (q := 127) dX1_add_124 (by decide) rfl (by omega) (by omega) (fun c124 => absurd c124 (by omega)) (fun c124 => ?_)
    refine r_aload_n (q := 128) dX1_add_127 rfl rfl ?_
    refine gX1_28 (q := 131) dX1_add_128 rfl ?_
    refine r_iload (q := 133) dX1_add_131 rfl rfl ?_
    refine r_bipush (q := 135) (v := nI 8) dX1_add_133 rfl (by decide) ?_
    refine r_imulN (q := 136) dX1_add_135 rfl ?_
    refine r_iload (q := 138) dX1_add_136 rfl rfl ?_
    refine r_iaddN (q := 139) dX1_add_138 rfl ?_
    refine r_iload_n (q := 140) dX1_add_139 rfl rfl ?_
    refine r_iconst (q := 141) (v := nI 2) dX1_add_140 rfl (by decide) ?_
    refine r_icmp_ne (t := 149) (q := 144) dX1_add_141 (by decide) rfl (fun c141 => ?_) (fun c141 => ?_)
    · refine r_iconst (q := 150) (v := nI 0) dX1_add_149 rfl (by decide) ?_
      refine r_iast (q := 151) dX1_add_150 rfl LA9 (by omega) (by decide) (r_nameQ hV rfl rfl (by decide) (fun s150 hV150 q150 => ?_))
      refine r_iinc (q := 154) (v := nI (d + 1)) dX1_add_151 rfl rfl (by rw [show Int32.ofInt 1 = nI 1 from rfl]; exact nI_add _ _) ?_
      refine r_goto (q := 120) dX1_add_154 (by decide) ?_
      exact ih (d + 1) _ (by omega) (by rw [hV150, ← thrW_s, if_neg c141]) (q150.trans h32)
    · refine r_bipush (q := 146) (v := nI 8) dX1_add_144 rfl (by decide) ?_
      refine r_goto (q := 150) dX1_add_146 (by decide) ?_
      refine r_iast (q := 151) dX1_add_150 rfl LA9 (by omega) (by decide) (r_nameQ hV rfl rfl (by decide) (fun s150 hV150 q150 => ?_))
      refine r_iinc (q := 154) (v := nI (d + 1)) dX1_add_151 rfl rfl (by rw [show Int32.ofInt 1 = nI 1 from rfl]; exact nI_add _ _) ?_
      refine r_goto (q := 120) dX1_add_154 (by decide) ?_
      exact ih (d + 1) _ (by omega) (by rw [hV150, ← thrW_s, if_pos c141]) (q150.trans h32)
def blkC (V : St) (k x0 x1 y0 y1 f t : Int32) : St := wr (thrW (wr (wr (wr (wr (wr (wr (wr (wr (wr V 5 (nv V 4 0) k) 6 ((nv V 4 0) * 3 + 0) x0) 7 ((nv V 4 0) * 3 + 0) x1) 6 ((nv V 4 0) * 3 + 1) y0) 7 ((nv V 4 0) * 3 + 1) y1) 6 ((nv V 4 0) * 3 + 2) f) 7 ((nv V 4 0) * 3 + 2) t) 8 (nv V 4 0) (nI 200)) 10 (nv V 4 0) (if k = nI 3 then nI 0 else nI 1)) (nv V 4 0) (if k = nI 2 then nI 8 else nI 0) 8) 4 0 (nI (nv V 4 0 + 1))
set_option maxRecDepth 100000 in
set_option maxHeartbeats 4000000 in
theorem c_X1_add (σ V : St) (hV : vw σ = V) (hG : GOOD V) (k x0 x1 y0 y1 f t : Int32) (hb : nv V 4 0 < 40) : Cl LAYC yX1_add cX1_add 10 (some .int) 0 0 [.ref 4, .int k, .int x0, .int x1, .int y0, .int y1, .int f, .int t] σ (EI (fun v τ => v = nI (nv V 33 7) ∧ vw τ = blkC V k x0 x1 y0 y1 f t ∧ τ 32 = σ 32)) := by
  have hI := hG.1.1
  have hR := hG.2
  refine Cl.of 2 rfl rfl EI.ok ?_
  show Rn LAYC none RX1 _ _ _ _ 0 [some (.ref 4), some (.int k), some (.int x0), some (.int x1), some (.int y0), some (.int y1), some (.int f), some (.int t), none, none] [] _ _
  refine r_aload_n (q := 1) dX1_add_0 rfl rfl ?_
  refine gvX1_9 (q := 4) hV hI dX1_add_1 rfl ?_
  refine r_istore (q := 6) dX1_add_4 rfl (Nat.le_of_ble_eq_true rfl) ?_
  refine r_aload_n (q := 7) dX1_add_6 rfl rfl ?_
  refine gX1_15 (q := 10) dX1_add_7 rfl ?_
  refine r_iload (q := 12) dX1_add_10 rfl rfl ?_
  refine r_iload_n (q := 13) dX1_add_12 rfl rfl ?_
  refine r_iast (q := 14) dX1_add_13 rfl LA5 (by omega) (by decide) (r_nameQ hV rfl rfl (by decide) (fun s13 hV13 q13 => ?_))
  refine r_aload_n (q := 15) dX1_add_14 rfl rfl ?_
  refine gX1_19 (q := 18) dX1_add_15 rfl ?_
  refine r_iload (q := 20) dX1_add_18 rfl rfl ?_
  refine r_iconst (q := 21) (v := nI 3) dX1_add_20 rfl (by decide) ?_
  refine r_imulN (q := 22) dX1_add_21 rfl ?_
  refine r_iconst (q := 23) (v := nI 0) dX1_add_22 rfl (by decide) ?_
  refine r_iaddN (q := 24) dX1_add_23 rfl ?_
  refine r_iload_n (q := 25) dX1_add_24 rfl rfl ?_
  refine r_iast (q := 26) dX1_add_25 rfl LA6 (by omega) (by decide) (r_nameQ hV13 q13 rfl (by decide) (fun s25 hV25 q25 => ?_))
  refine r_aload_n (q := 27) dX1_add_26 rfl rfl ?_
  refine gX1_22 (q := 30) dX1_add_27 rfl ?_
  refine r_iload (q := 32) dX1_add_30 rfl rfl ?_
  refine r_iconst (q := 33) (v := nI 3) dX1_add_32 rfl (by decide) ?_
  refine r_imulN (q := 34) dX1_add_33 rfl ?_
  refine r_iconst (q := 35) (v := nI 0) dX1_add_34 rfl (by decide) ?_
  refine r_iaddN (q := 36) dX1_add_35 rfl ?_
  refine r_iload_n (q := 37) dX1_add_36 rfl rfl ?_
  refine r_iast (q := 38) dX1_add_37 rfl LA7 (by omega) (by decide) (r_nameQ hV25 q25 rfl (by decide) (fun s37 hV37 q37 => ?_))
  refine r_aload_n (q := 39) dX1_add_38 rfl rfl ?_
  refine gX1_19 (q := 42) dX1_add_39 rfl ?_
  refine r_iload (q := 44) dX1_add_42 rfl rfl ?_
  refine r_iconst (q := 45) (v := nI 3) dX1_add_44 rfl (by decide) ?_
  refine r_imulN (q := 46) dX1_add_45 rfl ?_
  refine r_iconst (q := 47) (v := nI 1) dX1_add_46 rfl (by decide) ?_
  refine r_iaddN (q := 48) dX1_add_47 rfl ?_
  refine r_iload (q := 50) dX1_add_48 rfl rfl ?_
  refine r_iast (q := 51) dX1_add_50 rfl LA6 (by omega) (by decide) (r_nameQ hV37 q37 rfl (by decide) (fun s50 hV50 q50 => ?_))
  refine r_aload_n (q := 52) dX1_add_51 rfl rfl ?_
  refine gX1_22 (q := 55) dX1_add_52 rfl ?_
  refine r_iload (q := 57) dX1_add_55 rfl rfl ?_
  refine r_iconst (q := 58) (v := nI 3) dX1_add_57 rfl (by decide) ?_
  refine r_imulN (q := 59) dX1_add_58 rfl ?_
  refine r_iconst (q := 60) (v := nI 1) dX1_add_59 rfl (by decide) ?_
  refine r_iaddN (q := 61) dX1_add_60 rfl ?_
  refine r_iload (q := 63) dX1_add_61 rfl rfl ?_
  refine r_iast (q := 64) dX1_add_63 rfl LA7 (by omega) (by decide) (r_nameQ hV50 q50 rfl (by decide) (fun s63 hV63 q63 => ?_))
  refine r_aload_n (q := 65) dX1_add_64 rfl rfl ?_
  refine gX1_19 (q := 68) dX1_add_65 rfl ?_
  refine r_iload (q := 70) dX1_add_68 rfl rfl ?_
  refine r_iconst (q := 71) (v := nI 3) dX1_add_70 rfl (by decide) ?_
  refine r_imulN (q := 72) dX1_add_71 rfl ?_
  refine r_iconst (q := 73) (v := nI 2) dX1_add_72 rfl (by decide) ?_
  refine r_iaddN (q := 74) dX1_add_73 rfl ?_
  refine r_iload (q := 76) dX1_add_74 rfl rfl ?_
  refine r_iast (q := 77) dX1_add_76 rfl LA6 (by omega) (by decide) (r_nameQ hV63 q63 rfl (by decide) (fun s76 hV76 q76 => ?_))
  refine r_aload_n (q := 78) dX1_add_77 rfl rfl ?_
  refine gX1_22 (q := 81) dX1_add_78 rfl ?_
  refine r_iload (q := 83) dX1_add_81 rfl rfl ?_
  refine r_iconst (q := 84) (v := nI 3) dX1_add_83 rfl (by decide) ?_
  refine r_imulN (q := 85) dX1_add_84 rfl ?_
  refine r_iconst (q := 86) (v := nI 2) dX1_add_85 rfl (by decide) ?_
  refine r_iaddN (q := 87) dX1_add_86 rfl ?_
  refine r_iload (q := 89) dX1_add_87 rfl rfl ?_
  refine r_iast (q := 90) dX1_add_89 rfl LA7 (by omega) (by decide) (r_nameQ hV76 q76 rfl (by decide) (fun s89 hV89 q89 => ?_))
  refine r_aload_n (q := 91) dX1_add_90 rfl rfl ?_
  refine gX1_25 (q := 94) dX1_add_91 rfl ?_
  refine r_iload (q := 96) dX1_add_94 rfl rfl ?_
  refine r_sipush (q := 99) (v := nI 200) dX1_add_96 rfl (by decide) ?_
  refine r_iast (q := 100) dX1_add_99 rfl LA8 (by omega) (by decide) (r_nameQ hV89 q89 rfl (by decide) (fun s99 hV99 q99 => ?_))
  refine r_aload_n (q := 101) dX1_add_100 rfl rfl ?_
  refine gX1_31 (q := 104) dX1_add_101 rfl ?_
  refine r_iload (q := 106) dX1_add_104 rfl rfl ?_
  refine r_iload_n (q := 107) dX1_add_106 rfl rfl ?_
  refine r_iconst (q := 108) (v := nI 3) dX1_add_107 rfl (by decide) ?_
  refine r_icmp_eq (t := 115) (q := 111) dX1_add_108 (by decide) rfl (fun c108 => ?_) (fun c108 => ?_)
  · refine r_iconst (q := 116) (v := nI 0) dX1_add_115 rfl (by decide) ?_
    refine r_zast (q := 117) dX1_add_116 rfl LA10 (by omega) (by decide) (by first | exact Or.inl rfl | exact Or.inr rfl) (r_nameQ hV99 q99 rfl (by decide) (fun s116 hV116 q116 => ?_))
    refine r_iconst (q := 118) (v := nI 0) dX1_add_117 rfl (by decide) ?_
    refine r_istore (q := 120) dX1_add_118 rfl (Nat.le_of_ble_eq_true rfl) ?_
    refine (l_X1_add hb 8 0 _ (by omega) (thrW_0 _ _ _).symm q116).mono ?_
    rintro r τ ⟨v, rfl, rfl, h, h2⟩
    exact ⟨_, rfl, by rw [hR.nb], by rw [h, hV116, blkC, if_pos c108], h2⟩
  · refine r_iconst (q := 112) (v := nI 1) dX1_add_111 rfl (by decide) ?_
    refine r_goto (q := 116) dX1_add_112 (by decide) ?_
    refine r_zast (q := 117) dX1_add_116 rfl LA10 (by omega) (by decide) (by first | exact Or.inl rfl | exact Or.inr rfl) (r_nameQ hV99 q99 rfl (by decide) (fun s116 hV116 q116 => ?_))
    refine r_iconst (q := 118) (v := nI 0) dX1_add_117 rfl (by decide) ?_
    refine r_istore (q := 120) dX1_add_118 rfl (Nat.le_of_ble_eq_true rfl) ?_
    refine (l_X1_add hb 8 0 _ (by omega) (thrW_0 _ _ _).symm q116).mono ?_
    rintro r τ ⟨v, rfl, rfl, h, h2⟩
    exact ⟨_, rfl, by rw [hR.nb], by rw [h, hV116, blkC, if_neg c108], h2⟩
def winC (V : St) (s a ua ub za zb : Int32) : St := wr (wr (wr (wr (wr (wr (wr (wr V 13 (nv V 12 0) s) 14 (nv V 12 0) (if nI 2 ≤ s then nI 1 else nI 0)) 15 (nv V 12 0) a) 16 (nv V 12 0) ua) 17 (nv V 12 0) za) 18 (nv V 12 0) (ub - ua)) 19 (nv V 12 0) (zb - za)) 12 0 (nI (nv V 12 0 + 1))
set_option maxRecDepth 100000 in
set_option maxHeartbeats 4000000 in
theorem c_X4_add (σ V : St) (hV : vw σ = V) (hG : GOOD V) (s a ua ub za zb : Int32) (hw : nv V 12 0 < 20) : Cl LAYC yX4_add cX4_add 8 (some .int) 0 0 [.ref 12, .int s, .int a, .int ua, .int ub, .int za, .int zb] σ (EI (fun v τ => v = nI (nv V 33 19) ∧ vw τ = winC V s a ua ub za zb ∧ τ 32 = σ 32)) := by
  have hI := hG.1.1
  have hR := hG.2
  refine Cl.of 1 rfl rfl EI.ok ?_
  show Rn LAYC none RX4 _ _ _ _ 0 [some (.ref 12), some (.int s), some (.int a), some (.int ua), some (.int ub), some (.int za), some (.int zb), none] [] _ _
  refine r_aload_n (q := 1) dX4_add_0 rfl rfl ?_
  refine gvX4_9 (q := 4) hV hI dX4_add_1 rfl ?_
  refine r_istore (q := 6) dX4_add_4 rfl (Nat.le_of_ble_eq_true rfl) ?_
  refine r_aload_n (q := 7) dX4_add_6 rfl rfl ?_
  refine gX4_15 (q := 10) dX4_add_7 rfl ?_
  refine r_iload (q := 12) dX4_add_10 rfl rfl ?_
  refine r_iload_n (q := 13) dX4_add_12 rfl rfl ?_
  refine r_iast (q := 14) dX4_add_13 rfl LA13 (by omega) (by decide) (r_nameQ hV rfl rfl (by decide) (fun s13 hV13 q13 => ?_))
  refine r_aload_n (q := 15) dX4_add_14 rfl rfl ?_
  refine gX4_19 (q := 18) dX4_add_15 rfl ?_
  refine r_iload (q := 20) dX4_add_18 rfl rfl ?_
  refine r_iload_n (q := 21) dX4_add_20 rfl rfl ?_
  refine r_iconst (q := 22) (v := nI 2) dX4_add_21 rfl (by decide) ?_
  refine r_icmp_ge (t := 29) (q := 25) dX4_add_22 (by decide) rfl (fun c22 => ?_) (fun c22 => ?_)
  · refine r_iconst (q := 30) (v := nI 1) dX4_add_29 rfl (by decide) ?_
    refine r_iast (q := 31) dX4_add_30 rfl LA14 (by omega) (by decide) (r_nameQ hV13 q13 rfl (by decide) (fun s30 hV30 q30 => ?_))
    refine r_aload_n (q := 32) dX4_add_31 rfl rfl ?_
    refine gX4_22 (q := 35) dX4_add_32 rfl ?_
    refine r_iload (q := 37) dX4_add_35 rfl rfl ?_
    refine r_iload_n (q := 38) dX4_add_37 rfl rfl ?_
    refine r_iast (q := 39) dX4_add_38 rfl LA15 (by omega) (by decide) (r_nameQ hV30 q30 rfl (by decide) (fun s38 hV38 q38 => ?_))
    refine r_aload_n (q := 40) dX4_add_39 rfl rfl ?_
    refine gX4_25 (q := 43) dX4_add_40 rfl ?_
    refine r_iload (q := 45) dX4_add_43 rfl rfl ?_
    refine r_iload_n (q := 46) dX4_add_45 rfl rfl ?_
    refine r_iast (q := 47) dX4_add_46 rfl LA16 (by omega) (by decide) (r_nameQ hV38 q38 rfl (by decide) (fun s46 hV46 q46 => ?_))
    refine r_aload_n (q := 48) dX4_add_47 rfl rfl ?_
    refine gX4_28 (q := 51) dX4_add_48 rfl ?_
    refine r_iload (q := 53) dX4_add_51 rfl rfl ?_
    refine r_iload (q := 55) dX4_add_53 rfl rfl ?_
    refine r_iast (q := 56) dX4_add_55 rfl LA17 (by omega) (by decide) (r_nameQ hV46 q46 rfl (by decide) (fun s55 hV55 q55 => ?_))
    refine r_aload_n (q := 57) dX4_add_56 rfl rfl ?_
    refine gX4_31 (q := 60) dX4_add_57 rfl ?_
    refine r_iload (q := 62) dX4_add_60 rfl rfl ?_
    refine r_iload (q := 64) dX4_add_62 rfl rfl ?_
    refine r_iload_n (q := 65) dX4_add_64 rfl rfl ?_
    refine r_isub (q := 66) dX4_add_65 rfl ?_
    refine r_iast (q := 67) dX4_add_66 rfl LA18 (by omega) (by decide) (r_nameQ hV55 q55 rfl (by decide) (fun s66 hV66 q66 => ?_))
    refine r_aload_n (q := 68) dX4_add_67 rfl rfl ?_
    refine gX4_34 (q := 71) dX4_add_68 rfl ?_
    refine r_iload (q := 73) dX4_add_71 rfl rfl ?_
    refine r_iload (q := 75) dX4_add_73 rfl rfl ?_
    refine r_iload (q := 77) dX4_add_75 rfl rfl ?_
    refine r_isub (q := 78) dX4_add_77 rfl ?_
    refine r_iast (q := 79) dX4_add_78 rfl LA19 (by omega) (by decide) (r_nameQ hV66 q66 rfl (by decide) (fun s78 hV78 q78 => ?_))
    refine r_aload_n (q := 80) dX4_add_79 rfl rfl ?_
    refine r_iload (q := 82) dX4_add_80 rfl rfl ?_
    refine r_iconst (q := 83) (v := nI 1) dX4_add_82 rfl (by decide) ?_
    refine r_iaddN (q := 84) dX4_add_83 rfl ?_
    refine pX4_9 (q := 87) dX4_add_84 rfl (r_nameQ hV78 q78 rfl (by decide) (fun s84 hV84 q84 => ?_))
    refine r_iload (q := 89) dX4_add_87 rfl rfl ?_
    exact r_retI dX4_add_89 ⟨by rw [hR.nw], by rw [hV84, winC, if_pos c22], q84⟩
  · refine r_iconst (q := 26) (v := nI 0) dX4_add_25 rfl (by decide) ?_
    refine r_goto (q := 30) dX4_add_26 (by decide) ?_
    refine r_iast (q := 31) dX4_add_30 rfl LA14 (by omega) (by decide) (r_nameQ hV13 q13 rfl (by decide) (fun s30 hV30 q30 => ?_))
    refine r_aload_n (q := 32) dX4_add_31 rfl rfl ?_
    refine gX4_22 (q := 35) dX4_add_32 rfl ?_
    refine r_iload (q := 37) dX4_add_35 rfl rfl ?_
    refine r_iload_n (q := 38) dX4_add_37 rfl rfl ?_
    refine r_iast (q := 39) dX4_add_38 rfl LA15 (by omega) (by decide) (r_nameQ hV30 q30 rfl (by decide) (fun s38 hV38 q38 => ?_))
    refine r_aload_n (q := 40) dX4_add_39 rfl rfl ?_
    refine gX4_25 (q := 43) dX4_add_40 rfl ?_
    refine r_iload (q := 45) dX4_add_43 rfl rfl ?_
    refine r_iload_n (q := 46) dX4_add_45 rfl rfl ?_
    refine r_iast (q := 47) dX4_add_46 rfl LA16 (by omega) (by decide) (r_nameQ hV38 q38 rfl (by decide) (fun s46 hV46 q46 => ?_))
    refine r_aload_n (q := 48) dX4_add_47 rfl rfl ?_
    refine gX4_28 (q := 51) dX4_add_48 rfl ?_
    refine r_iload (q := 53) dX4_add_51 rfl rfl ?_
    refine r_iload (q := 55) dX4_add_53 rfl rfl ?_
    refine r_iast (q := 56) dX4_add_55 rfl LA17 (by omega) (by decide) (r_nameQ hV46 q46 rfl (by decide) (fun s55 hV55 q55 => ?_))
    refine r_aload_n (q := 57) dX4_add_56 rfl rfl ?_
    refine gX4_31 (q := 60) dX4_add_57 rfl ?_
    refine r_iload (q := 62) dX4_add_60 rfl rfl ?_
    refine r_iload (q := 64) dX4_add_62 rfl rfl ?_
    refine r_iload_n (q := 65) dX4_add_64 rfl rfl ?_
    refine r_isub (q := 66) dX4_add_65 rfl ?_
    refine r_iast (q := 67) dX4_add_66 rfl LA18 (by omega) (by decide) (r_nameQ hV55 q55 rfl (by decide) (fun s66 hV66 q66 => ?_))
    refine r_aload_n (q := 68) dX4_add_67 rfl rfl ?_
    refine gX4_34 (q := 71) dX4_add_68 rfl ?_
    refine r_iload (q := 73) dX4_add_71 rfl rfl ?_
    refine r_iload (q := 75) dX4_add_73 rfl rfl ?_
    refine r_iload (q := 77) dX4_add_75 rfl rfl ?_
    refine r_isub (q := 78) dX4_add_77 rfl ?_
    refine r_iast (q := 79) dX4_add_78 rfl LA19 (by omega) (by decide) (r_nameQ hV66 q66 rfl (by decide) (fun s78 hV78 q78 => ?_))
    refine r_aload_n (q := 80) dX4_add_79 rfl rfl ?_
    refine r_iload (q := 82) dX4_add_80 rfl rfl ?_
    refine r_iconst (q := 83) (v := nI 1) dX4_add_82 rfl (by decide) ?_
    refine r_iaddN (q := 84) dX4_add_83 rfl ?_
    refine pX4_9 (q := 87) dX4_add_84 rfl (r_nameQ hV78 q78 rfl (by decide) (fun s84 hV84 q84 => ?_))
    refine r_iload (q := 89) dX4_add_87 rfl rfl ?_
    exact r_retI dX4_add_89 ⟨by rw [hR.nw], by rw [hV84, winC, if_neg c22], q84⟩
set_option maxRecDepth 100000 in
set_option maxHeartbeats 4000000 in
theorem c_X5_law (σ V : St) (hV : vw σ = V) (hG : GOOD V) (hJ : J V σ) (d e : Int32) : Cl LAYC yX5_law cX5_law 4 (some .int) 1 21 [.ref 0, .int d, .int e] σ (EI (fun v τ => v = resO (cLaw d e) (nI (nv V 38 d.toNatClampNeg)) ∧ finO (cLaw d e) (vw τ = wr V 30 d.toNatClampNeg e ∧ τ 32 = σ 32) V τ)) := by
  have hI := hG.1.1
  have hR := hG.2
  have hnw := bd hI 33 19 20 rfl rfl
  have hnb := bd hI 33 7 40 rfl rfl
  refine Cl.of 1 rfl rfl EI.ok ?_
  show Rn LAYC none RX5 _ _ _ _ 0 [some (.ref 0), some (.int d), some (.int e), none] [] _ _
  refine r_iload_n (q := 1) dX5_law_0 rfl rfl ?_
  refine r_sI1 (q := 4) vX5_67 dX5_law_1 rfl (Nat.le_of_ble_eq_true rfl) (by decide) (by decide) (c_X5_isDay _ _) ?_
  rintro _ τ0 ⟨rfl, hτ0⟩
  rw [hτ0]
  clear hτ0
  refine r_if_neN (t := 13) (q := 7) dX5_law_4 (by decide) rfl (by have := ix_le d 8; omega) (fun c4 => ?_) (fun c4 => ?_)
  · obtain ⟨d, hd, rfl⟩ := ix_of c4
    have hdc := nI_clamp (n := d) (by omega)
    refine r_iload_n (q := 14) dX5_law_13 rfl rfl ?_
    refine r_if_ge (t := 24) (q := 17) dX5_law_14 (by decide) rfl (fun c14 => ?_) (fun c14 => ?_)
    · refine r_iload_n (q := 25) dX5_law_24 rfl rfl ?_
      refine r_bipush (q := 27) (v := nI 24) dX5_law_25 rfl (by decide) ?_
      refine r_icmp_le (t := 37) (q := 30) dX5_law_27 (by decide) rfl (fun c27 => ?_) (fun c27 => ?_)
      · refine r_aload_n (q := 38) dX5_law_37 rfl rfl ?_
        refine gX5_44 (q := 41) dX5_law_38 rfl ?_
        refine r_iload_n (q := 42) dX5_law_41 rfl rfl ?_
        refine r_ialdV (q := 43) hV hI dX5_law_42 rfl LA30 rfl rfl (by decide) (by omega) ?_
        refine r_istore_n (q := 44) dX5_law_43 rfl (Nat.le_of_ble_eq_true rfl) ?_
        refine r_aload_n (q := 45) dX5_law_44 rfl rfl ?_
        refine gX5_44 (q := 48) dX5_law_45 rfl ?_
        refine r_iload_n (q := 49) dX5_law_48 rfl rfl ?_
        refine r_iload_n (q := 50) dX5_law_49 rfl rfl ?_
        refine r_iast (q := 51) dX5_law_50 rfl LA30 (by omega) (by decide) ?_
        refine r_iload_n (q := 52) dX5_law_51 rfl rfl ?_
        exact r_retI dX5_law_52 (go_ok (by first | (simp [cLaw, *]; done) | (unfold cLaw; (try simp only [hdc]); (repeat' split); all_goals first | rfl | contradiction | omega | (exfalso; simp only [Int32.lt_iff_toInt_lt, Int32.le_iff_toInt_le] at *; omega))) (by rw [hdc, hR.law d]) ⟨by rw [hdc]; exact vw_w hV rfl, rfl⟩)
      · refine r_aload_n (q := 31) dX5_law_30 rfl rfl ?_
        refine r_bipush (q := 33) (v := -6) dX5_law_31 rfl (by decide) ?_
        refine r_cI1 (q := 36) vX5_71 dX5_law_33 rfl LYX5 rfl (Nat.le_of_ble_eq_true rfl) (by decide) (by decide) (c_X5_refuse _ V hV (-6) 6 rfl (by decide) (by decide)) ?_
        rintro _ τR ⟨rfl, hRf, r32⟩
        exact r_retI dX5_law_36 (go_bad (by first | (simp [cLaw, *]; done) | (unfold cLaw; (try simp only [hdc]); (repeat' split); all_goals first | rfl | contradiction | omega | (exfalso; simp only [Int32.lt_iff_toInt_lt, Int32.le_iff_toInt_le] at *; omega))) (by first | decide | assumption) hRf (hJ.c r32))
    · refine r_aload_n (q := 18) dX5_law_17 rfl rfl ?_
      refine r_bipush (q := 20) (v := -4) dX5_law_18 rfl (by decide) ?_
      refine r_cI1 (q := 23) vX5_71 dX5_law_20 rfl LYX5 rfl (Nat.le_of_ble_eq_true rfl) (by decide) (by decide) (c_X5_refuse _ V hV (-4) 4 rfl (by decide) (by decide)) ?_
      rintro _ τR ⟨rfl, hRf, r32⟩
      exact r_retI dX5_law_23 (go_bad (by first | (simp [cLaw, *]; done) | (unfold cLaw; (try simp only [hdc]); (repeat' split); all_goals first | rfl | contradiction | omega | (exfalso; simp only [Int32.lt_iff_toInt_lt, Int32.le_iff_toInt_le] at *; omega))) (by first | decide | assumption) hRf (hJ.c r32))
  · refine r_aload_n (q := 8) dX5_law_7 rfl rfl ?_
    refine r_iconst (q := 9) (v := -1) dX5_law_8 rfl (by decide) ?_
    refine r_cI1 (q := 12) vX5_71 dX5_law_9 rfl LYX5 rfl (Nat.le_of_ble_eq_true rfl) (by decide) (by decide) (c_X5_refuse _ V hV (-1) 1 rfl (by decide) (by decide)) ?_
    rintro _ τR ⟨rfl, hRf, r32⟩
    exact r_retI dX5_law_12 (go_bad (by first | (simp [cLaw, *]; done) | (unfold cLaw; (try simp only [hdc]); (repeat' split); all_goals first | rfl | contradiction | omega | (exfalso; simp only [Int32.lt_iff_toInt_lt, Int32.le_iff_toInt_le] at *; omega))) (by first | decide | assumption) hRf (hJ.c r32))
set_option maxRecDepth 100000 in
set_option maxHeartbeats 4000000 in
theorem c_X5_part (σ V : St) (hV : vw σ = V) (hG : GOOD V) (hJ : J V σ) (e : Int32) : Cl LAYC yX5_part cX5_part 3 (some .int) 2 43 [.ref 0, .int e] σ (EI (fun v τ => v = resO (cPart e) (nI (nv V 33 5)) ∧ finO (cPart e) (vw τ = wr V 0 8 e ∧ none32 τ) V τ)) := by
  have hI := hG.1.1
  have hR := hG.2
  have hnw := bd hI 33 19 20 rfl rfl
  have hnb := bd hI 33 7 40 rfl rfl
  refine Cl.of 1 rfl rfl EI.ok ?_
  show Rn LAYC none RX5 _ _ _ _ 0 [some (.ref 0), some (.int e), none] [] _ _
  refine r_iload_n (q := 1) dX5_part_0 rfl rfl ?_
  refine r_iconst (q := 2) (v := nI 1) dX5_part_1 rfl (by decide) ?_
  refine r_icmp_ge (t := 12) (q := 5) dX5_part_2 (by decide) rfl (fun c2 => ?_) (fun c2 => ?_)
  · refine r_iload_n (q := 13) dX5_part_12 rfl rfl ?_
    refine r_bipush (q := 15) (v := nI 8) dX5_part_13 rfl (by decide) ?_
    refine r_icmp_le (t := 25) (q := 18) dX5_part_15 (by decide) rfl (fun c15 => ?_) (fun c15 => ?_)
    · refine r_aload_n (q := 26) dX5_part_25 rfl rfl ?_
      refine gvX5_54 (q := 29) hV hI dX5_part_26 rfl ?_
      refine r_istore_n (q := 30) dX5_part_29 rfl (Nat.le_of_ble_eq_true rfl) ?_
      refine r_aload_n (q := 31) dX5_part_30 rfl rfl ?_
      refine r_iload_n (q := 32) dX5_part_31 rfl rfl ?_
      refine ppX5_54 (q := 35) hV dX5_part_32 rfl (fun s32 hV32 => ?_)
      refine r_aload_n (q := 36) dX5_part_35 rfl rfl ?_
      refine r_cV0 (q := 39) vX5_78 dX5_part_36 rfl LYX5 rfl (Nat.le_of_ble_eq_true rfl) (by decide) (by decide) (c_X5_forgetLight _ _ hV32) ?_
      rintro sF ⟨hVF, nF⟩
      refine r_iload_n (q := 40) dX5_part_39 rfl rfl ?_
      exact r_retI dX5_part_40 (go_ok (by first | (simp [cPart, *]; done) | (unfold cPart; (try simp only []); (repeat' split); all_goals first | rfl | contradiction | omega | (exfalso; simp only [Int32.lt_iff_toInt_lt, Int32.le_iff_toInt_le] at *; omega))) (by rw [hR.part]) ⟨hVF, nF⟩)
    · refine r_aload_n (q := 19) dX5_part_18 rfl rfl ?_
      refine r_bipush (q := 21) (v := -6) dX5_part_19 rfl (by decide) ?_
      refine r_cI1 (q := 24) vX5_71 dX5_part_21 rfl LYX5 rfl (Nat.le_of_ble_eq_true rfl) (by decide) (by decide) (c_X5_refuse _ V hV (-6) 6 rfl (by decide) (by decide)) ?_
      rintro _ τR ⟨rfl, hRf, r32⟩
      exact r_retI dX5_part_24 (go_bad (by first | (simp [cPart, *]; done) | (unfold cPart; (try simp only []); (repeat' split); all_goals first | rfl | contradiction | omega | (exfalso; simp only [Int32.lt_iff_toInt_lt, Int32.le_iff_toInt_le] at *; omega))) (by first | decide | assumption) hRf (hJ.c r32))
  · refine r_aload_n (q := 6) dX5_part_5 rfl rfl ?_
    refine r_bipush (q := 8) (v := -4) dX5_part_6 rfl (by decide) ?_
    refine r_cI1 (q := 11) vX5_71 dX5_part_8 rfl LYX5 rfl (Nat.le_of_ble_eq_true rfl) (by decide) (by decide) (c_X5_refuse _ V hV (-4) 4 rfl (by decide) (by decide)) ?_
    rintro _ τR ⟨rfl, hRf, r32⟩
    exact r_retI dX5_part_11 (go_bad (by first | (simp [cPart, *]; done) | (unfold cPart; (try simp only []); (repeat' split); all_goals first | rfl | contradiction | omega | (exfalso; simp only [Int32.lt_iff_toInt_lt, Int32.le_iff_toInt_le] at *; omega))) (by first | decide | assumption) hRf (hJ.c r32))
theorem cTree_cases (V : St) (x : Int32) : cTree V x = 0 ∨ cTree V x = -1 ∨ cTree V x = -2 := by
  unfold cTree
  (repeat' split)
  all_goals simp
theorem cTree_0 {V : St} {x : Int32} (h : cTree V x = 0) : ¬ ix x (nv V 33 7) = 0 ∧ nv V 39 x.toNatClampNeg = 1 := by
  unfold cTree at h
  revert h
  (repeat' split)
  all_goals intro h
  all_goals first | (exfalso; revert h; decide) | exact ⟨by assumption, by assumption⟩
theorem cTree_ne {V : St} {x : Int32} (h : ¬ cTree V x = 0) : ∃ j, 1 ≤ j ∧ j < 7 ∧ -cTree V x = nI j := by
  rcases cTree_cases V x with e | e | e <;> rw [e] at h ⊢
  · exact absurd rfl h
  · exact ⟨1, by decide, by decide, by decide⟩
  · exact ⟨2, by decide, by decide, by decide⟩
theorem cMost_t (V : St) (b v : Int32) : cMost V b v = if cTree V b = 0 then (if v < nI (nv V 45 b.toNatClampNeg) then -4 else if nI 200 < v then -6 else 0) else cTree V b := by
  unfold cMost cTree
  by_cases h : ix b (nv V 33 7) = 0
  · rw [if_pos h, if_pos h, if_neg (by decide)]
  · rw [if_neg h, if_neg h]
    by_cases h2 : nv V 39 b.toNatClampNeg = 1
    · rw [if_pos h2, if_pos h2, if_pos rfl]
    · rw [if_neg h2, if_neg h2, if_neg (by decide)]
theorem cCut_t (V : St) (b v : Int32) : cCut V b v = if cTree V b = 0 then (if nv V 49 b.toNatClampNeg = 0 then (if v ≤ nI (nv V 44 b.toNatClampNeg) then -4 else if nI (nv V 45 b.toNatClampNeg) < v then -6 else 0) else -3) else cTree V b := by
  unfold cCut cTree
  by_cases h : ix b (nv V 33 7) = 0
  · rw [if_pos h, if_pos h, if_neg (by decide)]
  · rw [if_neg h, if_neg h]
    by_cases h2 : nv V 39 b.toNatClampNeg = 1
    · rw [if_pos h2, if_pos h2, if_pos rfl]
    · rw [if_neg h2, if_neg h2, if_neg (by decide)]
theorem cShare_t (V : St) (b d e : Int32) : cShare V b d e = if ix d 8 = 0 then -1 else if cTree V b = 0 then (if e < 0 then -4 else if nI 8 < e then -6 else 0) else cTree V b := by
  unfold cShare cTree
  by_cases h0 : ix d 8 = 0
  · rw [if_pos h0, if_pos h0]
    exact ite_self _
  · rw [if_neg h0, if_neg h0]
    by_cases h : ix b (nv V 33 7) = 0
    · rw [if_pos h, if_pos h, if_neg (by decide)]
    · rw [if_neg h, if_neg h]
      by_cases h2 : nv V 39 b.toNatClampNeg = 1
      · rw [if_pos h2, if_pos h2, if_pos rfl]
      · rw [if_neg h2, if_neg h2, if_neg (by decide)]
theorem in03_0 {k : Int32} (h : k < 0 ∨ ¬ k ≤ nI 3) : inN k (nI 0) (nI 3) = 0 := by
  unfold inN
  by_cases h1 : k < nI 0
  · rw [if_pos h1]
  · rw [if_neg h1]
    rcases h with h | h
    · exact absurd h h1
    · rw [if_pos (Int32.not_le.mp h)]
theorem in03_1 {k : Int32} (h : ¬ k < 0) (h2 : k ≤ nI 3) : ¬ inN k (nI 0) (nI 3) = 0 := by
  unfold inN
  rw [if_neg (show ¬ k < nI 0 from h), if_neg (Int32.not_lt.mpr h2)]
  decide
theorem lt4 {k : Int32} : k < nI 4 ↔ k ≤ nI 3 := by
  rw [Int32.lt_iff_toInt_lt, Int32.le_iff_toInt_le, show (nI 4).toInt = 4 from rfl, show (nI 3).toInt = 3 from rfl]
  omega
set_option maxRecDepth 100000 in
set_option maxHeartbeats 4000000 in
theorem c_X5_most (σ V : St) (hV : vw σ = V) (hG : GOOD V) (hJ : J V σ) (b x : Int32) : Cl LAYC yX5_most cX5_most 5 (some .int) 2 42 [.ref 0, .int b, .int x] σ (EI (fun v τ => v = resO (cMost V b x) (nI (nv V 46 b.toNatClampNeg)) ∧ finO (cMost V b x) (vw τ = wr V 8 b.toNatClampNeg x ∧ τ 32 = σ 32) V τ)) := by
  have hI := hG.1.1
  have hR := hG.2
  have hnw := bd hI 33 19 20 rfl rfl
  have hnb := bd hI 33 7 40 rfl rfl
  refine Cl.of 2 rfl rfl EI.ok ?_
  show Rn LAYC none RX5 _ _ _ _ 0 [some (.ref 0), some (.int b), some (.int x), none, none] [] _ _
  refine r_aload_n (q := 1) dX5_most_0 rfl rfl ?_
  refine gX5_19 (q := 4) dX5_most_1 rfl ?_
  refine r_iload_n (q := 5) dX5_most_4 rfl rfl ?_
  refine r_cI1 (q := 8) vX5_91 dX5_most_5 rfl LYX1 rfl (Nat.le_of_ble_eq_true rfl) (by decide) (by decide) (c_X1_treeFault _ V hV hG _) ?_
  rintro _ τ0 ⟨rfl, hτ0⟩
  rw [hτ0]
  clear hτ0
  refine r_istore_n (q := 9) dX5_most_8 rfl (Nat.le_of_ble_eq_true rfl) ?_
  refine r_iload_n (q := 10) dX5_most_9 rfl rfl ?_
  refine r_if_eq (t := 19) (q := 13) dX5_most_10 (by decide) rfl (fun c10 => ?_) (fun c10 => ?_)
  · obtain ⟨h1, hk1⟩ := cTree_0 c10
    obtain ⟨b, hb, rfl⟩ := ix_of h1
    have hbc := nI_clamp (n := b) (by omega)
    rw [hbc] at hk1
    refine r_iload_n (q := 20) dX5_most_19 rfl rfl ?_
    refine r_aload_n (q := 21) dX5_most_20 rfl rfl ?_
    refine gX5_19 (q := 24) dX5_most_21 rfl ?_
    refine r_iload_n (q := 25) dX5_most_24 rfl rfl ?_
    refine r_cI1 (q := 28) vX5_97 dX5_most_25 rfl LYX1 rfl (Nat.le_of_ble_eq_true rfl) (by decide) (by decide) (c_X1_topOf _ V hV hG b (by omega)) ?_
    rintro _ τ0 ⟨rfl, hτ0⟩
    rw [hτ0]
    clear hτ0
    refine r_icmp_ge (t := 38) (q := 31) dX5_most_28 (by decide) rfl (fun c28 => ?_) (fun c28 => ?_)
    · refine r_iload_n (q := 39) dX5_most_38 rfl rfl ?_
      refine r_sipush (q := 42) (v := nI 200) dX5_most_39 rfl (by decide) ?_
      refine r_icmp_le (t := 52) (q := 45) dX5_most_42 (by decide) rfl (fun c42 => ?_) (fun c42 => ?_)
      · refine r_aload_n (q := 53) dX5_most_52 rfl rfl ?_
        refine gX5_19 (q := 56) dX5_most_53 rfl ?_
        refine gX5_100 (q := 59) dX5_most_56 rfl ?_
        refine r_iload_n (q := 60) dX5_most_59 rfl rfl ?_
        refine r_ialdV (q := 61) hV hI dX5_most_60 rfl LA8 rfl rfl (by decide) (by omega) ?_
        refine r_istore (q := 63) dX5_most_61 rfl (Nat.le_of_ble_eq_true rfl) ?_
        refine r_aload_n (q := 64) dX5_most_63 rfl rfl ?_
        refine gX5_19 (q := 67) dX5_most_64 rfl ?_
        refine gX5_100 (q := 70) dX5_most_67 rfl ?_
        refine r_iload_n (q := 71) dX5_most_70 rfl rfl ?_
        refine r_iload_n (q := 72) dX5_most_71 rfl rfl ?_
        refine r_iast (q := 73) dX5_most_72 rfl LA8 (by omega) (by decide) ?_
        refine r_iload (q := 75) dX5_most_73 rfl rfl ?_
        exact r_retI dX5_most_75 (go_ok (by rw [cMost_t, if_pos c10, hbc, if_neg (Int32.not_lt.mpr c28), if_neg (Int32.not_lt.mpr c42)]) (by rw [hbc, hR.most b]) ⟨by rw [hbc]; exact vw_w hV rfl, rfl⟩)
      · refine r_aload_n (q := 46) dX5_most_45 rfl rfl ?_
        refine r_bipush (q := 48) (v := -6) dX5_most_46 rfl (by decide) ?_
        refine r_cI1 (q := 51) vX5_71 dX5_most_48 rfl LYX5 rfl (Nat.le_of_ble_eq_true rfl) (by decide) (by decide) (c_X5_refuse _ V hV (-6) 6 rfl (by decide) (by decide)) ?_
        rintro _ τR ⟨rfl, hRf, r32⟩
        exact r_retI dX5_most_51 (go_bad (by rw [cMost_t, if_pos c10, hbc, if_neg (Int32.not_lt.mpr c28), if_pos (Int32.not_le.mp c42)]) (by first | decide | assumption) hRf (hJ.c r32))
    · refine r_aload_n (q := 32) dX5_most_31 rfl rfl ?_
      refine r_bipush (q := 34) (v := -4) dX5_most_32 rfl (by decide) ?_
      refine r_cI1 (q := 37) vX5_71 dX5_most_34 rfl LYX5 rfl (Nat.le_of_ble_eq_true rfl) (by decide) (by decide) (c_X5_refuse _ V hV (-4) 4 rfl (by decide) (by decide)) ?_
      rintro _ τR ⟨rfl, hRf, r32⟩
      exact r_retI dX5_most_37 (go_bad (by rw [cMost_t, if_pos c10, hbc, if_pos (Int32.not_le.mp c28)]) (by first | decide | assumption) hRf (hJ.c r32))
  · obtain ⟨j, hj1, hj7, hj⟩ := cTree_ne c10
    refine r_aload_n (q := 14) dX5_most_13 rfl rfl ?_
    refine r_iload_n (q := 15) dX5_most_14 rfl rfl ?_
    refine r_cI1 (q := 18) vX5_71 dX5_most_15 rfl LYX5 rfl (Nat.le_of_ble_eq_true rfl) (by decide) (by decide) (c_X5_refuse _ V hV _ j hj hj1 hj7) ?_
    rintro _ τR ⟨rfl, hRf, r32⟩
    exact r_retI dX5_most_18 (go_bad (by rw [cMost_t, if_neg c10]) (by first | decide | assumption) hRf (hJ.c r32))
set_option maxRecDepth 100000 in
set_option maxHeartbeats 4000000 in
theorem c_X5_cut (σ V : St) (hV : vw σ = V) (hG : GOOD V) (hJ : J V σ) (b x : Int32) : Cl LAYC yX5_cut cX5_cut 5 (some .int) 2 43 [.ref 0, .int b, .int x] σ (EI (fun v τ => v = resO (cCut V b x) (nI (nv V 45 b.toNatClampNeg)) ∧ finO (cCut V b x) (vw τ = wr V 7 (b.toNatClampNeg * 3 + 2) x ∧ none32 τ) V τ)) := by
  have hI := hG.1.1
  have hR := hG.2
  have hnw := bd hI 33 19 20 rfl rfl
  have hnb := bd hI 33 7 40 rfl rfl
  refine Cl.of 2 rfl rfl EI.ok ?_
  show Rn LAYC none RX5 _ _ _ _ 0 [some (.ref 0), some (.int b), some (.int x), none, none] [] _ _
  refine r_aload_n (q := 1) dX5_cut_0 rfl rfl ?_
  refine gX5_19 (q := 4) dX5_cut_1 rfl ?_
  refine r_iload_n (q := 5) dX5_cut_4 rfl rfl ?_
  refine r_cI1 (q := 8) vX5_91 dX5_cut_5 rfl LYX1 rfl (Nat.le_of_ble_eq_true rfl) (by decide) (by decide) (c_X1_treeFault _ V hV hG _) ?_
  rintro _ τ0 ⟨rfl, hτ0⟩
  rw [hτ0]
  clear hτ0
  refine r_istore_n (q := 9) dX5_cut_8 rfl (Nat.le_of_ble_eq_true rfl) ?_
  refine r_iload_n (q := 10) dX5_cut_9 rfl rfl ?_
  refine r_if_eq (t := 19) (q := 13) dX5_cut_10 (by decide) rfl (fun c10 => ?_) (fun c10 => ?_)
  · obtain ⟨h1, hk1⟩ := cTree_0 c10
    obtain ⟨b, hb, rfl⟩ := ix_of h1
    have hbc := nI_clamp (n := b) (by omega)
    rw [hbc] at hk1
    refine r_aload_n (q := 20) dX5_cut_19 rfl rfl ?_
    refine gX5_19 (q := 23) dX5_cut_20 rfl ?_
    refine gX5_103 (q := 26) dX5_cut_23 rfl ?_
    refine r_iload_n (q := 27) dX5_cut_26 rfl rfl ?_
    refine r_zaldV (q := 28) hV hI dX5_cut_27 rfl LA11 rfl rfl (by decide) (by omega) ?_
    refine r_if_eqN (t := 38) (q := 31) dX5_cut_28 (by decide) rfl (by have := bd hI 11 b 1 rfl rfl; omega) (fun c28 => ?_) (fun c28 => ?_)
    · refine r_iload_n (q := 39) dX5_cut_38 rfl rfl ?_
      refine r_aload_n (q := 40) dX5_cut_39 rfl rfl ?_
      refine gX5_19 (q := 43) dX5_cut_40 rfl ?_
      refine r_iload_n (q := 44) dX5_cut_43 rfl rfl ?_
      refine r_cI1 (q := 47) vX5_107 dX5_cut_44 rfl LYX1 rfl (Nat.le_of_ble_eq_true rfl) (by decide) (by decide) (c_X1_footOf _ V hV hG b (by omega)) ?_
      rintro _ τ0 ⟨rfl, hτ0⟩
      rw [hτ0]
      clear hτ0
      refine r_icmp_gt (t := 57) (q := 50) dX5_cut_47 (by decide) rfl (fun c47 => ?_) (fun c47 => ?_)
      · refine r_aload_n (q := 58) dX5_cut_57 rfl rfl ?_
        refine gX5_19 (q := 61) dX5_cut_58 rfl ?_
        refine r_iload_n (q := 62) dX5_cut_61 rfl rfl ?_
        refine r_cI1 (q := 65) vX5_97 dX5_cut_62 rfl LYX1 rfl (Nat.le_of_ble_eq_true rfl) (by decide) (by decide) (c_X1_topOf _ V hV hG b (by omega)) ?_
        rintro _ τ0 ⟨rfl, hτ0⟩
        rw [hτ0]
        clear hτ0
        refine r_istore (q := 67) dX5_cut_65 rfl (Nat.le_of_ble_eq_true rfl) ?_
        refine r_iload_n (q := 68) dX5_cut_67 rfl rfl ?_
        refine r_iload (q := 70) dX5_cut_68 rfl rfl ?_
        refine r_icmp_le (t := 80) (q := 73) dX5_cut_70 (by decide) rfl (fun c70 => ?_) (fun c70 => ?_)
        · refine r_aload_n (q := 81) dX5_cut_80 rfl rfl ?_
          refine gX5_19 (q := 84) dX5_cut_81 rfl ?_
          refine r_iload_n (q := 85) dX5_cut_84 rfl rfl ?_
          refine r_iload_n (q := 86) dX5_cut_85 rfl rfl ?_
          refine r_cV2 (q := 89) vX5_110 dX5_cut_86 rfl LYX1 rfl (Nat.le_of_ble_eq_true rfl) (by decide) (by decide) (c_X1_setTop _ V hV b _ (by omega)) ?_
          rintro s86 hV86
          refine r_aload_n (q := 90) dX5_cut_89 rfl rfl ?_
          refine r_cV0 (q := 93) vX5_78 dX5_cut_90 rfl LYX5 rfl (Nat.le_of_ble_eq_true rfl) (by decide) (by decide) (c_X5_forgetLight _ _ hV86) ?_
          rintro sF ⟨hVF, nF⟩
          refine r_iload (q := 95) dX5_cut_93 rfl rfl ?_
          exact r_retI dX5_cut_95 (go_ok (by rw [cCut_t, if_pos c10, hbc, if_pos (show nv V 49 b = 0 by have := hR.gone b; omega), if_neg (Int32.not_le.mpr c47), if_neg (Int32.not_lt.mpr c70)]) (by rw [hbc]) ⟨by rw [hbc]; exact hVF, nF⟩)
        · refine r_aload_n (q := 74) dX5_cut_73 rfl rfl ?_
          refine r_bipush (q := 76) (v := -6) dX5_cut_74 rfl (by decide) ?_
          refine r_cI1 (q := 79) vX5_71 dX5_cut_76 rfl LYX5 rfl (Nat.le_of_ble_eq_true rfl) (by decide) (by decide) (c_X5_refuse _ V hV (-6) 6 rfl (by decide) (by decide)) ?_
          rintro _ τR ⟨rfl, hRf, r32⟩
          exact r_retI dX5_cut_79 (go_bad (by rw [cCut_t, if_pos c10, hbc, if_pos (show nv V 49 b = 0 by have := hR.gone b; omega), if_neg (Int32.not_le.mpr c47), if_pos (Int32.not_le.mp c70)]) (by first | decide | assumption) hRf (hJ.c r32))
      · refine r_aload_n (q := 51) dX5_cut_50 rfl rfl ?_
        refine r_bipush (q := 53) (v := -4) dX5_cut_51 rfl (by decide) ?_
        refine r_cI1 (q := 56) vX5_71 dX5_cut_53 rfl LYX5 rfl (Nat.le_of_ble_eq_true rfl) (by decide) (by decide) (c_X5_refuse _ V hV (-4) 4 rfl (by decide) (by decide)) ?_
        rintro _ τR ⟨rfl, hRf, r32⟩
        exact r_retI dX5_cut_56 (go_bad (by rw [cCut_t, if_pos c10, hbc, if_pos (show nv V 49 b = 0 by have := hR.gone b; omega), if_pos (Int32.not_lt.mp c47)]) (by first | decide | assumption) hRf (hJ.c r32))
    · refine r_aload_n (q := 32) dX5_cut_31 rfl rfl ?_
      refine r_bipush (q := 34) (v := -3) dX5_cut_32 rfl (by decide) ?_
      refine r_cI1 (q := 37) vX5_71 dX5_cut_34 rfl LYX5 rfl (Nat.le_of_ble_eq_true rfl) (by decide) (by decide) (c_X5_refuse _ V hV (-3) 3 rfl (by decide) (by decide)) ?_
      rintro _ τR ⟨rfl, hRf, r32⟩
      exact r_retI dX5_cut_37 (go_bad (by rw [cCut_t, if_pos c10, hbc, if_neg (by have := hR.gone b; omega)]) (by first | decide | assumption) hRf (hJ.c r32))
  · obtain ⟨j, hj1, hj7, hj⟩ := cTree_ne c10
    refine r_aload_n (q := 14) dX5_cut_13 rfl rfl ?_
    refine r_iload_n (q := 15) dX5_cut_14 rfl rfl ?_
    refine r_cI1 (q := 18) vX5_71 dX5_cut_15 rfl LYX5 rfl (Nat.le_of_ble_eq_true rfl) (by decide) (by decide) (c_X5_refuse _ V hV _ j hj hj1 hj7) ?_
    rintro _ τR ⟨rfl, hRf, r32⟩
    exact r_retI dX5_cut_18 (go_bad (by rw [cCut_t, if_neg c10]) (by first | decide | assumption) hRf (hJ.c r32))
set_option maxRecDepth 100000 in
set_option maxHeartbeats 4000000 in
theorem c_X5_share (σ V : St) (hV : vw σ = V) (hG : GOOD V) (hJ : J V σ) (b d e : Int32) : Cl LAYC yX5_share cX5_share 6 (some .int) 2 43 [.ref 0, .int b, .int d, .int e] σ (EI (fun v τ => v = resO (cShare V b d e) (nI (nv V 47 (8 * b.toNatClampNeg + d.toNatClampNeg))) ∧ finO (cShare V b d e) (vw τ = wr V 9 (b.toNatClampNeg * 8 + d.toNatClampNeg) e ∧ none32 τ) V τ)) := by
  have hI := hG.1.1
  have hR := hG.2
  have hnw := bd hI 33 19 20 rfl rfl
  have hnb := bd hI 33 7 40 rfl rfl
  refine Cl.of 2 rfl rfl EI.ok ?_
  show Rn LAYC none RX5 _ _ _ _ 0 [some (.ref 0), some (.int b), some (.int d), some (.int e), none, none] [] _ _
  refine r_iload_n (q := 1) dX5_share_0 rfl rfl ?_
  refine r_sI1 (q := 4) vX5_67 dX5_share_1 rfl (Nat.le_of_ble_eq_true rfl) (by decide) (by decide) (c_X5_isDay _ _) ?_
  rintro _ τ0 ⟨rfl, hτ0⟩
  rw [hτ0]
  clear hτ0
  refine r_if_eqN (t := 18) (q := 7) dX5_share_4 (by decide) rfl (by have := ix_le d 8; omega) (fun c4 => ?_) (fun c4 => ?_)
  · refine r_iconst (q := 19) (v := -1) dX5_share_18 rfl (by decide) ?_
    refine r_istore (q := 21) dX5_share_19 rfl (Nat.le_of_ble_eq_true rfl) ?_
    refine r_iload (q := 23) dX5_share_21 rfl rfl ?_
    refine r_if_eq (t := 33) (q := 26) dX5_share_23 (by decide) rfl (fun c23 => absurd c23 (by decide)) (fun c23 => ?_)
    refine r_aload_n (q := 27) dX5_share_26 rfl rfl ?_
    refine r_iload (q := 29) dX5_share_27 rfl rfl ?_
    refine r_cI1 (q := 32) vX5_71 dX5_share_29 rfl LYX5 rfl (Nat.le_of_ble_eq_true rfl) (by decide) (by decide) (c_X5_refuse _ V hV (-1) 1 rfl (by decide) (by decide)) ?_
    rintro _ τR ⟨rfl, hRf, r32⟩
    exact r_retI dX5_share_32 (go_bad (by rw [cShare_t, if_pos c4]) (by first | decide | assumption) hRf (hJ.c r32))
  · obtain ⟨d, hd, rfl⟩ := ix_of c4
    have hdc := nI_clamp (n := d) (by omega)
    refine r_aload_n (q := 8) dX5_share_7 rfl rfl ?_
    refine gX5_19 (q := 11) dX5_share_8 rfl ?_
    refine r_iload_n (q := 12) dX5_share_11 rfl rfl ?_
    refine r_cI1 (q := 15) vX5_91 dX5_share_12 rfl LYX1 rfl (Nat.le_of_ble_eq_true rfl) (by decide) (by decide) (c_X1_treeFault _ V hV hG _) ?_
    rintro _ τ0 ⟨rfl, hτ0⟩
    rw [hτ0]
    clear hτ0
    refine r_goto (q := 19) dX5_share_15 (by decide) ?_
    refine r_istore (q := 21) dX5_share_19 rfl (Nat.le_of_ble_eq_true rfl) ?_
    refine r_iload (q := 23) dX5_share_21 rfl rfl ?_
    refine r_if_eq (t := 33) (q := 26) dX5_share_23 (by decide) rfl (fun c23 => ?_) (fun c23 => ?_)
    · obtain ⟨h1, hk1⟩ := cTree_0 c23
      obtain ⟨b, hb, rfl⟩ := ix_of h1
      have hbc := nI_clamp (n := b) (by omega)
      rw [hbc] at hk1
      refine r_iload_n (q := 34) dX5_share_33 rfl rfl ?_
      refine r_if_ge (t := 44) (q := 37) dX5_share_34 (by decide) rfl (fun c34 => ?_) (fun c34 => ?_)
      · refine r_iload_n (q := 45) dX5_share_44 rfl rfl ?_
        refine r_bipush (q := 47) (v := nI 8) dX5_share_45 rfl (by decide) ?_
        refine r_icmp_le (t := 57) (q := 50) dX5_share_47 (by decide) rfl (fun c47 => ?_) (fun c47 => ?_)
        · refine r_aload_n (q := 58) dX5_share_57 rfl rfl ?_
          refine gX5_19 (q := 61) dX5_share_58 rfl ?_
          refine gX5_94 (q := 64) dX5_share_61 rfl ?_
          refine r_iload_n (q := 65) dX5_share_64 rfl rfl ?_
          refine r_bipush (q := 67) (v := nI 8) dX5_share_65 rfl (by decide) ?_
          refine r_imulN (q := 68) dX5_share_67 rfl ?_
          refine r_iload_n (q := 69) dX5_share_68 rfl rfl ?_
          refine r_iaddN (q := 70) dX5_share_69 rfl ?_
          refine r_ialdV (q := 71) hV hI dX5_share_70 rfl LA9 rfl rfl (by decide) (by omega) ?_
          refine r_istore (q := 73) dX5_share_71 rfl (Nat.le_of_ble_eq_true rfl) ?_
          refine r_aload_n (q := 74) dX5_share_73 rfl rfl ?_
          refine gX5_19 (q := 77) dX5_share_74 rfl ?_
          refine gX5_94 (q := 80) dX5_share_77 rfl ?_
          refine r_iload_n (q := 81) dX5_share_80 rfl rfl ?_
          refine r_bipush (q := 83) (v := nI 8) dX5_share_81 rfl (by decide) ?_
          refine r_imulN (q := 84) dX5_share_83 rfl ?_
          refine r_iload_n (q := 85) dX5_share_84 rfl rfl ?_
          refine r_iaddN (q := 86) dX5_share_85 rfl ?_
          refine r_iload_n (q := 87) dX5_share_86 rfl rfl ?_
          refine r_iastP (q := 88) hV dX5_share_87 rfl LA9 rfl (by omega) (by decide) (fun s87 hV87 => ?_)
          refine r_aload_n (q := 89) dX5_share_88 rfl rfl ?_
          refine r_cV0 (q := 92) vX5_78 dX5_share_89 rfl LYX5 rfl (Nat.le_of_ble_eq_true rfl) (by decide) (by decide) (c_X5_forgetLight _ _ hV87) ?_
          rintro sF ⟨hVF, nF⟩
          refine r_iload (q := 94) dX5_share_92 rfl rfl ?_
          exact r_retI dX5_share_94 (go_ok (by rw [cShare_t, if_neg c4, if_pos c23, if_neg (Int32.not_lt.mpr c34), if_neg (Int32.not_lt.mpr c47)]) (by rw [hbc, hdc, hR.thr b d hd, if_pos hk1]) ⟨by rw [hbc, hdc]; exact hVF, nF⟩)
        · refine r_aload_n (q := 51) dX5_share_50 rfl rfl ?_
          refine r_bipush (q := 53) (v := -6) dX5_share_51 rfl (by decide) ?_
          refine r_cI1 (q := 56) vX5_71 dX5_share_53 rfl LYX5 rfl (Nat.le_of_ble_eq_true rfl) (by decide) (by decide) (c_X5_refuse _ V hV (-6) 6 rfl (by decide) (by decide)) ?_
          rintro _ τR ⟨rfl, hRf, r32⟩
          exact r_retI dX5_share_56 (go_bad (by rw [cShare_t, if_neg c4, if_pos c23, if_neg (Int32.not_lt.mpr c34), if_pos (Int32.not_le.mp c47)]) (by first | decide | assumption) hRf (hJ.c r32))
      · refine r_aload_n (q := 38) dX5_share_37 rfl rfl ?_
        refine r_bipush (q := 40) (v := -4) dX5_share_38 rfl (by decide) ?_
        refine r_cI1 (q := 43) vX5_71 dX5_share_40 rfl LYX5 rfl (Nat.le_of_ble_eq_true rfl) (by decide) (by decide) (c_X5_refuse _ V hV (-4) 4 rfl (by decide) (by decide)) ?_
        rintro _ τR ⟨rfl, hRf, r32⟩
        exact r_retI dX5_share_43 (go_bad (by rw [cShare_t, if_neg c4, if_pos c23, if_pos (Int32.not_le.mp c34)]) (by first | decide | assumption) hRf (hJ.c r32))
    · obtain ⟨j, hj1, hj7, hj⟩ := cTree_ne c23
      refine r_aload_n (q := 27) dX5_share_26 rfl rfl ?_
      refine r_iload (q := 29) dX5_share_27 rfl rfl ?_
      refine r_cI1 (q := 32) vX5_71 dX5_share_29 rfl LYX5 rfl (Nat.le_of_ble_eq_true rfl) (by decide) (by decide) (c_X5_refuse _ V hV _ j hj hj1 hj7) ?_
      rintro _ τR ⟨rfl, hRf, r32⟩
      exact r_retI dX5_share_32 (go_bad (by rw [cShare_t, if_neg c4, if_neg c23]) (by first | decide | assumption) hRf (hJ.c r32))
set_option maxRecDepth 100000 in
set_option maxHeartbeats 4000000 in
theorem c_X5_build (σ V : St) (hV : vw σ = V) (hG : GOOD V) (hJ : J V σ) (b : Int32) : Cl LAYC yX5_build cX5_build 3 (some .int) 2 43 [.ref 0, .int b] σ (EI (fun v τ => v = resO (lack V b) (nI 1) ∧ finO (lack V b) (vw τ = wr V 10 b.toNatClampNeg (nI 1) ∧ none32 τ) V τ)) := by
  have hI := hG.1.1
  have hR := hG.2
  have hnw := bd hI 33 19 20 rfl rfl
  have hnb := bd hI 33 7 40 rfl rfl
  refine Cl.of 1 rfl rfl EI.ok ?_
  show Rn LAYC none RX5 _ _ _ _ 0 [some (.ref 0), some (.int b), none] [] _ _
  refine r_aload_n (q := 1) dX5_build_0 rfl rfl ?_
  refine gX5_19 (q := 4) dX5_build_1 rfl ?_
  refine r_iload_n (q := 5) dX5_build_4 rfl rfl ?_
  refine r_cI1 (q := 8) vX5_114 dX5_build_5 rfl LYX1 rfl (Nat.le_of_ble_eq_true rfl) (by decide) (by decide) (c_X1_planFault _ V hV hG _) ?_
  rintro _ τ0 ⟨rfl, hτ0⟩
  rw [hτ0]
  clear hτ0
  refine r_istore_n (q := 9) dX5_build_8 rfl (Nat.le_of_ble_eq_true rfl) ?_
  refine r_iload_n (q := 10) dX5_build_9 rfl rfl ?_
  refine r_if_eq (t := 19) (q := 13) dX5_build_10 (by decide) rfl (fun c10 => ?_) (fun c10 => ?_)
  · obtain ⟨h1, -, -, -⟩ := lack_0 c10
    obtain ⟨b, hb, rfl⟩ := ix_of h1
    have hbc := nI_clamp (n := b) (by omega)
    refine r_aload_n (q := 20) dX5_build_19 rfl rfl ?_
    refine gX5_19 (q := 23) dX5_build_20 rfl ?_
    refine gX5_117 (q := 26) dX5_build_23 rfl ?_
    refine r_iload_n (q := 27) dX5_build_26 rfl rfl ?_
    refine r_iconst (q := 28) (v := nI 1) dX5_build_27 rfl (by decide) ?_
    refine r_zastP (q := 29) hV dX5_build_28 rfl LA10 rfl (by omega) (by decide) (Or.inr rfl) (fun s28 hV28 => ?_)
    refine r_aload_n (q := 30) dX5_build_29 rfl rfl ?_
    refine r_cV0 (q := 33) vX5_78 dX5_build_30 rfl LYX5 rfl (Nat.le_of_ble_eq_true rfl) (by decide) (by decide) (c_X5_forgetLight _ _ hV28) ?_
    rintro sF ⟨hVF, nF⟩
    refine r_iconst (q := 34) (v := nI 1) dX5_build_33 rfl (by decide) ?_
    exact r_retI dX5_build_34 (go_ok c10 rfl ⟨by rw [hbc]; exact hVF, nF⟩)
  · obtain ⟨j, hj1, hj7, hj⟩ := lack_ne c10
    refine r_aload_n (q := 14) dX5_build_13 rfl rfl ?_
    refine r_iload_n (q := 15) dX5_build_14 rfl rfl ?_
    refine r_cI1 (q := 18) vX5_71 dX5_build_15 rfl LYX5 rfl (Nat.le_of_ble_eq_true rfl) (by decide) (by decide) (c_X5_refuse _ V hV _ j hj hj1 hj7) ?_
    rintro _ τR ⟨rfl, hRf, r32⟩
    exact r_retI dX5_build_18 (go_bad rfl (by first | decide | assumption) hRf (hJ.c r32))
set_option maxRecDepth 100000 in
set_option maxHeartbeats 4000000 in
theorem c_X5_go (σ V : St) (hV : vw σ = V) (hG : GOOD V) (hJ : J V σ) (b : Int32) : Cl LAYC yX5_go cX5_go 2 (some .int) 2 43 [.ref 0, .int b] σ (EI (fun v τ => v = resO (cGo V b) (nI 1) ∧ finO (cGo V b) (vw τ = wr (wr V 11 b.toNatClampNeg (nI 1)) 10 b.toNatClampNeg (nI 0) ∧ none32 τ) V τ)) := by
  have hI := hG.1.1
  have hR := hG.2
  have hnw := bd hI 33 19 20 rfl rfl
  have hnb := bd hI 33 7 40 rfl rfl
  refine Cl.of 0 rfl rfl EI.ok ?_
  show Rn LAYC none RX5 _ _ _ _ 0 [some (.ref 0), some (.int b)] [] _ _
  refine r_aload_n (q := 1) dX5_go_0 rfl rfl ?_
  refine gX5_19 (q := 4) dX5_go_1 rfl ?_
  refine r_iload_n (q := 5) dX5_go_4 rfl rfl ?_
  refine r_cI1 (q := 8) vX5_120 dX5_go_5 rfl LYX1 rfl (Nat.le_of_ble_eq_true rfl) (by decide) (by decide) (c_X1_has _ V hV hG _) ?_
  rintro _ τ0 ⟨rfl, hτ0⟩
  rw [hτ0]
  clear hτ0
  refine r_if_neN (t := 17) (q := 11) dX5_go_8 (by decide) rfl (by have := ix_le b (nv V 33 7); omega) (fun c8 => ?_) (fun c8 => ?_)
  · obtain ⟨b, hb, rfl⟩ := ix_of c8
    have hbc := nI_clamp (n := b) (by omega)
    have hgo := hR.gone b
    refine r_aload_n (q := 18) dX5_go_17 rfl rfl ?_
    refine gX5_19 (q := 21) dX5_go_18 rfl ?_
    refine gX5_103 (q := 24) dX5_go_21 rfl ?_
    refine r_iload_n (q := 25) dX5_go_24 rfl rfl ?_
    refine r_zaldV (q := 26) hV hI dX5_go_25 rfl LA11 rfl rfl (by decide) (by omega) ?_
    refine r_if_eqN (t := 36) (q := 29) dX5_go_26 (by decide) rfl (by have := bd hI 11 b 1 rfl rfl; omega) (fun c26 => ?_) (fun c26 => ?_)
    · refine r_aload_n (q := 37) dX5_go_36 rfl rfl ?_
      refine gX5_19 (q := 40) dX5_go_37 rfl ?_
      refine gX5_103 (q := 43) dX5_go_40 rfl ?_
      refine r_iload_n (q := 44) dX5_go_43 rfl rfl ?_
      refine r_iconst (q := 45) (v := nI 1) dX5_go_44 rfl (by decide) ?_
      refine r_zastP (q := 46) hV dX5_go_45 rfl LA11 rfl (by omega) (by decide) (Or.inr rfl) (fun s45 hV45 => ?_)
      refine r_aload_n (q := 47) dX5_go_46 rfl rfl ?_
      refine gX5_19 (q := 50) dX5_go_47 rfl ?_
      refine gX5_117 (q := 53) dX5_go_50 rfl ?_
      refine r_iload_n (q := 54) dX5_go_53 rfl rfl ?_
      refine r_iconst (q := 55) (v := nI 0) dX5_go_54 rfl (by decide) ?_
      refine r_zastP (q := 56) hV45 dX5_go_55 rfl LA10 rfl (by omega) (by decide) (Or.inl rfl) (fun s55 hV55 => ?_)
      refine r_aload_n (q := 57) dX5_go_56 rfl rfl ?_
      refine r_cV0 (q := 60) vX5_78 dX5_go_57 rfl LYX5 rfl (Nat.le_of_ble_eq_true rfl) (by decide) (by decide) (c_X5_forgetLight _ _ hV55) ?_
      rintro sF ⟨hVF, nF⟩
      refine r_iconst (q := 61) (v := nI 1) dX5_go_60 rfl (by decide) ?_
      exact r_retI dX5_go_61 (go_ok (by rw [cGo, if_neg c8, hbc, if_pos (by omega)]) rfl ⟨by rw [hbc]; exact hVF, nF⟩)
    · refine r_aload_n (q := 30) dX5_go_29 rfl rfl ?_
      refine r_bipush (q := 32) (v := -3) dX5_go_30 rfl (by decide) ?_
      refine r_cI1 (q := 35) vX5_71 dX5_go_32 rfl LYX5 rfl (Nat.le_of_ble_eq_true rfl) (by decide) (by decide) (c_X5_refuse _ V hV (-3) 3 rfl (by decide) (by decide)) ?_
      rintro _ τR ⟨rfl, hRf, r32⟩
      exact r_retI dX5_go_35 (go_bad (by rw [cGo, if_neg c8, hbc, if_neg (by omega)]) (by first | decide | assumption) hRf (hJ.c r32))
  · refine r_aload_n (q := 12) dX5_go_11 rfl rfl ?_
    refine r_iconst (q := 13) (v := -1) dX5_go_12 rfl (by decide) ?_
    refine r_cI1 (q := 16) vX5_71 dX5_go_13 rfl LYX5 rfl (Nat.le_of_ble_eq_true rfl) (by decide) (by decide) (c_X5_refuse _ V hV (-1) 1 rfl (by decide) (by decide)) ?_
    rintro _ τR ⟨rfl, hRf, r32⟩
    exact r_retI dX5_go_16 (go_bad (by rw [cGo, if_pos c8]) (by first | decide | assumption) hRf (hJ.c r32))
set_option maxRecDepth 100000 in
set_option maxHeartbeats 4000000 in
theorem c_X5_minute (σ V : St) (hV : vw σ = V) (hG : GOOD V) (hJ : J V σ) (d x y z : Int32) : Cl LAYC yX5_minute cX5_minute 5 (some .int) 2 43 [.ref 0, .int d, .int x, .int y, .int z] σ (EI (fun v τ => v = resO (cMinute V d x y z) (nI (nv V 34 d.toNatClampNeg)) ∧ finO (cMinute V d x y z) (vw τ = wr (wr (wr (wr V 3 ((d.toNatClampNeg * 24 + nv V 2 d.toNatClampNeg) * 3 + 0) x) 3 ((d.toNatClampNeg * 24 + nv V 2 d.toNatClampNeg) * 3 + 1) y) 3 ((d.toNatClampNeg * 24 + nv V 2 d.toNatClampNeg) * 3 + 2) z) 2 d.toNatClampNeg (nI (nv V 2 d.toNatClampNeg + 1)) ∧ none32 τ) V τ)) := by
  have hI := hG.1.1
  have hR := hG.2
  have hnw := bd hI 33 19 20 rfl rfl
  have hnb := bd hI 33 7 40 rfl rfl
  refine Cl.of 0 rfl rfl EI.ok ?_
  show Rn LAYC none RX5 _ _ _ _ 0 [some (.ref 0), some (.int d), some (.int x), some (.int y), some (.int z)] [] _ _
  refine r_iload_n (q := 1) dX5_minute_0 rfl rfl ?_
  refine r_sI1 (q := 4) vX5_67 dX5_minute_1 rfl (Nat.le_of_ble_eq_true rfl) (by decide) (by decide) (c_X5_isDay _ _) ?_
  rintro _ τ0 ⟨rfl, hτ0⟩
  rw [hτ0]
  clear hτ0
  refine r_if_neN (t := 13) (q := 7) dX5_minute_4 (by decide) rfl (by have := ix_le d 8; omega) (fun c4 => ?_) (fun c4 => ?_)
  · obtain ⟨d, hd, rfl⟩ := ix_of c4
    have hdc := nI_clamp (n := d) (by omega)
    have hmn := bd hI 34 d 24 rfl rfl
    have hmr := hR.mn d
    refine r_iload_n (q := 14) dX5_minute_13 rfl rfl ?_
    refine r_bipush (q := 16) (v := -50) dX5_minute_14 rfl (by decide) ?_
    refine r_icmp_lt (t := 31) (q := 19) dX5_minute_16 (by decide) rfl (fun c16 => ?_) (fun c16 => ?_)
    · refine r_aload_n (q := 32) dX5_minute_31 rfl rfl ?_
      refine r_bipush (q := 34) (v := -4) dX5_minute_32 rfl (by decide) ?_
      refine r_cI1 (q := 37) vX5_71 dX5_minute_34 rfl LYX5 rfl (Nat.le_of_ble_eq_true rfl) (by decide) (by decide) (c_X5_refuse _ V hV (-4) 4 rfl (by decide) (by decide)) ?_
      rintro _ τR ⟨rfl, hRf, r32⟩
      exact r_retI dX5_minute_37 (go_bad (by first | (simp [cMinute, *]; done) | (unfold cMinute; (try simp only [hdc]); (repeat' split); all_goals first | rfl | contradiction | omega | (exfalso; simp only [Int32.lt_iff_toInt_lt, Int32.le_iff_toInt_le] at *; omega))) (by first | decide | assumption) hRf (hJ.c r32))
    · refine r_iload_n (q := 20) dX5_minute_19 rfl rfl ?_
      refine r_bipush (q := 22) (v := -50) dX5_minute_20 rfl (by decide) ?_
      refine r_icmp_lt (t := 31) (q := 25) dX5_minute_22 (by decide) rfl (fun c22 => ?_) (fun c22 => ?_)
      · refine r_aload_n (q := 32) dX5_minute_31 rfl rfl ?_
        refine r_bipush (q := 34) (v := -4) dX5_minute_32 rfl (by decide) ?_
        refine r_cI1 (q := 37) vX5_71 dX5_minute_34 rfl LYX5 rfl (Nat.le_of_ble_eq_true rfl) (by decide) (by decide) (c_X5_refuse _ V hV (-4) 4 rfl (by decide) (by decide)) ?_
        rintro _ τR ⟨rfl, hRf, r32⟩
        exact r_retI dX5_minute_37 (go_bad (by first | (simp [cMinute, *]; done) | (unfold cMinute; (try simp only [hdc]); (repeat' split); all_goals first | rfl | contradiction | omega | (exfalso; simp only [Int32.lt_iff_toInt_lt, Int32.le_iff_toInt_le] at *; omega))) (by first | decide | assumption) hRf (hJ.c r32))
      · refine r_iload (q := 27) dX5_minute_25 rfl rfl ?_
        refine r_iconst (q := 28) (v := nI 1) dX5_minute_27 rfl (by decide) ?_
        refine r_icmp_ge (t := 38) (q := 31) dX5_minute_28 (by decide) rfl (fun c28 => ?_) (fun c28 => ?_)
        · refine r_iload_n (q := 39) dX5_minute_38 rfl rfl ?_
          refine r_bipush (q := 41) (v := nI 50) dX5_minute_39 rfl (by decide) ?_
          refine r_icmp_gt (t := 68) (q := 44) dX5_minute_41 (by decide) rfl (fun c41 => ?_) (fun c41 => ?_)
          · refine r_aload_n (q := 69) dX5_minute_68 rfl rfl ?_
            refine r_bipush (q := 71) (v := -6) dX5_minute_69 rfl (by decide) ?_
            refine r_cI1 (q := 74) vX5_71 dX5_minute_71 rfl LYX5 rfl (Nat.le_of_ble_eq_true rfl) (by decide) (by decide) (c_X5_refuse _ V hV (-6) 6 rfl (by decide) (by decide)) ?_
            rintro _ τR ⟨rfl, hRf, r32⟩
            exact r_retI dX5_minute_74 (go_bad (by first | (simp [cMinute, *]; done) | (unfold cMinute; (try simp only [hdc]); (repeat' split); all_goals first | rfl | contradiction | omega | (exfalso; simp only [Int32.lt_iff_toInt_lt, Int32.le_iff_toInt_le] at *; omega))) (by first | decide | assumption) hRf (hJ.c r32))
          · refine r_iload_n (q := 45) dX5_minute_44 rfl rfl ?_
            refine r_bipush (q := 47) (v := nI 50) dX5_minute_45 rfl (by decide) ?_
            refine r_icmp_gt (t := 68) (q := 50) dX5_minute_47 (by decide) rfl (fun c47 => ?_) (fun c47 => ?_)
            · refine r_aload_n (q := 69) dX5_minute_68 rfl rfl ?_
              refine r_bipush (q := 71) (v := -6) dX5_minute_69 rfl (by decide) ?_
              refine r_cI1 (q := 74) vX5_71 dX5_minute_71 rfl LYX5 rfl (Nat.le_of_ble_eq_true rfl) (by decide) (by decide) (c_X5_refuse _ V hV (-6) 6 rfl (by decide) (by decide)) ?_
              rintro _ τR ⟨rfl, hRf, r32⟩
              exact r_retI dX5_minute_74 (go_bad (by first | (simp [cMinute, *]; done) | (unfold cMinute; (try simp only [hdc]); (repeat' split); all_goals first | rfl | contradiction | omega | (exfalso; simp only [Int32.lt_iff_toInt_lt, Int32.le_iff_toInt_le] at *; omega))) (by first | decide | assumption) hRf (hJ.c r32))
            · refine r_iload (q := 52) dX5_minute_50 rfl rfl ?_
              refine r_bipush (q := 54) (v := nI 50) dX5_minute_52 rfl (by decide) ?_
              refine r_icmp_gt (t := 68) (q := 57) dX5_minute_54 (by decide) rfl (fun c54 => ?_) (fun c54 => ?_)
              · refine r_aload_n (q := 69) dX5_minute_68 rfl rfl ?_
                refine r_bipush (q := 71) (v := -6) dX5_minute_69 rfl (by decide) ?_
                refine r_cI1 (q := 74) vX5_71 dX5_minute_71 rfl LYX5 rfl (Nat.le_of_ble_eq_true rfl) (by decide) (by decide) (c_X5_refuse _ V hV (-6) 6 rfl (by decide) (by decide)) ?_
                rintro _ τR ⟨rfl, hRf, r32⟩
                exact r_retI dX5_minute_74 (go_bad (by first | (simp [cMinute, *]; done) | (unfold cMinute; (try simp only [hdc]); (repeat' split); all_goals first | rfl | contradiction | omega | (exfalso; simp only [Int32.lt_iff_toInt_lt, Int32.le_iff_toInt_le] at *; omega))) (by first | decide | assumption) hRf (hJ.c r32))
              · refine r_aload_n (q := 58) dX5_minute_57 rfl rfl ?_
                refine gX5_10 (q := 61) dX5_minute_58 rfl ?_
                refine r_iload_n (q := 62) dX5_minute_61 rfl rfl ?_
                refine r_cI1 (q := 65) vX5_75 dX5_minute_62 rfl LYX3 rfl (Nat.le_of_ble_eq_true rfl) (by decide) (by decide) (c_X3_isFull _ V hV hG d hd) ?_
                rintro _ τ0 ⟨rfl, hτ0⟩
                rw [hτ0]
                clear hτ0
                refine r_if_eqN (t := 75) (q := 68) dX5_minute_65 (by decide) rfl (by split <;> omega) (fun c65 => ?_) (fun c65 => ?_)
                · have c65 : ¬ nv V 34 d = 24 := by intro h; rw [if_pos h] at c65; omega
                  refine r_aload_n (q := 76) dX5_minute_75 rfl rfl ?_
                  refine r_cV0 (q := 79) vX5_78 dX5_minute_76 rfl LYX5 rfl (Nat.le_of_ble_eq_true rfl) (by decide) (by decide) (c_X5_forgetLight _ _ hV) ?_
                  rintro sF ⟨hVF, nF⟩
                  refine r_aload_n (q := 80) dX5_minute_79 rfl rfl ?_
                  refine gX5_10 (q := 83) dX5_minute_80 rfl ?_
                  refine r_iload_n (q := 84) dX5_minute_83 rfl rfl ?_
                  refine r_iload_n (q := 85) dX5_minute_84 rfl rfl ?_
                  refine r_iload_n (q := 86) dX5_minute_85 rfl rfl ?_
                  refine r_iload (q := 88) dX5_minute_86 rfl rfl ?_
                  refine r_cI4 (q := 91) vX5_81 dX5_minute_88 rfl LYX3 rfl (Nat.le_of_ble_eq_true rfl) (by decide) (by decide) (c_X3_add _ V hVF hG d _ _ _ hd (by omega)) ?_
                  rintro _ s88 ⟨rfl, hV88, q88⟩
                  exact r_retI dX5_minute_91 (go_ok (by first | (simp [cMinute, *]; done) | (unfold cMinute; (try simp only [hdc]); (repeat' split); all_goals first | rfl | contradiction | omega | (exfalso; simp only [Int32.lt_iff_toInt_lt, Int32.le_iff_toInt_le] at *; omega))) (by rw [hdc]) ⟨by rw [hdc]; exact hV88, none32.c nF q88⟩)
                · rename_i c65
                  have c65 : nv V 34 d = 24 := by by_cases h : nv V 34 d = 24; exact h; rw [if_neg h] at c65; omega
                  refine r_aload_n (q := 69) dX5_minute_68 rfl rfl ?_
                  refine r_bipush (q := 71) (v := -6) dX5_minute_69 rfl (by decide) ?_
                  refine r_cI1 (q := 74) vX5_71 dX5_minute_71 rfl LYX5 rfl (Nat.le_of_ble_eq_true rfl) (by decide) (by decide) (c_X5_refuse _ V hV (-6) 6 rfl (by decide) (by decide)) ?_
                  rintro _ τR ⟨rfl, hRf, r32⟩
                  exact r_retI dX5_minute_74 (go_bad (by first | (simp [cMinute, *]; done) | (unfold cMinute; (try simp only [hdc]); (repeat' split); all_goals first | rfl | contradiction | omega | (exfalso; simp only [Int32.lt_iff_toInt_lt, Int32.le_iff_toInt_le] at *; omega))) (by first | decide | assumption) hRf (hJ.c r32))
        · refine r_aload_n (q := 32) dX5_minute_31 rfl rfl ?_
          refine r_bipush (q := 34) (v := -4) dX5_minute_32 rfl (by decide) ?_
          refine r_cI1 (q := 37) vX5_71 dX5_minute_34 rfl LYX5 rfl (Nat.le_of_ble_eq_true rfl) (by decide) (by decide) (c_X5_refuse _ V hV (-4) 4 rfl (by decide) (by decide)) ?_
          rintro _ τR ⟨rfl, hRf, r32⟩
          exact r_retI dX5_minute_37 (go_bad (by first | (simp [cMinute, *]; done) | (unfold cMinute; (try simp only [hdc]); (repeat' split); all_goals first | rfl | contradiction | omega | (exfalso; simp only [Int32.lt_iff_toInt_lt, Int32.le_iff_toInt_le] at *; omega))) (by first | decide | assumption) hRf (hJ.c r32))
  · refine r_aload_n (q := 8) dX5_minute_7 rfl rfl ?_
    refine r_iconst (q := 9) (v := -1) dX5_minute_8 rfl (by decide) ?_
    refine r_cI1 (q := 12) vX5_71 dX5_minute_9 rfl LYX5 rfl (Nat.le_of_ble_eq_true rfl) (by decide) (by decide) (c_X5_refuse _ V hV (-1) 1 rfl (by decide) (by decide)) ?_
    rintro _ τR ⟨rfl, hRf, r32⟩
    exact r_retI dX5_minute_12 (go_bad (by first | (simp [cMinute, *]; done) | (unfold cMinute; (try simp only [hdc]); (repeat' split); all_goals first | rfl | contradiction | omega | (exfalso; simp only [Int32.lt_iff_toInt_lt, Int32.le_iff_toInt_le] at *; omega))) (by first | decide | assumption) hRf (hJ.c r32))
set_option maxRecDepth 100000 in
set_option maxHeartbeats 4000000 in
theorem c_X5_block (σ V : St) (hV : vw σ = V) (hG : GOOD V) (hJ : J V σ) (k x0 x1 y0 y1 f t : Int32) : Cl LAYC yX5_block cX5_block 8 (some .int) 2 43 [.ref 0, .int k, .int x0, .int x1, .int y0, .int y1, .int f, .int t] σ (EI (fun v τ => v = resO (cBlock V k x0 x1 y0 y1 f t) (nI (nv V 33 7)) ∧ finO (cBlock V k x0 x1 y0 y1 f t) (vw τ = blkC V k x0 x1 y0 y1 f t ∧ none32 τ) V τ)) := by
  have hI := hG.1.1
  have hR := hG.2
  have hnw := bd hI 33 19 20 rfl rfl
  have hnb := bd hI 33 7 40 rfl rfl
  refine Cl.of 0 rfl rfl EI.ok ?_
  show Rn LAYC none RX5 _ _ _ _ 0 [some (.ref 0), some (.int k), some (.int x0), some (.int x1), some (.int y0), some (.int y1), some (.int f), some (.int t)] [] _ _
  refine r_iload_n (q := 1) dX5_block_0 rfl rfl ?_
  refine r_if_lt (t := 9) (q := 4) dX5_block_1 (by decide) rfl (fun c1 => ?_) (fun c1 => ?_)
  · refine r_aload_n (q := 10) dX5_block_9 rfl rfl ?_
    refine r_bipush (q := 12) (v := -2) dX5_block_10 rfl (by decide) ?_
    refine r_cI1 (q := 15) vX5_71 dX5_block_12 rfl LYX5 rfl (Nat.le_of_ble_eq_true rfl) (by decide) (by decide) (c_X5_refuse _ V hV (-2) 2 rfl (by decide) (by decide)) ?_
    rintro _ τR ⟨rfl, hRf, r32⟩
    exact r_retI dX5_block_15 (go_bad (by rw [cBlock, if_pos (in03_0 (Or.inl c1))]) (by first | decide | assumption) hRf (hJ.c r32))
  · refine r_iload_n (q := 5) dX5_block_4 rfl rfl ?_
    refine r_iconst (q := 6) (v := nI 3) dX5_block_5 rfl (by decide) ?_
    refine r_icmp_le (t := 16) (q := 9) dX5_block_6 (by decide) rfl (fun c6 => ?_) (fun c6 => ?_)
    · refine r_iload_n (q := 17) dX5_block_16 rfl rfl ?_
      refine r_if_lt (t := 49) (q := 20) dX5_block_17 (by decide) rfl (fun c17 => ?_) (fun c17 => ?_)
      · refine r_aload_n (q := 50) dX5_block_49 rfl rfl ?_
        refine r_bipush (q := 52) (v := -4) dX5_block_50 rfl (by decide) ?_
        refine r_cI1 (q := 55) vX5_71 dX5_block_52 rfl LYX5 rfl (Nat.le_of_ble_eq_true rfl) (by decide) (by decide) (c_X5_refuse _ V hV (-4) 4 rfl (by decide) (by decide)) ?_
        rintro _ τR ⟨rfl, hRf, r32⟩
        exact r_retI dX5_block_55 (go_bad (by rw [cBlock, if_neg (in03_1 c1 c6), if_pos c17]) (by first | decide | assumption) hRf (hJ.c r32))
      · refine r_iload (q := 22) dX5_block_20 rfl rfl ?_
        refine r_if_lt (t := 49) (q := 25) dX5_block_22 (by decide) rfl (fun c22 => ?_) (fun c22 => ?_)
        · refine r_aload_n (q := 50) dX5_block_49 rfl rfl ?_
          refine r_bipush (q := 52) (v := -4) dX5_block_50 rfl (by decide) ?_
          refine r_cI1 (q := 55) vX5_71 dX5_block_52 rfl LYX5 rfl (Nat.le_of_ble_eq_true rfl) (by decide) (by decide) (c_X5_refuse _ V hV (-4) 4 rfl (by decide) (by decide)) ?_
          rintro _ τR ⟨rfl, hRf, r32⟩
          exact r_retI dX5_block_55 (go_bad (by rw [cBlock, if_neg (in03_1 c1 c6), if_neg c17, if_pos c22]) (by first | decide | assumption) hRf (hJ.c r32))
        · refine r_iload (q := 27) dX5_block_25 rfl rfl ?_
          refine r_if_lt (t := 49) (q := 30) dX5_block_27 (by decide) rfl (fun c27 => ?_) (fun c27 => ?_)
          · refine r_aload_n (q := 50) dX5_block_49 rfl rfl ?_
            refine r_bipush (q := 52) (v := -4) dX5_block_50 rfl (by decide) ?_
            refine r_cI1 (q := 55) vX5_71 dX5_block_52 rfl LYX5 rfl (Nat.le_of_ble_eq_true rfl) (by decide) (by decide) (c_X5_refuse _ V hV (-4) 4 rfl (by decide) (by decide)) ?_
            rintro _ τR ⟨rfl, hRf, r32⟩
            exact r_retI dX5_block_55 (go_bad (by rw [cBlock, if_neg (in03_1 c1 c6), if_neg c17, if_neg c22, if_pos c27]) (by first | decide | assumption) hRf (hJ.c r32))
          · refine r_iload_n (q := 31) dX5_block_30 rfl rfl ?_
            refine r_iload_n (q := 32) dX5_block_31 rfl rfl ?_
            refine r_icmp_le (t := 49) (q := 35) dX5_block_32 (by decide) rfl (fun c32 => ?_) (fun c32 => ?_)
            · refine r_aload_n (q := 50) dX5_block_49 rfl rfl ?_
              refine r_bipush (q := 52) (v := -4) dX5_block_50 rfl (by decide) ?_
              refine r_cI1 (q := 55) vX5_71 dX5_block_52 rfl LYX5 rfl (Nat.le_of_ble_eq_true rfl) (by decide) (by decide) (c_X5_refuse _ V hV (-4) 4 rfl (by decide) (by decide)) ?_
              rintro _ τR ⟨rfl, hRf, r32⟩
              exact r_retI dX5_block_55 (go_bad (by rw [cBlock, if_neg (in03_1 c1 c6), if_neg c17, if_neg c22, if_neg c27, if_pos c32]) (by first | decide | assumption) hRf (hJ.c r32))
            · refine r_iload (q := 37) dX5_block_35 rfl rfl ?_
              refine r_iload (q := 39) dX5_block_37 rfl rfl ?_
              refine r_icmp_le (t := 49) (q := 42) dX5_block_39 (by decide) rfl (fun c39 => ?_) (fun c39 => ?_)
              · refine r_aload_n (q := 50) dX5_block_49 rfl rfl ?_
                refine r_bipush (q := 52) (v := -4) dX5_block_50 rfl (by decide) ?_
                refine r_cI1 (q := 55) vX5_71 dX5_block_52 rfl LYX5 rfl (Nat.le_of_ble_eq_true rfl) (by decide) (by decide) (c_X5_refuse _ V hV (-4) 4 rfl (by decide) (by decide)) ?_
                rintro _ τR ⟨rfl, hRf, r32⟩
                exact r_retI dX5_block_55 (go_bad (by rw [cBlock, if_neg (in03_1 c1 c6), if_neg c17, if_neg c22, if_neg c27, if_neg c32, if_pos c39]) (by first | decide | assumption) hRf (hJ.c r32))
              · refine r_iload (q := 44) dX5_block_42 rfl rfl ?_
                refine r_iload (q := 46) dX5_block_44 rfl rfl ?_
                refine r_icmp_gt (t := 56) (q := 49) dX5_block_46 (by decide) rfl (fun c46 => ?_) (fun c46 => ?_)
                · refine r_iload_n (q := 57) dX5_block_56 rfl rfl ?_
                  refine r_sipush (q := 60) (v := nI 200) dX5_block_57 rfl (by decide) ?_
                  refine r_icmp_gt (t := 89) (q := 63) dX5_block_60 (by decide) rfl (fun c60 => ?_) (fun c60 => ?_)
                  · refine r_aload_n (q := 90) dX5_block_89 rfl rfl ?_
                    refine r_bipush (q := 92) (v := -6) dX5_block_90 rfl (by decide) ?_
                    refine r_cI1 (q := 95) vX5_71 dX5_block_92 rfl LYX5 rfl (Nat.le_of_ble_eq_true rfl) (by decide) (by decide) (c_X5_refuse _ V hV (-6) 6 rfl (by decide) (by decide)) ?_
                    rintro _ τR ⟨rfl, hRf, r32⟩
                    exact r_retI dX5_block_95 (go_bad (by rw [cBlock, if_neg (in03_1 c1 c6), if_neg c17, if_neg c22, if_neg c27, if_neg c32, if_neg c39, if_neg (Int32.not_le.mpr c46), if_pos c60]) (by first | decide | assumption) hRf (hJ.c r32))
                  · refine r_iload (q := 65) dX5_block_63 rfl rfl ?_
                    refine r_sipush (q := 68) (v := nI 200) dX5_block_65 rfl (by decide) ?_
                    refine r_icmp_gt (t := 89) (q := 71) dX5_block_68 (by decide) rfl (fun c68 => ?_) (fun c68 => ?_)
                    · refine r_aload_n (q := 90) dX5_block_89 rfl rfl ?_
                      refine r_bipush (q := 92) (v := -6) dX5_block_90 rfl (by decide) ?_
                      refine r_cI1 (q := 95) vX5_71 dX5_block_92 rfl LYX5 rfl (Nat.le_of_ble_eq_true rfl) (by decide) (by decide) (c_X5_refuse _ V hV (-6) 6 rfl (by decide) (by decide)) ?_
                      rintro _ τR ⟨rfl, hRf, r32⟩
                      exact r_retI dX5_block_95 (go_bad (by rw [cBlock, if_neg (in03_1 c1 c6), if_neg c17, if_neg c22, if_neg c27, if_neg c32, if_neg c39, if_neg (Int32.not_le.mpr c46), if_neg c60, if_pos c68]) (by first | decide | assumption) hRf (hJ.c r32))
                    · refine r_iload (q := 73) dX5_block_71 rfl rfl ?_
                      refine r_sipush (q := 76) (v := nI 200) dX5_block_73 rfl (by decide) ?_
                      refine r_icmp_gt (t := 89) (q := 79) dX5_block_76 (by decide) rfl (fun c76 => ?_) (fun c76 => ?_)
                      · refine r_aload_n (q := 90) dX5_block_89 rfl rfl ?_
                        refine r_bipush (q := 92) (v := -6) dX5_block_90 rfl (by decide) ?_
                        refine r_cI1 (q := 95) vX5_71 dX5_block_92 rfl LYX5 rfl (Nat.le_of_ble_eq_true rfl) (by decide) (by decide) (c_X5_refuse _ V hV (-6) 6 rfl (by decide) (by decide)) ?_
                        rintro _ τR ⟨rfl, hRf, r32⟩
                        exact r_retI dX5_block_95 (go_bad (by rw [cBlock, if_neg (in03_1 c1 c6), if_neg c17, if_neg c22, if_neg c27, if_neg c32, if_neg c39, if_neg (Int32.not_le.mpr c46), if_neg c60, if_neg c68, if_pos c76]) (by first | decide | assumption) hRf (hJ.c r32))
                      · refine r_aload_n (q := 80) dX5_block_79 rfl rfl ?_
                        refine gX5_19 (q := 83) dX5_block_80 rfl ?_
                        refine r_cI0 (q := 86) vX5_85 dX5_block_83 rfl LYX1 rfl (Nat.le_of_ble_eq_true rfl) (by decide) (by decide) (c_X1_isFull _ V hV hG) ?_
                        rintro _ τ0 ⟨rfl, hτ0⟩
                        rw [hτ0]
                        clear hτ0
                        refine r_if_eqN (t := 96) (q := 89) dX5_block_86 (by decide) rfl (by split <;> omega) (fun c86 => ?_) (fun c86 => ?_)
                        · have c86 : ¬ nv V 33 7 = 40 := by intro h; rw [if_pos h] at c86; omega
                          have hrb := hR.nb
                          refine r_aload_n (q := 97) dX5_block_96 rfl rfl ?_
                          refine r_cV0 (q := 100) vX5_78 dX5_block_97 rfl LYX5 rfl (Nat.le_of_ble_eq_true rfl) (by decide) (by decide) (c_X5_forgetLight _ _ hV) ?_
                          rintro sF ⟨hVF, nF⟩
                          refine r_aload_n (q := 101) dX5_block_100 rfl rfl ?_
                          refine gX5_19 (q := 104) dX5_block_101 rfl ?_
                          refine r_iload_n (q := 105) dX5_block_104 rfl rfl ?_
                          refine r_iload_n (q := 106) dX5_block_105 rfl rfl ?_
                          refine r_iload_n (q := 107) dX5_block_106 rfl rfl ?_
                          refine r_iload (q := 109) dX5_block_107 rfl rfl ?_
                          refine r_iload (q := 111) dX5_block_109 rfl rfl ?_
                          refine r_iload (q := 113) dX5_block_111 rfl rfl ?_
                          refine r_iload (q := 115) dX5_block_113 rfl rfl ?_
                          refine r_cI7 (q := 118) vX5_88 dX5_block_115 rfl LYX1 rfl (Nat.le_of_ble_eq_true rfl) (by decide) (by decide) (c_X1_add _ V hVF hG _ _ _ _ _ _ _ (by omega)) ?_
                          rintro _ s115 ⟨rfl, hV115, q115⟩
                          exact r_retI dX5_block_118 (go_ok (by rw [cBlock, if_neg (in03_1 c1 c6), if_neg c17, if_neg c22, if_neg c27, if_neg c32, if_neg c39, if_neg (Int32.not_le.mpr c46), if_neg c60, if_neg c68, if_neg c76, if_neg c86]) rfl ⟨hV115, none32.c nF q115⟩)
                        · have c86 : nv V 33 7 = 40 := by by_cases h : nv V 33 7 = 40; exact h; rw [if_neg h] at c86; omega
                          refine r_aload_n (q := 90) dX5_block_89 rfl rfl ?_
                          refine r_bipush (q := 92) (v := -6) dX5_block_90 rfl (by decide) ?_
                          refine r_cI1 (q := 95) vX5_71 dX5_block_92 rfl LYX5 rfl (Nat.le_of_ble_eq_true rfl) (by decide) (by decide) (c_X5_refuse _ V hV (-6) 6 rfl (by decide) (by decide)) ?_
                          rintro _ τR ⟨rfl, hRf, r32⟩
                          exact r_retI dX5_block_95 (go_bad (by rw [cBlock, if_neg (in03_1 c1 c6), if_neg c17, if_neg c22, if_neg c27, if_neg c32, if_neg c39, if_neg (Int32.not_le.mpr c46), if_neg c60, if_neg c68, if_neg c76, if_pos c86]) (by first | decide | assumption) hRf (hJ.c r32))
                · refine r_aload_n (q := 50) dX5_block_49 rfl rfl ?_
                  refine r_bipush (q := 52) (v := -4) dX5_block_50 rfl (by decide) ?_
                  refine r_cI1 (q := 55) vX5_71 dX5_block_52 rfl LYX5 rfl (Nat.le_of_ble_eq_true rfl) (by decide) (by decide) (c_X5_refuse _ V hV (-4) 4 rfl (by decide) (by decide)) ?_
                  rintro _ τR ⟨rfl, hRf, r32⟩
                  exact r_retI dX5_block_55 (go_bad (by rw [cBlock, if_neg (in03_1 c1 c6), if_neg c17, if_neg c22, if_neg c27, if_neg c32, if_neg c39, if_pos (Int32.not_lt.mp c46)]) (by first | decide | assumption) hRf (hJ.c r32))
    · refine r_aload_n (q := 10) dX5_block_9 rfl rfl ?_
      refine r_bipush (q := 12) (v := -2) dX5_block_10 rfl (by decide) ?_
      refine r_cI1 (q := 15) vX5_71 dX5_block_12 rfl LYX5 rfl (Nat.le_of_ble_eq_true rfl) (by decide) (by decide) (c_X5_refuse _ V hV (-2) 2 rfl (by decide) (by decide)) ?_
      rintro _ τR ⟨rfl, hRf, r32⟩
      exact r_retI dX5_block_15 (go_bad (by rw [cBlock, if_pos (in03_0 (Or.inr c6))]) (by first | decide | assumption) hRf (hJ.c r32))
set_option maxRecDepth 100000 in
set_option maxHeartbeats 4000000 in
theorem c_X5_window (σ V : St) (hV : vw σ = V) (hG : GOOD V) (hJ : J V σ) (s a ua ub za zb : Int32) : Cl LAYC yX5_window cX5_window 7 (some .int) 1 27 [.ref 0, .int s, .int a, .int ua, .int ub, .int za, .int zb] σ (EI (fun v τ => v = resO (cWindow V s a ua ub za zb) (nI (nv V 33 19)) ∧ finO (cWindow V s a ua ub za zb) (vw τ = winC V s a ua ub za zb ∧ τ 32 = σ 32) V τ)) := by
  have hI := hG.1.1
  have hR := hG.2
  have hnw := bd hI 33 19 20 rfl rfl
  have hnb := bd hI 33 7 40 rfl rfl
  refine Cl.of 0 rfl rfl EI.ok ?_
  show Rn LAYC none RX5 _ _ _ _ 0 [some (.ref 0), some (.int s), some (.int a), some (.int ua), some (.int ub), some (.int za), some (.int zb)] [] _ _
  refine r_iload_n (q := 1) dX5_window_0 rfl rfl ?_
  refine r_if_lt (t := 9) (q := 4) dX5_window_1 (by decide) rfl (fun c1 => ?_) (fun c1 => ?_)
  · refine r_aload_n (q := 10) dX5_window_9 rfl rfl ?_
    refine r_bipush (q := 12) (v := -2) dX5_window_10 rfl (by decide) ?_
    refine r_cI1 (q := 15) vX5_71 dX5_window_12 rfl LYX5 rfl (Nat.le_of_ble_eq_true rfl) (by decide) (by decide) (c_X5_refuse _ V hV (-2) 2 rfl (by decide) (by decide)) ?_
    rintro _ τR ⟨rfl, hRf, r32⟩
    exact r_retI dX5_window_15 (go_bad (by rw [cWindow, if_pos (in03_0 (Or.inl c1))]) (by first | decide | assumption) hRf (hJ.c r32))
  · refine r_iload_n (q := 5) dX5_window_4 rfl rfl ?_
    refine r_iconst (q := 6) (v := nI 4) dX5_window_5 rfl (by decide) ?_
    refine r_icmp_lt (t := 16) (q := 9) dX5_window_6 (by decide) rfl (fun c6 => ?_) (fun c6 => ?_)
    · refine r_iload_n (q := 17) dX5_window_16 rfl rfl ?_
      refine r_if_lt (t := 42) (q := 20) dX5_window_17 (by decide) rfl (fun c17 => ?_) (fun c17 => ?_)
      · refine r_aload_n (q := 43) dX5_window_42 rfl rfl ?_
        refine r_bipush (q := 45) (v := -4) dX5_window_43 rfl (by decide) ?_
        refine r_cI1 (q := 48) vX5_71 dX5_window_45 rfl LYX5 rfl (Nat.le_of_ble_eq_true rfl) (by decide) (by decide) (c_X5_refuse _ V hV (-4) 4 rfl (by decide) (by decide)) ?_
        rintro _ τR ⟨rfl, hRf, r32⟩
        exact r_retI dX5_window_48 (go_bad (by rw [cWindow, if_neg (in03_1 c1 (lt4.mp c6)), if_pos c17]) (by first | decide | assumption) hRf (hJ.c r32))
      · refine r_iload_n (q := 21) dX5_window_20 rfl rfl ?_
        refine r_if_lt (t := 42) (q := 24) dX5_window_21 (by decide) rfl (fun c21 => ?_) (fun c21 => ?_)
        · refine r_aload_n (q := 43) dX5_window_42 rfl rfl ?_
          refine r_bipush (q := 45) (v := -4) dX5_window_43 rfl (by decide) ?_
          refine r_cI1 (q := 48) vX5_71 dX5_window_45 rfl LYX5 rfl (Nat.le_of_ble_eq_true rfl) (by decide) (by decide) (c_X5_refuse _ V hV (-4) 4 rfl (by decide) (by decide)) ?_
          rintro _ τR ⟨rfl, hRf, r32⟩
          exact r_retI dX5_window_48 (go_bad (by rw [cWindow, if_neg (in03_1 c1 (lt4.mp c6)), if_neg c17, if_pos c21]) (by first | decide | assumption) hRf (hJ.c r32))
        · refine r_iload (q := 26) dX5_window_24 rfl rfl ?_
          refine r_if_lt (t := 42) (q := 29) dX5_window_26 (by decide) rfl (fun c26 => ?_) (fun c26 => ?_)
          · refine r_aload_n (q := 43) dX5_window_42 rfl rfl ?_
            refine r_bipush (q := 45) (v := -4) dX5_window_43 rfl (by decide) ?_
            refine r_cI1 (q := 48) vX5_71 dX5_window_45 rfl LYX5 rfl (Nat.le_of_ble_eq_true rfl) (by decide) (by decide) (c_X5_refuse _ V hV (-4) 4 rfl (by decide) (by decide)) ?_
            rintro _ τR ⟨rfl, hRf, r32⟩
            exact r_retI dX5_window_48 (go_bad (by rw [cWindow, if_neg (in03_1 c1 (lt4.mp c6)), if_neg c17, if_neg c21, if_pos c26]) (by first | decide | assumption) hRf (hJ.c r32))
          · refine r_iload (q := 31) dX5_window_29 rfl rfl ?_
            refine r_iload_n (q := 32) dX5_window_31 rfl rfl ?_
            refine r_icmp_le (t := 42) (q := 35) dX5_window_32 (by decide) rfl (fun c32 => ?_) (fun c32 => ?_)
            · refine r_aload_n (q := 43) dX5_window_42 rfl rfl ?_
              refine r_bipush (q := 45) (v := -4) dX5_window_43 rfl (by decide) ?_
              refine r_cI1 (q := 48) vX5_71 dX5_window_45 rfl LYX5 rfl (Nat.le_of_ble_eq_true rfl) (by decide) (by decide) (c_X5_refuse _ V hV (-4) 4 rfl (by decide) (by decide)) ?_
              rintro _ τR ⟨rfl, hRf, r32⟩
              exact r_retI dX5_window_48 (go_bad (by rw [cWindow, if_neg (in03_1 c1 (lt4.mp c6)), if_neg c17, if_neg c21, if_neg c26, if_pos c32]) (by first | decide | assumption) hRf (hJ.c r32))
            · refine r_iload (q := 37) dX5_window_35 rfl rfl ?_
              refine r_iload (q := 39) dX5_window_37 rfl rfl ?_
              refine r_icmp_gt (t := 49) (q := 42) dX5_window_39 (by decide) rfl (fun c39 => ?_) (fun c39 => ?_)
              · refine r_iload_n (q := 50) dX5_window_49 rfl rfl ?_
                refine r_sipush (q := 53) (v := nI 200) dX5_window_50 rfl (by decide) ?_
                refine r_icmp_gt (t := 72) (q := 56) dX5_window_53 (by decide) rfl (fun c53 => ?_) (fun c53 => ?_)
                · refine r_aload_n (q := 73) dX5_window_72 rfl rfl ?_
                  refine r_bipush (q := 75) (v := -6) dX5_window_73 rfl (by decide) ?_
                  refine r_cI1 (q := 78) vX5_71 dX5_window_75 rfl LYX5 rfl (Nat.le_of_ble_eq_true rfl) (by decide) (by decide) (c_X5_refuse _ V hV (-6) 6 rfl (by decide) (by decide)) ?_
                  rintro _ τR ⟨rfl, hRf, r32⟩
                  exact r_retI dX5_window_78 (go_bad (by rw [cWindow, if_neg (in03_1 c1 (lt4.mp c6)), if_neg c17, if_neg c21, if_neg c26, if_neg c32, if_neg (Int32.not_le.mpr c39), if_pos c53]) (by first | decide | assumption) hRf (hJ.c r32))
                · refine r_iload (q := 58) dX5_window_56 rfl rfl ?_
                  refine r_sipush (q := 61) (v := nI 200) dX5_window_58 rfl (by decide) ?_
                  refine r_icmp_gt (t := 72) (q := 64) dX5_window_61 (by decide) rfl (fun c61 => ?_) (fun c61 => ?_)
                  · refine r_aload_n (q := 73) dX5_window_72 rfl rfl ?_
                    refine r_bipush (q := 75) (v := -6) dX5_window_73 rfl (by decide) ?_
                    refine r_cI1 (q := 78) vX5_71 dX5_window_75 rfl LYX5 rfl (Nat.le_of_ble_eq_true rfl) (by decide) (by decide) (c_X5_refuse _ V hV (-6) 6 rfl (by decide) (by decide)) ?_
                    rintro _ τR ⟨rfl, hRf, r32⟩
                    exact r_retI dX5_window_78 (go_bad (by rw [cWindow, if_neg (in03_1 c1 (lt4.mp c6)), if_neg c17, if_neg c21, if_neg c26, if_neg c32, if_neg (Int32.not_le.mpr c39), if_neg c53, if_pos c61]) (by first | decide | assumption) hRf (hJ.c r32))
                  · refine r_iload (q := 66) dX5_window_64 rfl rfl ?_
                    refine r_sipush (q := 69) (v := nI 200) dX5_window_66 rfl (by decide) ?_
                    refine r_icmp_le (t := 79) (q := 72) dX5_window_69 (by decide) rfl (fun c69 => ?_) (fun c69 => ?_)
                    · refine r_iload (q := 81) dX5_window_79 rfl rfl ?_
                      refine r_iload_n (q := 82) dX5_window_81 rfl rfl ?_
                      refine r_isub (q := 83) dX5_window_82 rfl ?_
                      refine r_iload (q := 85) dX5_window_83 rfl rfl ?_
                      refine r_iload (q := 87) dX5_window_85 rfl rfl ?_
                      refine r_isub (q := 88) dX5_window_87 rfl ?_
                      refine r_imul (q := 89) dX5_window_88 rfl ?_
                      refine r_bipush (q := 91) (v := nI 64) dX5_window_89 rfl (by decide) ?_
                      refine r_icmp_gt (t := 104) (q := 94) dX5_window_91 (by decide) rfl (fun c91 => ?_) (fun c91 => ?_)
                      · refine r_aload_n (q := 105) dX5_window_104 rfl rfl ?_
                        refine r_bipush (q := 107) (v := -6) dX5_window_105 rfl (by decide) ?_
                        refine r_cI1 (q := 110) vX5_71 dX5_window_107 rfl LYX5 rfl (Nat.le_of_ble_eq_true rfl) (by decide) (by decide) (c_X5_refuse _ V hV (-6) 6 rfl (by decide) (by decide)) ?_
                        rintro _ τR ⟨rfl, hRf, r32⟩
                        exact r_retI dX5_window_110 (go_bad (by rw [cWindow, if_neg (in03_1 c1 (lt4.mp c6)), if_neg c17, if_neg c21, if_neg c26, if_neg c32, if_neg (Int32.not_le.mpr c39), if_neg c53, if_neg c61, if_neg (Int32.not_lt.mpr c69), if_pos c91]) (by first | decide | assumption) hRf (hJ.c r32))
                      · refine r_aload_n (q := 95) dX5_window_94 rfl rfl ?_
                        refine gX5_26 (q := 98) dX5_window_95 rfl ?_
                        refine r_cI0 (q := 101) vX5_123 dX5_window_98 rfl LYX4 rfl (Nat.le_of_ble_eq_true rfl) (by decide) (by decide) (c_X4_isFull _ V hV hG) ?_
                        rintro _ τ0 ⟨rfl, hτ0⟩
                        rw [hτ0]
                        clear hτ0
                        refine r_if_eqN (t := 111) (q := 104) dX5_window_101 (by decide) rfl (by split <;> omega) (fun c101 => ?_) (fun c101 => ?_)
                        · have c101 : ¬ nv V 33 19 = 20 := by intro h; rw [if_pos h] at c101; omega
                          have hrw := hR.nw
                          refine r_aload_n (q := 112) dX5_window_111 rfl rfl ?_
                          refine gX5_26 (q := 115) dX5_window_112 rfl ?_
                          refine r_iload_n (q := 116) dX5_window_115 rfl rfl ?_
                          refine r_iload_n (q := 117) dX5_window_116 rfl rfl ?_
                          refine r_iload_n (q := 118) dX5_window_117 rfl rfl ?_
                          refine r_iload (q := 120) dX5_window_118 rfl rfl ?_
                          refine r_iload (q := 122) dX5_window_120 rfl rfl ?_
                          refine r_iload (q := 124) dX5_window_122 rfl rfl ?_
                          refine r_cI6 (q := 127) vX5_124 dX5_window_124 rfl LYX4 rfl (Nat.le_of_ble_eq_true rfl) (by decide) (by decide) (c_X4_add _ V hV hG _ _ _ _ _ _ (by omega)) ?_
                          rintro _ s124 ⟨rfl, hV124, q124⟩
                          exact r_retI dX5_window_127 (go_ok (by rw [cWindow, if_neg (in03_1 c1 (lt4.mp c6)), if_neg c17, if_neg c21, if_neg c26, if_neg c32, if_neg (Int32.not_le.mpr c39), if_neg c53, if_neg c61, if_neg (Int32.not_lt.mpr c69), if_neg c91, if_neg c101]) rfl ⟨hV124, q124⟩)
                        · have c101 : nv V 33 19 = 20 := by by_cases h : nv V 33 19 = 20; exact h; rw [if_neg h] at c101; omega
                          refine r_aload_n (q := 105) dX5_window_104 rfl rfl ?_
                          refine r_bipush (q := 107) (v := -6) dX5_window_105 rfl (by decide) ?_
                          refine r_cI1 (q := 110) vX5_71 dX5_window_107 rfl LYX5 rfl (Nat.le_of_ble_eq_true rfl) (by decide) (by decide) (c_X5_refuse _ V hV (-6) 6 rfl (by decide) (by decide)) ?_
                          rintro _ τR ⟨rfl, hRf, r32⟩
                          exact r_retI dX5_window_110 (go_bad (by rw [cWindow, if_neg (in03_1 c1 (lt4.mp c6)), if_neg c17, if_neg c21, if_neg c26, if_neg c32, if_neg (Int32.not_le.mpr c39), if_neg c53, if_neg c61, if_neg (Int32.not_lt.mpr c69), if_neg c91, if_pos c101]) (by first | decide | assumption) hRf (hJ.c r32))
                    · refine r_aload_n (q := 73) dX5_window_72 rfl rfl ?_
                      refine r_bipush (q := 75) (v := -6) dX5_window_73 rfl (by decide) ?_
                      refine r_cI1 (q := 78) vX5_71 dX5_window_75 rfl LYX5 rfl (Nat.le_of_ble_eq_true rfl) (by decide) (by decide) (c_X5_refuse _ V hV (-6) 6 rfl (by decide) (by decide)) ?_
                      rintro _ τR ⟨rfl, hRf, r32⟩
                      exact r_retI dX5_window_78 (go_bad (by rw [cWindow, if_neg (in03_1 c1 (lt4.mp c6)), if_neg c17, if_neg c21, if_neg c26, if_neg c32, if_neg (Int32.not_le.mpr c39), if_neg c53, if_neg c61, if_pos (Int32.not_le.mp c69)]) (by first | decide | assumption) hRf (hJ.c r32))
              · refine r_aload_n (q := 43) dX5_window_42 rfl rfl ?_
                refine r_bipush (q := 45) (v := -4) dX5_window_43 rfl (by decide) ?_
                refine r_cI1 (q := 48) vX5_71 dX5_window_45 rfl LYX5 rfl (Nat.le_of_ble_eq_true rfl) (by decide) (by decide) (c_X5_refuse _ V hV (-4) 4 rfl (by decide) (by decide)) ?_
                rintro _ τR ⟨rfl, hRf, r32⟩
                exact r_retI dX5_window_48 (go_bad (by rw [cWindow, if_neg (in03_1 c1 (lt4.mp c6)), if_neg c17, if_neg c21, if_neg c26, if_neg c32, if_pos (Int32.not_lt.mp c39)]) (by first | decide | assumption) hRf (hJ.c r32))
    · refine r_aload_n (q := 10) dX5_window_9 rfl rfl ?_
      refine r_bipush (q := 12) (v := -2) dX5_window_10 rfl (by decide) ?_
      refine r_cI1 (q := 15) vX5_71 dX5_window_12 rfl LYX5 rfl (Nat.le_of_ble_eq_true rfl) (by decide) (by decide) (c_X5_refuse _ V hV (-2) 2 rfl (by decide) (by decide)) ?_
      rintro _ τR ⟨rfl, hRf, r32⟩
      exact r_retI dX5_window_15 (go_bad (by rw [cWindow, if_pos (in03_0 (Or.inr (fun h => c6 (lt4.mpr h))))]) (by first | decide | assumption) hRf (hJ.c r32))
set_option maxRecDepth 100000 in
set_option maxHeartbeats 4000000 in
theorem c_X5_release (σ V : St) (hV : vw σ = V) (hG : GOOD V) (hJ : J V σ) (x : Int32) : Cl LAYC yX5_release cX5_release 2 (some .boolean) 1 21 [.ref 0, .int x] σ (EI (fun v τ => v = nI (relN V x) ∧ vw τ = relV V x 21 ∧ τ 32 = σ 32)) := by
  have hI := hG.1.1
  have hR := hG.2
  have hnw := bd hI 33 19 20 rfl rfl
  have hnb := bd hI 33 7 40 rfl rfl
  refine Cl.of 0 rfl rfl (EI.okZ (okQ (relN_le _ _))) ?_
  show Rn LAYC none RX5 _ _ _ _ 0 [some (.ref 0), some (.int x)] [] _ _
  refine r_aload_n (q := 1) dX5_release_0 rfl rfl ?_
  refine gX5_26 (q := 4) dX5_release_1 rfl ?_
  refine r_iload_n (q := 5) dX5_release_4 rfl rfl ?_
  refine r_cI1 (q := 8) vX5_127 dX5_release_5 rfl LYX4 rfl (Nat.le_of_ble_eq_true rfl) (by decide) (by decide) (c_X4_has _ V hV hG _) ?_
  rintro _ τ0 ⟨rfl, hτ0⟩
  rw [hτ0]
  clear hτ0
  refine r_if_eqN (t := 23) (q := 11) dX5_release_8 (by decide) rfl (by have := ix_le x (nv V 33 19); omega) (fun c8 => ?_) (fun c8 => ?_)
  · refine r_iconst (q := 24) (v := nI 0) dX5_release_23 rfl (by decide) ?_
    have h0 : relN V x = 0 := if_pos c8
    exact r_retI dX5_release_24 ⟨by rw [h0], by rw [relV, if_pos h0]; exact hV, rfl⟩
  · obtain ⟨x, hx, rfl⟩ := ix_of c8
    have hxc := nI_clamp (n := x) (by omega)
    have hre := (hR.win x).2.2.2.2.2
    refine r_aload_n (q := 12) dX5_release_11 rfl rfl ?_
    refine gX5_26 (q := 15) dX5_release_12 rfl ?_
    refine gX5_184 (q := 18) dX5_release_15 rfl ?_
    refine r_iload_n (q := 19) dX5_release_18 rfl rfl ?_
    refine r_zaldV (q := 20) hV hI dX5_release_19 rfl LA21 rfl rfl (by decide) (by omega) ?_
    refine r_if_eqN (t := 25) (q := 23) dX5_release_20 (by decide) rfl (by have := bd hI 21 x 1 rfl rfl; omega) (fun c20 => ?_) (fun c20 => ?_)
    · refine r_aload_n (q := 26) dX5_release_25 rfl rfl ?_
      refine gX5_26 (q := 29) dX5_release_26 rfl ?_
      refine gX5_184 (q := 32) dX5_release_29 rfl ?_
      refine r_iload_n (q := 33) dX5_release_32 rfl rfl ?_
      refine r_iconst (q := 34) (v := nI 1) dX5_release_33 rfl (by decide) ?_
      refine r_zast (q := 35) dX5_release_34 rfl LA21 (by omega) (by decide) (Or.inr rfl) ?_
      refine r_iconst (q := 36) (v := nI 1) dX5_release_35 rfl (by decide) ?_
      have h0 : relN V (nI x) = 1 := (if_neg c8).trans (if_pos (by rw [hxc]; omega))
      exact r_retI dX5_release_36 ⟨by rw [h0], by rw [relV, if_neg (by omega), hxc]; exact vw_w hV rfl, rfl⟩
    · refine r_iconst (q := 24) (v := nI 0) dX5_release_23 rfl (by decide) ?_
      have h0 : relN V (nI x) = 0 := (if_neg c8).trans (if_neg (by rw [hxc]; omega))
      exact r_retI dX5_release_24 ⟨by rw [h0], by rw [relV, if_pos h0]; exact hV, rfl⟩
