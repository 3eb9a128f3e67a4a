/-! ===== bitCount ===== -/
theorem us_s : ∀ n, n < 32 → (((nI n).toUInt32 &&& Int32.toUInt32 31).toBitVec % 32).toNat = n := by decide +kernel
theorem us {n k m : Nat} (hn : n < 2 ^ 32) (hk : k < 32) (hm : 2 ^ k = m) : ((nI n).toUInt32 >>> ((nI k).toUInt32 &&& Int32.toUInt32 31)).toInt32 = nI (n / m) := by
  rw [← hm]
  exact pk_ushrN hn _ k (us_s k hk)
set_option maxRecDepth 100000 in
set_option maxHeartbeats 4000000 in
theorem c_bitCount (σ : St) (M : Nat) (h : M < 2 ^ 24) : Cl LAYC yJ6_bitCount_0f7a4 cJ6_bitCount_0f7a4 1 (some .int) 0 0 [.int (nI M)] σ (EI (fun v τ => v = nI (pop M 24) ∧ τ = σ)) := by
  refine Cl.of 0 rfl rfl EI.ok ?_
  show Rn LAYC none RJ6 _ _ _ _ 0 [some (.int (nI M))] [] _ _
  refine r_iload_n (q := 1) dJ6_bitCount_0f7a4_0 rfl rfl ?_
  refine r_iload_n (q := 2) dJ6_bitCount_0f7a4_1 rfl rfl ?_
  refine r_iconst (q := 3) (v := nI 1) dJ6_bitCount_0f7a4_2 rfl (by decide) ?_
  refine r_iushr (q := 4) dJ6_bitCount_0f7a4_3 rfl ?_
  refine r_as (us (n := M) (k := 1) (m := 2) (by omega) (by decide) (by decide)) ?_
  refine r_ldc_w (q := 7) dJ6_bitCount_0f7a4_4 rfl kJ6_265 ?_
  refine r_as (y := nI 1431655765) rfl ?_
  refine r_iand (q := 8) dJ6_bitCount_0f7a4_7 rfl ?_
  refine r_as (nI_and _ _) ?_
  refine r_isubN (q := 9) dJ6_bitCount_0f7a4_8 rfl (Nat.le_trans Nat.and_le_left (Nat.div_le_self _ _)) ?_
  refine r_istore_n (q := 10) dJ6_bitCount_0f7a4_9 rfl (Nat.le_of_ble_eq_true rfl) ?_
  obtain ⟨i1, hi1⟩ : ∃ x, x = M - (M / 2 &&& 1431655765) := ⟨_, rfl⟩
  rw [show nI (M - (M / 2 &&& 1431655765)) = nI i1 by rw [hi1]] 
  have b1 : i1 < 16777216 := by omega
  refine r_iload_n (q := 11) dJ6_bitCount_0f7a4_10 rfl rfl ?_
  refine r_ldc_w (q := 14) dJ6_bitCount_0f7a4_11 rfl kJ6_266 ?_
  refine r_as (y := nI 858993459) rfl ?_
  refine r_iand (q := 15) dJ6_bitCount_0f7a4_14 rfl ?_
  refine r_as (nI_and _ _) ?_
  refine r_iload_n (q := 16) dJ6_bitCount_0f7a4_15 rfl rfl ?_
  refine r_iconst (q := 17) (v := nI 2) dJ6_bitCount_0f7a4_16 rfl (by decide) ?_
  refine r_iushr (q := 18) dJ6_bitCount_0f7a4_17 rfl ?_
  refine r_as (us (n := i1) (k := 2) (m := 4) (by omega) (by decide) (by decide)) ?_
  refine r_ldc_w (q := 21) dJ6_bitCount_0f7a4_18 rfl kJ6_266 ?_
  refine r_as (y := nI 858993459) rfl ?_
  refine r_iand (q := 22) dJ6_bitCount_0f7a4_21 rfl ?_
  refine r_as (nI_and _ _) ?_
  refine r_iaddN (q := 23) dJ6_bitCount_0f7a4_22 rfl ?_
  refine r_istore_n (q := 24) dJ6_bitCount_0f7a4_23 rfl (Nat.le_of_ble_eq_true rfl) ?_
  obtain ⟨i2, hi2⟩ : ∃ x, x = (i1 &&& 858993459) + (i1 / 4 &&& 858993459) := ⟨_, rfl⟩
  have b2 : i2 < 33554432 := by have := @Nat.and_le_left i1 858993459; have := @Nat.and_le_left (i1 / 4) 858993459; omega
  rw [← hi2]
  refine r_iload_n (q := 25) dJ6_bitCount_0f7a4_24 rfl rfl ?_
  refine r_iload_n (q := 26) dJ6_bitCount_0f7a4_25 rfl rfl ?_
  refine r_iconst (q := 27) (v := nI 4) dJ6_bitCount_0f7a4_26 rfl (by decide) ?_
  refine r_iushr (q := 28) dJ6_bitCount_0f7a4_27 rfl ?_
  refine r_as (us (n := i2) (k := 4) (m := 16) (by omega) (by decide) (by decide)) ?_
  refine r_iaddN (q := 29) dJ6_bitCount_0f7a4_28 rfl ?_
  refine r_ldc_w (q := 32) dJ6_bitCount_0f7a4_29 rfl kJ6_267 ?_
  refine r_as (y := nI 252645135) rfl ?_
  refine r_iand (q := 33) dJ6_bitCount_0f7a4_32 rfl ?_
  refine r_as (nI_and _ _) ?_
  refine r_istore_n (q := 34) dJ6_bitCount_0f7a4_33 rfl (Nat.le_of_ble_eq_true rfl) ?_
  obtain ⟨i3, hi3⟩ : ∃ x, x = (i2 + i2 / 16) &&& 252645135 := ⟨_, rfl⟩
  have b3 : i3 < 67108864 := by have := @Nat.and_le_left (i2 + i2 / 16) 252645135; omega
  rw [← hi3]
  refine r_iload_n (q := 35) dJ6_bitCount_0f7a4_34 rfl rfl ?_
  refine r_iload_n (q := 36) dJ6_bitCount_0f7a4_35 rfl rfl ?_
  refine r_bipush (q := 38) (v := nI 8) dJ6_bitCount_0f7a4_36 rfl (by decide) ?_
  refine r_iushr (q := 39) dJ6_bitCount_0f7a4_38 rfl ?_
  refine r_as (us (n := i3) (k := 8) (m := 256) (by omega) (by decide) (by decide)) ?_
  refine r_iaddN (q := 40) dJ6_bitCount_0f7a4_39 rfl ?_
  refine r_istore_n (q := 41) dJ6_bitCount_0f7a4_40 rfl (Nat.le_of_ble_eq_true rfl) ?_
  obtain ⟨i4, hi4⟩ : ∃ x, x = i3 + i3 / 256 := ⟨_, rfl⟩
  have b4 : i4 < 134217728 := by omega
  rw [← hi4]
  refine r_iload_n (q := 42) dJ6_bitCount_0f7a4_41 rfl rfl ?_
  refine r_iload_n (q := 43) dJ6_bitCount_0f7a4_42 rfl rfl ?_
  refine r_bipush (q := 45) (v := nI 16) dJ6_bitCount_0f7a4_43 rfl (by decide) ?_
  refine r_iushr (q := 46) dJ6_bitCount_0f7a4_45 rfl ?_
  refine r_as (us (n := i4) (k := 16) (m := 65536) (by omega) (by decide) (by decide)) ?_
  refine r_iaddN (q := 47) dJ6_bitCount_0f7a4_46 rfl ?_
  refine r_istore_n (q := 48) dJ6_bitCount_0f7a4_47 rfl (Nat.le_of_ble_eq_true rfl) ?_
  obtain ⟨i5, hi5⟩ : ∃ x, x = i4 + i4 / 65536 := ⟨_, rfl⟩
  rw [← hi5]
  refine r_iload_n (q := 49) dJ6_bitCount_0f7a4_48 rfl rfl ?_
  refine r_bipush (q := 51) (v := nI 63) dJ6_bitCount_0f7a4_49 rfl (by decide) ?_
  refine r_iand (q := 52) dJ6_bitCount_0f7a4_51 rfl ?_
  refine r_as (nI_and _ _) ?_
  have e : (i5 &&& 63) = bcN M := by rw [hi5, hi4, hi3, hi2, hi1]; rfl
  exact r_retI dJ6_bitCount_0f7a4_52 ⟨by rw [e, bcN_pop h], rfl⟩
/-! ===== the cache ===== -/
def mskL (V : St) (w d : Nat) : Nat := msk (litN V w d) (nv V 34 d)
def J (V σ : St) : Prop := ∀ w d, w < 20 → d < 8 → σ 32 (w * 8 + d) = -1 ∨ (w < nv V 33 19 ∧ σ 32 (w * 8 + d) = nI (mskL V w d))
theorem J.c {V σ τ : St} (h : J V σ) (e : τ 32 = σ 32) : J V τ := by
  intro w d hw hd
  rw [e]
  exact h w d hw hd
theorem litN_le (V : St) (w d m : Nat) : litN V w d m ≤ 1 := by
  unfold litN
  split <;> omega
theorem hoursR_sum (V : St) (w d n : Nat) : hoursR V w d n = sumF (litN V w d) n := by
  induction n with
  | zero => rfl
  | succ n ih => rw [hoursR, sumF, ih]
theorem mskL_lt {V : St} (hI : InvN V) (w d : Nat) : mskL V w d < 2 ^ 24 := Nat.lt_of_lt_of_le (msk_lt (litN_le V w d) _) (Nat.pow_le_pow_right (by decide) (bd hI 34 d 24 rfl rfl))
theorem mskL_pop {V : St} (hI : InvN V) (w d : Nat) : pop (mskL V w d) 24 = hoursN V w d := by
  unfold mskL hoursN
  rw [msk_count (litN_le V w d) (bd hI 34 d 24 rfl rfl), hoursR_sum]
theorem mskL_bit {V : St} (w d m : Nat) (hm : m < nv V 34 d) : mskL V w d / 2 ^ m % 2 = litN V w d m := by
  unfold mskL
  rw [msk_bit (litN_le V w d), if_pos hm]
theorem litN_U {V U : St} {p : Int32} {t w d m : Nat} (h : PL V p t U) : litN U w d m = if 8 * sunN U w d m < nv V 33 5 * 4096 * cls V w then 0 else 1 := by
  unfold litN
  rw [(pl_geo h w 0 0 0 0).2.2.2]
  unfold nv
  rw [pl_f h 5 (by decide) (by decide)]
set_option maxRecDepth 100000 in
set_option maxHeartbeats 4000000 in
theorem l_X5_litMinutes {V : St} (hG : GOOD V) {w d : Nat} (h20 : w < 20) (hn : w < nv V 33 19) (hd : d < 8) {z3 : Option Value} : ∀ (n m : Nat) (σ : St), m + n = nv V 34 d → vw σ = V → J V σ → Rn LAYC none RX5 cX5_litMinutes 6 3 90 25 [some (.ref 0), some (.int (nI w)), some (.int (nI d)), z3, some (.int (nI (msk (litN V w d) m))), some (.int (nI m))] [] σ (EI (fun v τ => v = nI (mskL V w d) ∧ vw τ = V ∧ J V τ)) := by
  have hI := hG.1.1
  have hR := hG.2
  have hmn := bd hI 34 d 24 rfl rfl
  have hrel := hR.mn d
  intro n
  induction n with
  | zero =>
    intro m σ hb hV hJ
    refine r_iload (q := 27) dX5_litMinutes_25 rfl rfl ?_
    refine r_aload_n (q := 28) dX5_litMinutes_27 rfl rfl ?_
    refine gX5_10 (q := 31) dX5_litMinutes_28 rfl ?_
    refine gX5_160 (q := 34) dX5_litMinutes_31 rfl ?_
    refine r_iload_n (q := 35) dX5_litMinutes_34 rfl rfl ?_
    refine r_ialdV (q := 36) hV hI dX5_litMinutes_35 rfl LA2 rfl rfl (by decide) (by omega) ?_
    refine r_icmp_geN (t := 73) (q := 39) dX5_litMinutes_36 (by decide) rfl (by omega) (by omega) (fun c36 => ?_) (fun c36 => absurd (by omega) c36)
    refine r_aload_n (q := 74) dX5_litMinutes_73 rfl rfl ?_
    refine gX5_51 (q := 77) dX5_litMinutes_74 rfl ?_
    refine r_iload_n (q := 78) dX5_litMinutes_77 rfl rfl ?_
    refine r_bipush (q := 80) (v := nI 8) dX5_litMinutes_78 rfl (by decide) ?_
    refine r_imulN (q := 81) dX5_litMinutes_80 rfl ?_
    refine r_iload_n (q := 82) dX5_litMinutes_81 rfl rfl ?_
    refine r_iaddN (q := 83) dX5_litMinutes_82 rfl ?_
    refine r_iload (q := 85) dX5_litMinutes_83 rfl rfl ?_
    refine r_iastS (q := 86) hV dX5_litMinutes_85 rfl LA32 rfl (by omega) (by decide) (fun s85 e85 hV85 => ?_)
    refine r_iload (q := 88) dX5_litMinutes_86 rfl rfl ?_
    have em : msk (litN V w d) m = mskL V w d := by rw [mskL, show m = nv V 34 d by omega]
    rw [em] at e85
    rw [em]
    refine r_retI dX5_litMinutes_88 ⟨rfl, hV85, fun w2 d2 hw2 hd2 => ?_⟩
    rw [e85, u2]
    by_cases hx : w2 * 8 + d2 = w * 8 + d
    · have e1 : w2 = w := by omega
      have e2 : d2 = d := by omega
      subst e1
      subst e2
      exact Or.inr ⟨hn, if_pos ⟨rfl, hx⟩⟩
    · rw [if_neg (fun e => hx e.2)]
      exact hJ w2 d2 hw2 hd2
  | succ n ih =>
    intro m σ hb hV hJ
    refine r_iload (q := 27) dX5_litMinutes_25 rfl rfl ?_
    refine r_aload_n (q := 28) dX5_litMinutes_27 rfl rfl ?_
    refine gX5_10 (q := 31) dX5_litMinutes_28 rfl ?_
    refine gX5_160 (q := 34) dX5_litMinutes_31 rfl ?_
    refine r_iload_n (q := 35) dX5_litMinutes_34 rfl rfl ?_
    refine r_ialdV (q := 36) hV hI dX5_litMinutes_35 rfl LA2 rfl rfl (by decide) (by omega) ?_
    refine r_icmp_geN (t := 73) (q := 39) dX5_litMinutes_36 (by decide) rfl (by omega) (by omega) (fun c36 => absurd c36 (by omega)) (fun c36 => ?_)
    refine r_aload_n (q := 40) dX5_litMinutes_39 rfl rfl ?_
    refine r_iload_n (q := 41) dX5_litMinutes_40 rfl rfl ?_
    refine r_aload_n (q := 42) dX5_litMinutes_41 rfl rfl ?_
    refine r_iload_n (q := 43) dX5_litMinutes_42 rfl rfl ?_
    refine r_iload_n (q := 44) dX5_litMinutes_43 rfl rfl ?_
    refine r_iload (q := 46) dX5_litMinutes_44 rfl rfl ?_
    refine r_bipush (q := 48) (v := -9) dX5_litMinutes_46 rfl (by decide) ?_
    refine r_iconst (q := 49) (v := nI 0) dX5_litMinutes_48 rfl (by decide) ?_
    refine r_cI5 (q := 52) vX5_131 dX5_litMinutes_49 rfl LYX5 rfl (Nat.le_of_ble_eq_true rfl) (by decide) (by decide) (c_X5_sunAt _ V hV hG V (-9) 0 w d m (Or.inl ⟨rfl, rfl, rfl⟩) h20 hn hd (by omega)) ?_
    rintro _ s49 ⟨rfl, hV49, r49⟩
    refine r_cI2 (q := 55) vX5_232 dX5_litMinutes_52 rfl LYX5 rfl (Nat.le_of_ble_eq_true rfl) (by decide) (by decide) (c_X5_isLitBy _ V hV49 hG w (sunN V w d m) h20 (sunN_le hG.1 w d m)) ?_
    rintro _ τ0 ⟨rfl, hτ0⟩
    rw [hτ0]
    clear hτ0
    refine r_if_eqN (t := 67) (q := 58) dX5_litMinutes_55 (by decide) rfl (by split <;> omega) (fun c55 => ?_) (fun c55 => ?_)
    · have hx : litN V w d m = 0 := by rw [litN]; exact c55
      refine r_iinc (q := 70) (v := nI (m + 1)) dX5_litMinutes_67 rfl rfl (by rw [show Int32.ofInt 1 = nI 1 from rfl]; exact nI_add _ _) ?_
      refine r_goto (q := 25) dX5_litMinutes_70 (by decide) ?_
      have e : msk (litN V w d) (m + 1) = msk (litN V w d) m := by rw [msk, hx]; omega
      rw [← e]
      exact ih (m + 1) _ (by omega) hV49 (hJ.c r49)
    · have hx : litN V w d m = 1 := by have := litN_le V w d m; have e : ¬ litN V w d m = 0 := by { rw [litN]; exact c55 }; omega
      refine r_iload (q := 60) dX5_litMinutes_58 rfl rfl ?_
      refine r_iconst (q := 61) (v := nI 1) dX5_litMinutes_60 rfl (by decide) ?_
      refine r_iload (q := 63) dX5_litMinutes_61 rfl rfl ?_
      refine r_ishl (q := 64) dX5_litMinutes_63 rfl ?_
      refine r_as (sh_l m (by omega)) ?_
      refine r_ior (q := 65) dX5_litMinutes_64 rfl ?_
      refine r_as ((nI_or _ _).trans (by rw [msk_or (msk_lt (litN_le V w d) m)])) ?_
      refine r_istore (q := 67) dX5_litMinutes_65 rfl (Nat.le_of_ble_eq_true rfl) ?_
      refine r_iinc (q := 70) (v := nI (m + 1)) dX5_litMinutes_67 rfl rfl (by rw [show Int32.ofInt 1 = nI 1 from rfl]; exact nI_add _ _) ?_
      refine r_goto (q := 25) dX5_litMinutes_70 (by decide) ?_
      have e : msk (litN V w d) (m + 1) = msk (litN V w d) m + 2 ^ m := by rw [msk, hx]; omega
      rw [← e]
      exact ih (m + 1) _ (by omega) hV49 (hJ.c r49)
set_option maxRecDepth 100000 in
set_option maxHeartbeats 4000000 in
theorem c_X5_litMinutes (σ V : St) (hV : vw σ = V) (hG : GOOD V) (hJ : J V σ) (w d : Nat) (h20 : w < 20) (hn : w < nv V 33 19) (hd : d < 8) : Cl LAYC yX5_litMinutes cX5_litMinutes 6 (some .int) 3 90 [.ref 0, .int (nI w), .int (nI d)] σ (EI (fun v τ => v = nI (mskL V w d) ∧ vw τ = V ∧ J V τ)) := by
  have hI := hG.1.1
  have hR := hG.2
  have hnw := bd hI 33 19 20 rfl rfl
  have hnb := bd hI 33 7 40 rfl rfl
  refine Cl.of 3 rfl rfl EI.ok ?_
  show Rn LAYC none RX5 _ _ _ _ 0 [some (.ref 0), some (.int (nI w)), some (.int (nI d)), none, none, none] [] _ _
  refine r_aload_n (q := 1) dX5_litMinutes_0 rfl rfl ?_
  refine gX5_51 (q := 4) dX5_litMinutes_1 rfl ?_
  refine r_iload_n (q := 5) dX5_litMinutes_4 rfl rfl ?_
  refine r_bipush (q := 7) (v := nI 8) dX5_litMinutes_5 rfl (by decide) ?_
  refine r_imulN (q := 8) dX5_litMinutes_7 rfl ?_
  refine r_iload_n (q := 9) dX5_litMinutes_8 rfl rfl ?_
  refine r_iaddN (q := 10) dX5_litMinutes_9 rfl ?_
  refine r_iald (q := 11) dX5_litMinutes_10 rfl LA32 (by omega) (by decide) ?_
  refine r_istore_n (q := 12) dX5_litMinutes_11 rfl (Nat.le_of_ble_eq_true rfl) ?_
  refine r_iload_n (q := 13) dX5_litMinutes_12 rfl rfl ?_
  refine r_iconst (q := 14) (v := -1) dX5_litMinutes_13 rfl (by decide) ?_
  refine r_icmp_eq (t := 19) (q := 17) dX5_litMinutes_14 (by decide) rfl (fun c14 => ?_) (fun c14 => ?_)
  · refine r_iconst (q := 20) (v := nI 0) dX5_litMinutes_19 rfl (by decide) ?_
    refine r_istore (q := 22) dX5_litMinutes_20 rfl (Nat.le_of_ble_eq_true rfl) ?_
    refine r_iconst (q := 23) (v := nI 0) dX5_litMinutes_22 rfl (by decide) ?_
    refine r_istore (q := 25) dX5_litMinutes_23 rfl (Nat.le_of_ble_eq_true rfl) ?_
    exact l_X5_litMinutes hG h20 hn hd (nv V 34 d) 0 _ (Nat.zero_add _) hV hJ
  · obtain ⟨-, hk⟩ : w < nv V 33 19 ∧ σ 32 (w * 8 + d) = nI (mskL V w d) := (hJ w d h20 hd).resolve_left c14
    refine r_iload_n (q := 18) dX5_litMinutes_17 rfl rfl ?_
    exact r_retI dX5_litMinutes_18 ⟨hk, hV, hJ⟩
/-! ===== a PLANNED BLOCK takes light only ===== -/
theorem light_mono {V U : St} {p : Int32} {t : Nat} (hG : GOOD V) (h : PL V p t U) {w c d k : Nat} (hd : d < 8) : ∀ b, b ≤ nv V 33 7 → lightR U w c d k b ≤ lightR V w c d k b := by
  have hnb := bd hG.1.1 33 7 40 rfl rfl
  intro b
  induction b with
  | zero => intro _; exact Nat.le_refl _
  | succ b ih =>
    intro hb
    have ih := ih (by omega)
    have hN : PL V (-9) 0 V := Or.inl ⟨rfl, rfl, rfl⟩
    show lightS U w c d k b (lightR U w c d k b) ≤ lightS V w c d k b (lightR V w c d k b)
    obtain ⟨n1, n2⟩ := nI_ne_neg (b := b) (by omega)
    by_cases hp : nI b = p
    · have h0 : opq V d b = 0 := by
        rcases h with ⟨rfl, -, -⟩ | ⟨b0, h1, rfl, h2, h3, h4, -, -⟩
        · exact absurd hp n2
        · have e : b = b0 := (nI_inj (by omega) (by omega)).mp hp
          subst e
          unfold opq there
          rw [h2, h3, h4, hG.2.th.1]
          simp [n1]
      have e1 : lightS V w c d k b (lightR V w c d k b) = lightR V w c d k b := if_pos h0
      rw [e1]
      exact Nat.le_trans (lightS_le (pl_WF hG h).1 w c d k b _) ih
    · have e1 : opq U d b = opq V d b := by
        rw [pl_opq hG h d b hd (by omega), pl_opq hG hN d b hd (by omega)]
        unfold opqP
        rw [if_neg hp, if_neg n2]
      have e2 : topT U b = topT V b := by
        rw [pl_top hG h b (by omega), pl_top hG hN b (by omega)]
        unfold topP
        rw [if_neg hp, if_neg n2]
      unfold lightS
      rw [e1, e2, (pl_geo h w c k b _).1, pl_nv h 39 b (by decide), pl_nv h 47 _ (by decide)]
      by_cases q1 : opq V d b = 0
      · rw [if_pos q1, if_pos q1]; exact ih
      · rw [if_neg q1, if_neg q1]
        by_cases q2 : hitn V w c k b (topT V b) = 0
        · rw [if_pos q2, if_pos q2]; exact ih
        · rw [if_neg q2, if_neg q2]
          by_cases q3 : nv V 39 b = 1
          · rw [if_pos q3, if_pos q3]
            exact Nat.div_le_div_right (Nat.mul_le_mul_right _ ih)
          · rw [if_neg q3, if_neg q3]
            exact Nat.le_refl _
theorem sun_mono {V U : St} {p : Int32} {t : Nat} (hG : GOOD V) (h : PL V p t U) {w d m : Nat} (hd : d < 8) : sunN U w d m ≤ sunN V w d m := by
  rw [sunN_U h]
  show sunR U w d m (cls V w) ≤ sunR V w d m (cls V w)
  generalize cls V w = n
  induction n with
  | zero => exact Nat.le_refl _
  | succ n ih =>
    have : lightN U w n d m ≤ lightN V w n d m := by
      unfold lightN
      rw [(pl_geo h w 0 (24 * d + m) 0 0).2.2.1]
      split
      · exact Nat.le_refl _
      · have e : nv U 33 7 = nv V 33 7 := by unfold nv; rw [pl_f h 7 (by decide) (by decide)]
        rw [e]
        exact light_mono hG h hd _ (Nat.le_refl _)
    show sunR U w d m n + lightN U w n d m ≤ sunR V w d m n + lightN V w n d m
    omega
theorem lit_mono {V U : St} {p : Int32} {t : Nat} (hG : GOOD V) (h : PL V p t U) {w d m : Nat} (hd : d < 8) (h0 : litN V w d m = 0) : litN U w d m = 0 := by
  have h1 := sun_mono hG h (w := w) (m := m) hd
  rw [litN_U h]
  unfold litN at h0
  split at h0
  · rw [if_pos (by omega)]
  · omega
set_option maxRecDepth 100000 in
set_option maxHeartbeats 4000000 in
theorem l_X5_hoursWith {V U : St} (hG : GOOD V) {p : Int32} {t w d : Nat} (hPL : PL V p t U) (h20 : w < 20) (hn : w < nv V 33 19) (hd : d < 8) : ∀ (n m : Nat) (σ : St) (z8 : Option Value), m + n = nv V 34 d → vw σ = V → J V σ → Rn LAYC none RX5 cX5_hoursWith 9 3 90 6 [some (.ref 0), some (.int (nI w)), some (.int (nI d)), some (.int (nI (mskL V w d))), some (.int p), some (.int (nI t)), some (.int (nI (hoursR U w d m))), some (.int (nI m)), z8] [] σ (EI (fun v τ => v = nI (hoursN U w d) ∧ vw τ = V ∧ J V τ)) := by
  have hI := hG.1.1
  have hR := hG.2
  have hmn := bd hI 34 d 24 rfl rfl
  have hrel := hR.mn d
  have hml := mskL_lt hI w d
  intro n
  induction n with
  | zero =>
    intro m σ z8 hb hV hJ
    refine r_iload (q := 8) dX5_hoursWith_6 rfl rfl ?_
    refine r_aload_n (q := 9) dX5_hoursWith_8 rfl rfl ?_
    refine gX5_10 (q := 12) dX5_hoursWith_9 rfl ?_
    refine gX5_160 (q := 15) dX5_hoursWith_12 rfl ?_
    refine r_iload_n (q := 16) dX5_hoursWith_15 rfl rfl ?_
    refine r_ialdV (q := 17) hV hI dX5_hoursWith_16 rfl LA2 rfl rfl (by decide) (by omega) ?_
    refine r_icmp_geN (t := 71) (q := 20) dX5_hoursWith_17 (by decide) rfl (by omega) (by omega) (fun c17 => ?_) (fun c17 => absurd (by omega) c17)
    refine r_iload (q := 73) dX5_hoursWith_71 rfl rfl ?_
    have e : hoursN U w d = hoursR U w d m := by rw [hoursN, pl_nv hPL 34 d (by decide), show nv V 34 d = m by omega]
    exact r_retI dX5_hoursWith_73 ⟨by rw [e], hV, hJ⟩
  | succ n ih =>
    intro m σ z8 hb hV hJ
    refine r_iload (q := 8) dX5_hoursWith_6 rfl rfl ?_
    refine r_aload_n (q := 9) dX5_hoursWith_8 rfl rfl ?_
    refine gX5_10 (q := 12) dX5_hoursWith_9 rfl ?_
    refine gX5_160 (q := 15) dX5_hoursWith_12 rfl ?_
    refine r_iload_n (q := 16) dX5_hoursWith_15 rfl rfl ?_
    refine r_ialdV (q := 17) hV hI dX5_hoursWith_16 rfl LA2 rfl rfl (by decide) (by omega) ?_
    refine r_icmp_geN (t := 71) (q := 20) dX5_hoursWith_17 (by decide) rfl (by omega) (by omega) (fun c17 => absurd c17 (by omega)) (fun c17 => ?_)
    refine r_iload_n (q := 21) dX5_hoursWith_20 rfl rfl ?_
    refine r_iload (q := 23) dX5_hoursWith_21 rfl rfl ?_
    refine r_ishr (q := 24) dX5_hoursWith_23 rfl ?_
    refine r_as (sh_r (M := mskL V w d) (n := m) (by omega) (by omega)) ?_
    refine r_iconst (q := 25) (v := nI 1) dX5_hoursWith_24 rfl (by decide) ?_
    refine r_iand (q := 26) dX5_hoursWith_25 rfl ?_
    refine r_as (y := nI (litN V w d m)) (by rw [nI_and, show (1 : Nat) = 2 ^ 1 - 1 from rfl, Nat.and_two_pow_sub_one_eq_mod]; show nI (mskL V w d / 2 ^ m % 2) = _; rw [mskL_bit w d m (by omega)]) ?_
    refine r_iconst (q := 27) (v := nI 1) dX5_hoursWith_26 rfl (by decide) ?_
    refine r_icmp_neN (t := 34) (q := 30) dX5_hoursWith_27 (by decide) rfl (by have := litN_le V w d m; omega) (by decide) (fun c27 => ?_) (fun c27 => ?_)
    · refine r_iconst (q := 35) (v := nI 0) dX5_hoursWith_34 rfl (by decide) ?_
      refine r_istore (q := 37) dX5_hoursWith_35 rfl (Nat.le_of_ble_eq_true rfl) ?_
      refine r_iload (q := 39) dX5_hoursWith_37 rfl rfl ?_
      refine r_if_eqN (t := 65) (q := 42) dX5_hoursWith_39 (by decide) rfl (by decide) (fun c39 => ?_) (fun c39 => absurd rfl c39)
      refine r_iinc (q := 68) (v := nI (m + 1)) dX5_hoursWith_65 rfl rfl (by rw [show Int32.ofInt 1 = nI 1 from rfl]; exact nI_add _ _) ?_
      refine r_goto (q := 6) dX5_hoursWith_68 (by decide) ?_
      have hx : litN U w d m = 0 := lit_mono hG hPL hd (by have := litN_le V w d m; omega)
      have e : hoursR U w d (m + 1) = hoursR U w d m := by rw [hoursR, hx]; rfl
      rw [← e]
      exact ih (m + 1) _ _ (by omega) hV hJ
    · refine r_iconst (q := 31) (v := nI 1) dX5_hoursWith_30 rfl (by decide) ?_
      refine r_goto (q := 35) dX5_hoursWith_31 (by decide) ?_
      refine r_istore (q := 37) dX5_hoursWith_35 rfl (Nat.le_of_ble_eq_true rfl) ?_
      refine r_iload (q := 39) dX5_hoursWith_37 rfl rfl ?_
      refine r_if_eqN (t := 65) (q := 42) dX5_hoursWith_39 (by decide) rfl (by decide) (fun c39 => absurd c39 (by decide)) (fun c39 => ?_)
      refine r_aload_n (q := 43) dX5_hoursWith_42 rfl rfl ?_
      refine r_iload_n (q := 44) dX5_hoursWith_43 rfl rfl ?_
      refine r_aload_n (q := 45) dX5_hoursWith_44 rfl rfl ?_
      refine r_iload_n (q := 46) dX5_hoursWith_45 rfl rfl ?_
      refine r_iload_n (q := 47) dX5_hoursWith_46 rfl rfl ?_
      refine r_iload (q := 49) dX5_hoursWith_47 rfl rfl ?_
      refine r_iload (q := 51) dX5_hoursWith_49 rfl rfl ?_
      refine r_iload (q := 53) dX5_hoursWith_51 rfl rfl ?_
      refine r_cI5 (q := 56) vX5_131 dX5_hoursWith_53 rfl LYX5 rfl (Nat.le_of_ble_eq_true rfl) (by decide) (by decide) (c_X5_sunAt _ V hV hG U p t w d m hPL h20 hn hd (by omega)) ?_
      rintro _ s53 ⟨rfl, hV53, r53⟩
      refine r_cI2 (q := 59) vX5_232 dX5_hoursWith_56 rfl LYX5 rfl (Nat.le_of_ble_eq_true rfl) (by decide) (by decide) (c_X5_isLitBy _ V hV53 hG w (sunN U w d m) h20 (sunN_le (pl_WF hG hPL) w d m)) ?_
      rintro _ τ0 ⟨rfl, hτ0⟩
      rw [hτ0]
      clear hτ0
      refine r_if_eqN (t := 65) (q := 62) dX5_hoursWith_59 (by decide) rfl (by split <;> omega) (fun c59 => ?_) (fun c59 => ?_)
      · refine r_iinc (q := 68) (v := nI (m + 1)) dX5_hoursWith_65 rfl rfl (by rw [show Int32.ofInt 1 = nI 1 from rfl]; exact nI_add _ _) ?_
        refine r_goto (q := 6) dX5_hoursWith_68 (by decide) ?_
        have hx : litN U w d m = 0 := by rw [litN_U hPL]; exact c59
        have e : hoursR U w d (m + 1) = hoursR U w d m := by rw [hoursR, hx]; rfl
        rw [← e]
        exact ih (m + 1) _ _ (by omega) hV53 (hJ.c r53)
      · refine r_iinc (q := 65) (v := nI (hoursR U w d m + 1)) dX5_hoursWith_62 rfl rfl (by rw [show Int32.ofInt 1 = nI 1 from rfl]; exact nI_add _ _) ?_
        refine r_iinc (q := 68) (v := nI (m + 1)) dX5_hoursWith_65 rfl rfl (by rw [show Int32.ofInt 1 = nI 1 from rfl]; exact nI_add _ _) ?_
        refine r_goto (q := 6) dX5_hoursWith_68 (by decide) ?_
        have hx : litN U w d m = 1 := by have h1 := litN_le U w d m; have e : ¬ litN U w d m = 0 := by { rw [litN_U hPL]; exact c59 }; omega
        have e : hoursR U w d (m + 1) = hoursR U w d m + 1 := by rw [hoursR, hx]
        rw [← e]
        exact ih (m + 1) _ _ (by omega) hV53 (hJ.c r53)
set_option maxRecDepth 100000 in
set_option maxHeartbeats 4000000 in
theorem c_X5_hoursWith (σ V : St) (hV : vw σ = V) (hG : GOOD V) (hJ : J V σ) (U : St) (p : Int32) (t w d : Nat) (hPL : PL V p t U) (h20 : w < 20) (hn : w < nv V 33 19) (hd : d < 8) : Cl LAYC yX5_hoursWith cX5_hoursWith 9 (some .int) 3 90 [.ref 0, .int (nI w), .int (nI d), .int (nI (mskL V w d)), .int p, .int (nI t)] σ (EI (fun v τ => v = nI (hoursN U w d) ∧ vw τ = V ∧ J V τ)) := by
  refine Cl.of 3 rfl rfl EI.ok ?_
  show Rn LAYC none RX5 _ _ _ _ 0 [some (.ref 0), some (.int (nI w)), some (.int (nI d)), some (.int (nI (mskL V w d))), some (.int p), some (.int (nI t)), none, none, none] [] _ _
  refine r_iconst (q := 1) (v := nI 0) dX5_hoursWith_0 rfl (by decide) ?_
  refine r_istore (q := 3) dX5_hoursWith_1 rfl (Nat.le_of_ble_eq_true rfl) ?_
  refine r_iconst (q := 4) (v := nI 0) dX5_hoursWith_3 rfl (by decide) ?_
  refine r_istore (q := 6) dX5_hoursWith_4 rfl (Nat.le_of_ble_eq_true rfl) ?_
  exact l_X5_hoursWith hG hPL h20 hn hd (nv V 34 d) 0 _ none (Nat.zero_add _) hV hJ
set_option maxRecDepth 100000 in
set_option maxHeartbeats 4000000 in
theorem l_X5_firstFall {V : St} (hG : GOOD V) {w : Nat} (h20 : w < 20) (hn : w < nv V 33 19) : ∀ (n d : Nat) (σ : St) (z3 : Option Value), d + n = 8 → vw σ = V → J V σ → Rn LAYC none RX5 cX5_firstFall 4 4 115 2 [some (.ref 0), some (.int (nI w)), some (.int (nI d)), z3] [] σ (EI (fun v τ => v = fallR V w d n ∧ vw τ = V ∧ J V τ)) := by
  have hI := hG.1.1
  have hR := hG.2
  intro n
  induction n with
  | zero =>
    intro d σ z3 hb hV hJ
    refine r_iload_n (q := 3) dX5_firstFall_2 rfl rfl ?_
    refine r_bipush (q := 5) (v := nI 8) dX5_firstFall_3 rfl (by decide) ?_
    refine r_icmp_geN (t := 40) (q := 8) dX5_firstFall_5 (by decide) rfl (by omega) (by omega) (fun c5 => ?_) (fun c5 => absurd (by omega) c5)
    refine r_bipush (q := 42) (v := -9) dX5_firstFall_40 rfl (by decide) ?_
    exact r_retI dX5_firstFall_42 ⟨rfl, hV, hJ⟩
  | succ n ih =>
    intro d σ z3 hb hV hJ
    refine r_iload_n (q := 3) dX5_firstFall_2 rfl rfl ?_
    refine r_bipush (q := 5) (v := nI 8) dX5_firstFall_3 rfl (by decide) ?_
    refine r_icmp_geN (t := 40) (q := 8) dX5_firstFall_5 (by decide) rfl (by omega) (by omega) (fun c5 => absurd c5 (by omega)) (fun c5 => ?_)
    have hlw := hR.law d
    refine r_aload_n (q := 9) dX5_firstFall_8 rfl rfl ?_
    refine gX5_44 (q := 12) dX5_firstFall_9 rfl ?_
    refine r_iload_n (q := 13) dX5_firstFall_12 rfl rfl ?_
    refine r_ialdV (q := 14) hV hI dX5_firstFall_13 rfl LA30 rfl rfl (by decide) (by omega) ?_
    refine r_istore_n (q := 15) dX5_firstFall_14 rfl (Nat.le_of_ble_eq_true rfl) ?_
    refine r_iload_n (q := 16) dX5_firstFall_15 rfl rfl ?_
    refine r_if_leN (t := 34) (q := 19) dX5_firstFall_16 (by decide) rfl (by have := bd hI 30 d 24 rfl rfl; omega) (fun c16 => ?_) (fun c16 => ?_)
    · refine r_iinc (q := 37) (v := nI (d + 1)) dX5_firstFall_34 rfl rfl (by rw [show Int32.ofInt 1 = nI 1 from rfl]; exact nI_add _ _) ?_
      refine r_goto (q := 2) dX5_firstFall_37 (by decide) ?_
      refine (ih (d + 1) _ _ (by omega) hV hJ).mono ?_
      rintro r τ ⟨v, rfl, rfl, h⟩
      exact ⟨_, rfl, by rw [fallR, if_pos (by omega)], h⟩
    · refine r_aload_n (q := 20) dX5_firstFall_19 rfl rfl ?_
      refine r_iload_n (q := 21) dX5_firstFall_20 rfl rfl ?_
      refine r_iload_n (q := 22) dX5_firstFall_21 rfl rfl ?_
      refine r_cI2 (q := 25) vX5_166 dX5_firstFall_22 rfl LYX5 rfl (Nat.le_of_ble_eq_true rfl) (by decide) (by decide) (c_X5_litMinutes _ V hV hG hJ w d h20 hn (by omega)) ?_
      rintro _ s22 ⟨rfl, hV22, hJ22⟩
      refine r_sI1 (q := 28) vX5_170 dX5_firstFall_25 rfl (Nat.le_of_ble_eq_true rfl) (by decide) (by decide) (c_bitCount _ _ (mskL_lt hI w d)) ?_
      rintro _ τ0 ⟨rfl, hτ0⟩
      rw [hτ0]
      clear hτ0
      rw [mskL_pop hI]
      refine r_iload_n (q := 29) dX5_firstFall_28 rfl rfl ?_
      refine r_icmp_geN (t := 34) (q := 32) dX5_firstFall_29 (by decide) rfl (by have h1 := hoursR_le V w d (nv V 34 d); have h2 := bd hI 34 d 24 rfl rfl; unfold hoursN; omega) (by have := bd hI 30 d 24 rfl rfl; omega) (fun c29 => ?_) (fun c29 => ?_)
      · refine r_iinc (q := 37) (v := nI (d + 1)) dX5_firstFall_34 rfl rfl (by rw [show Int32.ofInt 1 = nI 1 from rfl]; exact nI_add _ _) ?_
        refine r_goto (q := 2) dX5_firstFall_37 (by decide) ?_
        refine (ih (d + 1) _ _ (by omega) hV22 hJ22).mono ?_
        rintro r τ ⟨v, rfl, rfl, h⟩
        exact ⟨_, rfl, by rw [fallR, if_neg (by omega), if_neg (by omega)], h⟩
      · refine r_iload_n (q := 33) dX5_firstFall_32 rfl rfl ?_
        exact r_retI dX5_firstFall_33 ⟨by rw [fallR, if_neg (by omega), if_pos (by omega)], hV22, hJ22⟩
set_option maxRecDepth 100000 in
set_option maxHeartbeats 4000000 in
theorem c_X5_firstFall (σ V : St) (hV : vw σ = V) (hG : GOOD V) (hJ : J V σ) (w : Nat) (h20 : w < 20) (hn : w < nv V 33 19) : Cl LAYC yX5_firstFall cX5_firstFall 4 (some .int) 4 115 [.ref 0, .int (nI w)] σ (EI (fun v τ => v = fallI V w ∧ vw τ = V ∧ J V τ)) := by
  refine Cl.of 2 rfl rfl EI.ok ?_
  show Rn LAYC none RX5 _ _ _ _ 0 [some (.ref 0), some (.int (nI w)), none, none] [] _ _
  refine r_iconst (q := 1) (v := nI 0) dX5_firstFall_0 rfl (by decide) ?_
  refine r_istore_n (q := 2) dX5_firstFall_1 rfl (Nat.le_of_ble_eq_true rfl) ?_
  exact l_X5_firstFall hG h20 hn 8 0 _ none (by omega) hV hJ
set_option maxRecDepth 100000 in
set_option maxHeartbeats 4000000 in
theorem l_X5_firstFallWith {V U : St} (hG : GOOD V) {p : Int32} {t w : Nat} (hPL : PL V p t U) (h20 : w < 20) (hn : w < nv V 33 19) : ∀ (n d : Nat) (σ : St) (z5 z6 : Option Value), d + n = 8 → vw σ = V → J V σ → Rn LAYC none RX5 cX5_firstFallWith 7 4 118 3 [some (.ref 0), some (.int (nI w)), some (.int p), some (.int (nI t)), some (.int (nI d)), z5, z6] [] σ (EI (fun v τ => v = fallR U w d n ∧ vw τ = V ∧ J V τ)) := by
  have hI := hG.1.1
  have hR := hG.2
  intro n
  induction n with
  | zero =>
    intro d σ z5 z6 hb hV hJ
    refine r_iload (q := 5) dX5_firstFallWith_3 rfl rfl ?_
    refine r_bipush (q := 7) (v := nI 8) dX5_firstFallWith_5 rfl (by decide) ?_
    refine r_icmp_geN (t := 58) (q := 10) dX5_firstFallWith_7 (by decide) rfl (by omega) (by omega) (fun c7 => ?_) (fun c7 => absurd (by omega) c7)
    refine r_bipush (q := 60) (v := -9) dX5_firstFallWith_58 rfl (by decide) ?_
    exact r_retI dX5_firstFallWith_60 ⟨rfl, hV, hJ⟩
  | succ n ih =>
    intro d σ z5 z6 hb hV hJ
    refine r_iload (q := 5) dX5_firstFallWith_3 rfl rfl ?_
    refine r_bipush (q := 7) (v := nI 8) dX5_firstFallWith_5 rfl (by decide) ?_
    refine r_icmp_geN (t := 58) (q := 10) dX5_firstFallWith_7 (by decide) rfl (by omega) (by omega) (fun c7 => absurd c7 (by omega)) (fun c7 => ?_)
    have hlw := hR.law d
    have hlu := pl_nv hPL 38 d (by decide)
    refine r_aload_n (q := 11) dX5_firstFallWith_10 rfl rfl ?_
    refine gX5_44 (q := 14) dX5_firstFallWith_11 rfl ?_
    refine r_iload (q := 16) dX5_firstFallWith_14 rfl rfl ?_
    refine r_ialdV (q := 17) hV hI dX5_firstFallWith_16 rfl LA30 rfl rfl (by decide) (by omega) ?_
    refine r_istore (q := 19) dX5_firstFallWith_17 rfl (Nat.le_of_ble_eq_true rfl) ?_
    refine r_iload (q := 21) dX5_firstFallWith_19 rfl rfl ?_
    refine r_if_leN (t := 52) (q := 24) dX5_firstFallWith_21 (by decide) rfl (by have := bd hI 30 d 24 rfl rfl; omega) (fun c21 => ?_) (fun c21 => ?_)
    · refine r_iinc (q := 55) (v := nI (d + 1)) dX5_firstFallWith_52 rfl rfl (by rw [show Int32.ofInt 1 = nI 1 from rfl]; exact nI_add _ _) ?_
      refine r_goto (q := 3) dX5_firstFallWith_55 (by decide) ?_
      refine (ih (d + 1) _ _ _ (by omega) hV hJ).mono ?_
      rintro r τ ⟨v, rfl, rfl, h⟩
      exact ⟨_, rfl, by rw [fallR, if_pos (by omega)], h⟩
    · refine r_aload_n (q := 25) dX5_firstFallWith_24 rfl rfl ?_
      refine r_iload_n (q := 26) dX5_firstFallWith_25 rfl rfl ?_
      refine r_iload (q := 28) dX5_firstFallWith_26 rfl rfl ?_
      refine r_cI2 (q := 31) vX5_166 dX5_firstFallWith_28 rfl LYX5 rfl (Nat.le_of_ble_eq_true rfl) (by decide) (by decide) (c_X5_litMinutes _ V hV hG hJ w d h20 hn (by omega)) ?_
      rintro _ s28 ⟨rfl, hV28, hJ28⟩
      refine r_istore (q := 33) dX5_firstFallWith_31 rfl (Nat.le_of_ble_eq_true rfl) ?_
      refine r_aload_n (q := 34) dX5_firstFallWith_33 rfl rfl ?_
      refine r_iload_n (q := 35) dX5_firstFallWith_34 rfl rfl ?_
      refine r_iload (q := 37) dX5_firstFallWith_35 rfl rfl ?_
      refine r_iload (q := 39) dX5_firstFallWith_37 rfl rfl ?_
      refine r_iload_n (q := 40) dX5_firstFallWith_39 rfl rfl ?_
      refine r_iload_n (q := 41) dX5_firstFallWith_40 rfl rfl ?_
      refine r_cI5 (q := 44) vX5_175 dX5_firstFallWith_41 rfl LYX5 rfl (Nat.le_of_ble_eq_true rfl) (by decide) (by decide) (c_X5_hoursWith _ V hV28 hG hJ28 U p t w d hPL h20 hn (by omega)) ?_
      rintro _ s41 ⟨rfl, hV41, hJ41⟩
      refine r_iload (q := 46) dX5_firstFallWith_44 rfl rfl ?_
      refine r_icmp_geN (t := 52) (q := 49) dX5_firstFallWith_46 (by decide) rfl (by have h1 := hoursR_le U w d (nv U 34 d); have h2 := bd (pl_WF hG hPL).1 34 d 24 rfl rfl; unfold hoursN; omega) (by have := bd hI 30 d 24 rfl rfl; omega) (fun c46 => ?_) (fun c46 => ?_)
      · refine r_iinc (q := 55) (v := nI (d + 1)) dX5_firstFallWith_52 rfl rfl (by rw [show Int32.ofInt 1 = nI 1 from rfl]; exact nI_add _ _) ?_
        refine r_goto (q := 3) dX5_firstFallWith_55 (by decide) ?_
        refine (ih (d + 1) _ _ _ (by omega) hV41 hJ41).mono ?_
        rintro r τ ⟨v, rfl, rfl, h⟩
        exact ⟨_, rfl, by rw [fallR, if_neg (by omega), if_neg (by omega)], h⟩
      · refine r_iload (q := 51) dX5_firstFallWith_49 rfl rfl ?_
        exact r_retI dX5_firstFallWith_51 ⟨by rw [fallR, if_neg (by omega), if_pos (by omega)], hV41, hJ41⟩
set_option maxRecDepth 100000 in
set_option maxHeartbeats 4000000 in
theorem c_X5_firstFallWith (σ V : St) (hV : vw σ = V) (hG : GOOD V) (hJ : J V σ) (U : St) (p : Int32) (t w : Nat) (hPL : PL V p t U) (h20 : w < 20) (hn : w < nv V 33 19) : Cl LAYC yX5_firstFallWith cX5_firstFallWith 7 (some .int) 4 118 [.ref 0, .int (nI w), .int p, .int (nI t)] σ (EI (fun v τ => v = fallI U w ∧ vw τ = V ∧ J V τ)) := by
  refine Cl.of 3 rfl rfl EI.ok ?_
  show Rn LAYC none RX5 _ _ _ _ 0 [some (.ref 0), some (.int (nI w)), some (.int p), some (.int (nI t)), none, none, none] [] _ _
  refine r_iconst (q := 1) (v := nI 0) dX5_firstFallWith_0 rfl (by decide) ?_
  refine r_istore (q := 3) dX5_firstFallWith_1 rfl (Nat.le_of_ble_eq_true rfl) ?_
  exact l_X5_firstFallWith hG hPL h20 hn 8 0 _ none none (by omega) hV hJ
