/-! ===== a higher TOP gives no light back ===== -/
theorem light_up {V U U' : St} {b0 t t' : Nat} (hG : GOOD V) (hb0 : b0 < nv V 33 7) (h3 : nv V 39 b0 = 3) (h : PL V (nI b0) t U) (h' : PL V (nI b0) t' U') (ht : t ≤ t') {w c d k : Nat} (hd : d < 8) (hz : 1 ≤ nv V 37 k) : ∀ b, b ≤ nv V 33 7 → lightR U' w c d k b ≤ lightR U w c d k b := by
  have hnb := bd hG.1.1 33 7 40 rfl rfl
  intro b
  induction b with
  | zero => intro _; exact Nat.le_refl _
  | succ b ih =>
    intro hb
    have ih := ih (by omega)
    show lightS U' w c d k b (lightR U' w c d k b) ≤ lightS U w c d k b (lightR U w c d k b)
    unfold lightS
    rw [pl_opq hG h d b hd (by omega), pl_opq hG h' d b hd (by omega), pl_top hG h b (by omega), pl_top hG h' b (by omega), (pl_geo h w c k b _).1, (pl_geo h' w c k b _).1, pl_nv h 39 b (by decide), pl_nv h 47 _ (by decide), pl_nv h' 39 b (by decide), pl_nv h' 47 _ (by decide)]
    by_cases q1 : opqP V (nI b0) d b = 0
    · rw [if_pos q1, if_pos q1]; exact ih
    · rw [if_neg q1, if_neg q1]
      by_cases hp : nI b = nI b0
      · have e : b = b0 := (nI_inj (by omega) (by omega)).mp hp
        subst e
        have e1 : ∀ x, topP V (nI b) x b = x := fun x => if_pos rfl
        rw [e1, e1, h3]
        by_cases q2 : hitn V w c k b t = 0
        · rw [if_pos q2]
          by_cases q3 : hitn V w c k b t' = 0
          · rw [if_pos q3]; exact ih
          · rw [if_neg q3, if_neg (by decide)]; exact Nat.zero_le _
        · have q3 : hitn V w c k b t' = 1 := hitn_up hz ht (by have := hitn_le V w c k b t; omega)
          rw [if_neg q2, if_neg (by omega), if_neg (by decide), if_neg (by decide)]
          exact Nat.le_refl _
      · have e1 : ∀ x, topP V (nI b0) x b = nv V 45 b := fun x => if_neg hp
        rw [e1, e1]
        by_cases q2 : hitn V w c k b (nv V 45 b) = 0
        · rw [if_pos q2, if_pos q2]; exact ih
        · rw [if_neg q2, if_neg q2]
          by_cases q3 : nv V 39 b = 1
          · rw [if_pos q3, if_pos q3]
            exact Nat.div_le_div_right (Nat.mul_le_mul_right _ ih)
          · rw [if_neg q3, if_neg q3]
            exact Nat.le_refl _
theorem sun_up {V U U' : St} {b0 t t' : Nat} (hG : GOOD V) (hb0 : b0 < nv V 33 7) (h3 : nv V 39 b0 = 3) (h : PL V (nI b0) t U) (h' : PL V (nI b0) t' U') (ht : t ≤ t') {w d m : Nat} (hd : d < 8) (hm : m < nv V 34 d) : sunN U' w d m ≤ sunN U w d m := by
  rw [sunN_U h, sunN_U h']
  have hz := hG.1.2.2.2 d m hd hm
  generalize cls V w = n
  induction n with
  | zero => exact Nat.le_refl _
  | succ n ih =>
    have : lightN U' w n d m ≤ lightN U w n d m := by
      unfold lightN
      rw [(pl_geo h w 0 (24 * d + m) 0 0).2.2.1, (pl_geo h' w 0 (24 * d + m) 0 0).2.2.1]
      split
      · exact Nat.le_refl _
      · have e : nv U 33 7 = nv V 33 7 := by unfold nv; rw [pl_f h 7 (by decide) (by decide)]
        have e' : nv U' 33 7 = nv V 33 7 := by unfold nv; rw [pl_f h' 7 (by decide) (by decide)]
        rw [e, e']
        exact light_up hG hb0 h3 h h' ht hd hz _ (Nat.le_refl _)
    show sunR U' w d m n + lightN U' w n d m ≤ sunR U w d m n + lightN U w n d m
    omega
theorem hours_up {V U U' : St} {b0 t t' : Nat} (hG : GOOD V) (hb0 : b0 < nv V 33 7) (h3 : nv V 39 b0 = 3) (h : PL V (nI b0) t U) (h' : PL V (nI b0) t' U') (ht : t ≤ t') {w d : Nat} (hd : d < 8) : hoursN U' w d ≤ hoursN U w d := by
  unfold hoursN
  rw [pl_nv h 34 d (by decide), pl_nv h' 34 d (by decide)]
  have key : ∀ m, m ≤ nv V 34 d → hoursR U' w d m ≤ hoursR U w d m := by
    intro m
    induction m with
    | zero => intro _; exact Nat.le_refl _
    | succ m ih =>
      intro hm
      have ih := ih (by omega)
      have hs := sun_up hG hb0 h3 h h' ht (w := w) hd (m := m) (by omega)
      have : litN U' w d m ≤ litN U w d m := by
        rw [litN_U h, litN_U h']
        split
        · exact Nat.zero_le _
        · rw [if_neg (by omega)]
          exact Nat.le_refl _
      show hoursR U' w d m + litN U' w d m ≤ hoursR U w d m + litN U w d m
      omega
  exact key _ (Nat.le_refl _)
theorem nI_ne9' {d : Nat} (hd : d < 1000) : ¬ nI d = -9 := (nI_ne_neg (b := d) (by omega)).2
theorem fall_up {V U U' : St} {b0 t t' : Nat} (hG : GOOD V) (hb0 : b0 < nv V 33 7) (h3 : nv V 39 b0 = 3) (h : PL V (nI b0) t U) (h' : PL V (nI b0) t' U') (ht : t ≤ t') {w : Nat} (hf : fallI U' w = -9) : fallI U w = -9 := by
  have key : ∀ n d, d + n ≤ 8 → fallR U' w d n = -9 → fallR U w d n = -9 := by
    intro n
    induction n with
    | zero => intro d _ _; rfl
    | succ n ih =>
      intro d hd hh
      rw [fallR] at hh ⊢
      rw [pl_nv h' 38 d (by decide)] at hh
      rw [pl_nv h 38 d (by decide)]
      by_cases q : nv V 38 d = 0
      · rw [if_pos q] at hh ⊢
        exact ih _ (by omega) hh
      · rw [if_neg q] at hh ⊢
        have hu := hours_up hG hb0 h3 h h' ht (w := w) (d := d) (by omega)
        by_cases q2 : hoursN U' w d < nv V 38 d
        · rw [if_pos q2] at hh
          exact absurd hh (nI_ne9' (by omega))
        · rw [if_neg q2] at hh
          rw [if_neg (by omega)]
          exact ih _ (by omega) hh
  exact key 8 0 (by omega) hf
theorem br_up {V U U' : St} {b0 t t' : Nat} (hG : GOOD V) (hb0 : b0 < nv V 33 7) (h3 : nv V 39 b0 = 3) (h : PL V (nI b0) t U) (h' : PL V (nI b0) t' U') (ht : t ≤ t') {n w : Nat} (hn : w + n ≤ 20) (hf : brC V U' w n = -9) : brC V U w n = -9 := by
  induction n generalizing w with
  | zero => rfl
  | succ n ih =>
    rw [brC] at hf ⊢
    by_cases q1 : kept V w = 0
    · rw [if_pos q1] at hf ⊢
      exact ih (by omega) hf
    · rw [if_neg q1] at hf ⊢
      by_cases q2 : fallI V w = -9
      · rw [if_pos q2] at hf ⊢
        by_cases q3 : fallI U' w = -9
        · rw [if_pos q3] at hf
          rw [if_pos (fall_up hG hb0 h3 h h' ht q3)]
          exact ih (by omega) hf
        · rw [if_neg q3] at hf
          exact absurd hf (br_ne (by omega) q3)
      · rw [if_neg q2] at hf ⊢
        exact ih (by omega) hf
/-! ===== the greatest TOP that harms none ===== -/
def hiC (A : St) (b : Int32) : Nat → Nat → Nat
  | 0, top => top
  | n + 1, top => hiC A b n (if top + 2 ^ n ≤ 200 ∧ (brI A b (nI (top + 2 ^ n)) = -9) then top + 2 ^ n else top)
def hiS (A : St) (b : Int32) (f r : Nat) : Prop := f ≤ r ∧ r ≤ 200 ∧ (r = f ∨ (brI A b (nI r) = -9)) ∧ (r = 200 ∨ ¬ (brI A b (nI (r + 1)) = -9))
theorem hiC_s {A : St} {b : Int32} {f : Nat} : ∀ n top, f ≤ top → top ≤ 200 → (top = f ∨ (brI A b (nI top) = -9)) → (200 < top + 2 ^ n ∨ ¬ (brI A b (nI (top + 2 ^ n)) = -9)) → hiS A b f (hiC A b n top) := by
  intro n
  induction n with
  | zero =>
    intro top h1 h2 h3 h4
    rw [hiC]
    refine ⟨h1, h2, h3, ?_⟩
    rw [Nat.pow_zero] at h4
    rcases h4 with h | h
    · exact Or.inl (by omega)
    · exact Or.inr h
  | succ n ih =>
    intro top h1 h2 h3 h4
    rw [hiC]
    have e : 2 ^ (n + 1) = 2 ^ n + 2 ^ n := by rw [Nat.pow_succ]; omega
    by_cases c : top + 2 ^ n ≤ 200 ∧ (brI A b (nI (top + 2 ^ n)) = -9)
    · rw [if_pos c]
      refine ih _ (Nat.le_trans h1 (Nat.le_add_right _ _)) c.1 (Or.inr c.2) ?_
      rw [Nat.add_assoc, ← e]
      exact h4
    · rw [if_neg c]
      refine ih _ h1 h2 h3 ?_
      by_cases c2 : top + 2 ^ n ≤ 200
      · exact Or.inr (fun h => c ⟨c2, h⟩)
      · exact Or.inl (by omega)
theorem hiR_s {A : St} {b : Int32} {f : Nat} : ∀ n g e, f ≤ g → g < e → e ≤ 201 → e - g ≤ n → (g = f ∨ (brI A b (nI g) = -9)) → (e = 201 ∨ ¬ (brI A b (nI e) = -9)) → hiS A b f (hiR A b n g e) := by
  intro n
  induction n with
  | zero => intro g e h1 h2 h3 h4; omega
  | succ n ih =>
    intro g e h1 h2 h3 h4 h5 h6
    rw [hiR]
    by_cases c : e - g ≤ 1
    · rw [if_pos c]
      have : e = g + 1 := by omega
      subst this
      refine ⟨h1, by omega, h5, ?_⟩
      rcases h6 with h | h
      · exact Or.inl (by omega)
      · exact Or.inr h
    · rw [if_neg c]
      by_cases c2 : brI A b (nI ((g + e) / 2)) = -9
      · rw [if_pos c2]
        exact ih _ _ (by omega) (by omega) h3 (by omega) (Or.inr c2) h6
      · rw [if_neg c2]
        exact ih _ _ h1 (by omega) (by omega) (by omega) h5 (Or.inr c2)
theorem hiS_u {A : St} {b : Int32} {f r r' : Nat} (hm : ∀ t t', t ≤ t' → t' ≤ 200 → brI A b (nI t') = -9 → brI A b (nI t) = -9) (h : hiS A b f r) (h' : hiS A b f r') : r = r' := by
  have key : ∀ r r', hiS A b f r → hiS A b f r' → ¬ r < r' := by
    intro r r' h h' hl
    rcases h'.2.2.1 with e | g
    · have := h.1
      omega
    · rcases h.2.2.2 with e | n
      · have := h'.2.1
        omega
      · exact n (hm (r + 1) r' (by omega) h'.2.1 g)
  have := key r r' h h'
  have := key r' r h' h
  omega
theorem hi_eq {V : St} {b : Nat} (hG : GOOD V) (hb : b < nv V 33 7) (hbc : (nI b).toNatClampNeg = b) (h0 : lack V (nI b) = 0) : hiC (askV V) (nI b) 8 (nv V 44 b) = hiR (askV V) (nI b) 201 (nv V 44 b) 201 := by
  have hf := bd hG.1.1 44 b 200 rfl rfl
  have hnw := bd hG.1.1 33 19 20 rfl rfl
  obtain ⟨-, h3, -, -⟩ := lack_0 h0
  rw [hbc] at h3
  refine hiS_u (fun t t' h1 h2 hg => ?_) (hiC_s 8 (nv V 44 b) (Nat.le_refl _) hf (Or.inl rfl) (Or.inl (by omega))) (hiR_s 201 (nv V 44 b) 201 (Nat.le_refl _) (by omega) (Nat.le_refl _) (by omega) (Or.inl rfl) (Or.inl rfl))
  have e : ∀ x, brI (askV V) (nI b) (nI x) = brC V (thk V (nI b) (nI x)) 0 (nv V 33 19) := fun x => (brC_eq V (nI b) (nI x) _ _ (Nat.zero_add _)).symm
  rw [e] at hg ⊢
  exact br_up hG hb h3 (PL_of hb hbc h0 (by omega)) (PL_of hb hbc h0 h2) h1 (by omega) hg
set_option maxRecDepth 100000 in
set_option maxHeartbeats 4000000 in
theorem l_X5_high {V : St} (hG : GOOD V) {b : Nat} (hb : b < nv V 33 7) (hbc : (nI b).toNatClampNeg = b) (h0 : lack V (nI b) = 0) {z2 : Option Value} : ∀ (n st top : Nat) (σ : St), n ≤ 8 → st = 2 ^ n / 2 → top ≤ 200 → vw σ = V → J V σ → Rn LAYC none RX5 cX5_high 5 6 168 33 [some (.ref 0), some (.int (nI b)), z2, some (.int (nI top)), some (.int (nI st))] [] σ (EI (fun v τ => v = nI (hiC (askV V) (nI b) n top) ∧ vw τ = V ∧ J V τ)) := by
  have hI := hG.1.1
  have hR := hG.2
  have hnw := bd hI 33 19 20 rfl rfl
  intro n
  induction n with
  | zero =>
    intro st top σ h8 hst ht hV hJ
    have hst : st = 0 := by rw [hst]
    refine r_iload (q := 35) dX5_high_33 rfl rfl ?_
    refine r_if_leN (t := 76) (q := 38) dX5_high_35 (by decide) rfl (by omega) (fun c35 => ?_) (fun c35 => absurd (by omega) c35)
    refine r_iload_n (q := 77) dX5_high_76 rfl rfl ?_
    exact r_retI dX5_high_77 ⟨rfl, hV, hJ⟩
  | succ n ih =>
    intro st top σ h8 hst ht hV hJ
    have hst2 : st = 2 ^ n := by rw [hst, Nat.pow_succ]; omega
    have hp : 2 ^ n ≤ 2 ^ 7 := Nat.pow_le_pow_right (by decide) (by omega)
    have hp1 : 0 < 2 ^ n := Nat.pos_of_ne_zero (by simp)
    refine r_iload (q := 35) dX5_high_33 rfl rfl ?_
    refine r_if_leN (t := 76) (q := 38) dX5_high_35 (by decide) rfl (by omega) (fun c35 => absurd c35 (by omega)) (fun c35 => ?_)
    refine r_iload_n (q := 39) dX5_high_38 rfl rfl ?_
    refine r_iload (q := 41) dX5_high_39 rfl rfl ?_
    refine r_iaddN (q := 42) dX5_high_41 rfl ?_
    refine r_sipush (q := 45) (v := nI 200) dX5_high_42 rfl (by decide) ?_
    refine r_icmp_gtN (t := 67) (q := 48) dX5_high_45 (by decide) rfl (by omega) (by omega) (fun c45 => ?_) (fun c45 => ?_)
    · refine r_iload (q := 69) dX5_high_67 rfl rfl ?_
      refine r_iconst (q := 70) (v := nI 2) dX5_high_69 rfl (by decide) ?_
      refine r_idivN (q := 71) dX5_high_70 rfl (by omega) (by omega) (by omega) ?_
      refine r_istore (q := 73) dX5_high_71 rfl (Nat.le_of_ble_eq_true rfl) ?_
      refine r_goto (q := 33) dX5_high_73 (by decide) ?_
      refine (ih (st / 2) top _ (by omega) (by omega) (by omega) hV hJ).mono ?_
      rintro r τ ⟨v, rfl, rfl, h⟩
      exact ⟨_, rfl, by rw [hiC, ← hst2, if_neg (fun h => absurd h.1 (by omega))], h⟩
    · refine r_aload_n (q := 49) dX5_high_48 rfl rfl ?_
      refine r_iload_n (q := 50) dX5_high_49 rfl rfl ?_
      refine r_iload_n (q := 51) dX5_high_50 rfl rfl ?_
      refine r_iload (q := 53) dX5_high_51 rfl rfl ?_
      refine r_iaddN (q := 54) dX5_high_53 rfl ?_
      refine r_cI2 (q := 57) vX5_178 dX5_high_54 rfl LYX5 rfl (Nat.le_of_ble_eq_true rfl) (by decide) (by decide) (c_X5_firstBreach _ V hV hG hJ _ _ (top + st) (PL_of hb hbc h0 (by omega))) ?_
      rintro _ s54 ⟨rfl, hV54, hJ54⟩
      rw [brC_eq V (nI b) (nI (top + st)) _ _ (Nat.zero_add _)]
      refine r_bipush (q := 59) (v := -9) dX5_high_57 rfl (by decide) ?_
      refine r_icmp_ne (t := 67) (q := 62) dX5_high_59 (by decide) rfl (fun c59 => ?_) (fun c59 => ?_)
      · refine r_iload (q := 69) dX5_high_67 rfl rfl ?_
        refine r_iconst (q := 70) (v := nI 2) dX5_high_69 rfl (by decide) ?_
        refine r_idivN (q := 71) dX5_high_70 rfl (by omega) (by omega) (by omega) ?_
        refine r_istore (q := 73) dX5_high_71 rfl (Nat.le_of_ble_eq_true rfl) ?_
        refine r_goto (q := 33) dX5_high_73 (by decide) ?_
        refine (ih (st / 2) top _ (by omega) (by omega) (by omega) hV54 hJ54).mono ?_
        rintro r τ ⟨v, rfl, rfl, h⟩
        exact ⟨_, rfl, by rw [hiC, ← hst2, if_neg (fun h => c59 h.2)], h⟩
      · refine r_iload_n (q := 63) dX5_high_62 rfl rfl ?_
        refine r_iload (q := 65) dX5_high_63 rfl rfl ?_
        refine r_iaddN (q := 66) dX5_high_65 rfl ?_
        refine r_istore_n (q := 67) dX5_high_66 rfl (Nat.le_of_ble_eq_true rfl) ?_
        refine r_iload (q := 69) dX5_high_67 rfl rfl ?_
        refine r_iconst (q := 70) (v := nI 2) dX5_high_69 rfl (by decide) ?_
        refine r_idivN (q := 71) dX5_high_70 rfl (by omega) (by omega) (by omega) ?_
        refine r_istore (q := 73) dX5_high_71 rfl (Nat.le_of_ble_eq_true rfl) ?_
        refine r_goto (q := 33) dX5_high_73 (by decide) ?_
        refine (ih (st / 2) (top + st) _ (by omega) (by omega) (by omega) hV54 hJ54).mono ?_
        rintro r τ ⟨v, rfl, rfl, h⟩
        exact ⟨_, rfl, by rw [hiC, ← hst2, if_pos ⟨by omega, c59⟩], h⟩
set_option maxRecDepth 100000 in
set_option maxHeartbeats 4000000 in
theorem c_X5_high (σ V : St) (hV : vw σ = V) (hG : GOOD V) (hJ : J V σ) (b : Int32) : Cl LAYC yX5_high cX5_high 5 (some .int) 6 168 [.ref 0, .int b] σ (EI (fun v τ => v = resO (lack V b) (nI (hiR (askV V) b 201 (nv V 44 b.toNatClampNeg) 201)) ∧ finO (lack V b) (vw τ = V ∧ J V τ) V τ)) := by
  have hI := hG.1.1
  have hR := hG.2
  have hnw := bd hI 33 19 20 rfl rfl
  have hnb := bd hI 33 7 40 rfl rfl
  refine Cl.of 3 rfl rfl EI.ok ?_
  show Rn LAYC none RX5 _ _ _ _ 0 [some (.ref 0), some (.int b), none, none, none] [] _ _
  refine r_aload_n (q := 1) dX5_high_0 rfl rfl ?_
  refine gX5_19 (q := 4) dX5_high_1 rfl ?_
  refine r_iload_n (q := 5) dX5_high_4 rfl rfl ?_
  refine r_cI1 (q := 8) vX5_114 dX5_high_5 rfl LYX1 rfl (Nat.le_of_ble_eq_true rfl) (by decide) (by decide) (c_X1_planFault _ V hV hG _) ?_
  rintro _ τ0 ⟨rfl, hτ0⟩
  rw [hτ0]
  clear hτ0
  refine r_istore_n (q := 9) dX5_high_8 rfl (Nat.le_of_ble_eq_true rfl) ?_
  refine r_iload_n (q := 10) dX5_high_9 rfl rfl ?_
  refine r_if_eq (t := 19) (q := 13) dX5_high_10 (by decide) rfl (fun c10 => ?_) (fun c10 => ?_)
  · obtain ⟨h1, -, -, -⟩ := lack_0 c10
    obtain ⟨b, hb, rfl⟩ := ix_of h1
    have hbc := nI_clamp (n := b) (by omega)
    refine r_aload_n (q := 20) dX5_high_19 rfl rfl ?_
    refine gX5_19 (q := 23) dX5_high_20 rfl ?_
    refine r_iload_n (q := 24) dX5_high_23 rfl rfl ?_
    refine r_cI1 (q := 27) vX5_107 dX5_high_24 rfl LYX1 rfl (Nat.le_of_ble_eq_true rfl) (by decide) (by decide) (c_X1_footOf _ V hV hG b (by omega)) ?_
    rintro _ τ0 ⟨rfl, hτ0⟩
    rw [hτ0]
    clear hτ0
    refine r_istore_n (q := 28) dX5_high_27 rfl (Nat.le_of_ble_eq_true rfl) ?_
    refine r_sipush (q := 31) (v := nI 128) dX5_high_28 rfl (by decide) ?_
    refine r_istore (q := 33) dX5_high_31 rfl (Nat.le_of_ble_eq_true rfl) ?_
    refine (l_X5_high hG hb hbc c10 8 128 (nv V 44 b) _ (by omega) rfl (bd hI 44 b 200 rfl rfl) hV hJ).mono ?_
    rintro r τ ⟨v, rfl, rfl, h1, h2⟩
    exact ⟨_, rfl, go_ok c10 (by rw [hbc, hi_eq hG hb hbc c10]) ⟨h1, h2⟩⟩
  · obtain ⟨j, hj1, hj7, hj⟩ := lack_ne c10
    refine r_aload_n (q := 14) dX5_high_13 rfl rfl ?_
    refine r_iload_n (q := 15) dX5_high_14 rfl rfl ?_
    refine r_cI1 (q := 18) vX5_71 dX5_high_15 rfl LYX5 rfl (Nat.le_of_ble_eq_true rfl) (by decide) (by decide) (c_X5_refuse _ V hV _ j hj hj1 hj7) ?_
    rintro _ τR ⟨rfl, hRf, r32⟩
    exact r_retI dX5_high_18 (go_bad rfl c10 hRf (hJ.c r32))
