/-! ===== Arrays.fill of litBits ===== -/
def fillR (σ : St) (v : Int32) (n : Nat) : St := fun k i => if k = 32 ∧ i < n then v else σ k i
theorem fillR_s (σ : St) (v : Int32) (n : Nat) : va_up (fillR σ v n) 32 (upd (fillR σ v n 32) n v) = fillR σ v (n + 1) := by
  funext k i
  rw [u2]
  unfold fillR
  by_cases h1 : k = 32 ∧ i = n
  · rw [if_pos h1, if_pos (by omega)]
  · rw [if_neg h1]
    by_cases h2 : k = 32 ∧ i < n
    · rw [if_pos h2, if_pos (by omega)]
    · rw [if_neg h2, if_neg (by omega)]
theorem fillR_0 (σ : St) (v : Int32) : fillR σ v 0 = σ := by
  funext k i
  exact if_neg (by omega)
theorem fillR_vw (σ : St) (v : Int32) (n : Nat) : vw (fillR σ v n) = vw σ := by
  apply vw_ext
  intro k i hs
  exact if_neg (by rintro ⟨rfl, -⟩; cases hs)
set_option maxRecDepth 100000 in
set_option maxHeartbeats 4000000 in
theorem l_fill {ly : List LyE} (hly : ly[32]? = some (.inl (0, 160))) {σ0 : St} {v : Int32} : ∀ (n i : Nat), i + n = 160 → Rn ly none RJ7 cJ7_fill_53178 4 0 0 5 [some (.ref 32), some (.int v), some (.int (nI i)), some (.int (nI 160))] [] (fillR σ0 v i) (EV (fun τ => τ = fillR σ0 v 160)) := by
  intro n
  induction n with
  | zero =>
    intro i hb
    refine r_iload_n (q := 6) dJ7_fill_53178_5 rfl rfl ?_
    refine r_iload_n (q := 7) dJ7_fill_53178_6 rfl rfl ?_
    refine r_icmp_geN (t := 20) (q := 10) dJ7_fill_53178_7 (by decide) rfl (by omega) (by omega) (fun c7 => ?_) (fun c7 => absurd (by omega) c7)
    exact r_retV dJ7_fill_53178_20 (by rw [show i = 160 by omega])
  | succ n ih =>
    intro i hb
    refine r_iload_n (q := 6) dJ7_fill_53178_5 rfl rfl ?_
    refine r_iload_n (q := 7) dJ7_fill_53178_6 rfl rfl ?_
    refine r_icmp_geN (t := 20) (q := 10) dJ7_fill_53178_7 (by decide) rfl (by omega) (by omega) (fun c7 => absurd c7 (by omega)) (fun c7 => ?_)
    refine r_aload_n (q := 11) dJ7_fill_53178_10 rfl rfl ?_
    refine r_iload_n (q := 12) dJ7_fill_53178_11 rfl rfl ?_
    refine r_iload_n (q := 13) dJ7_fill_53178_12 rfl rfl ?_
    refine r_iast (q := 14) dJ7_fill_53178_13 rfl hly (by omega) (by decide) ?_
    refine r_iinc (q := 17) (v := nI (i + 1)) dJ7_fill_53178_14 rfl rfl (by rw [show Int32.ofInt 1 = nI 1 from rfl]; exact nI_add _ _) ?_
    refine r_goto (q := 5) dJ7_fill_53178_17 (by decide) ?_
    rw [fillR_s]
    exact ih (i + 1) (by omega)
set_option maxRecDepth 100000 in
set_option maxHeartbeats 4000000 in
theorem c_fill {ly : List LyE} (hly : ly[32]? = some (.inl (0, 160))) (σ0 : St) (v : Int32) : Cl ly yJ7_fill_53178 cJ7_fill_53178 4 (none) 0 0 [.ref 32, .int v] σ0 (EV (fun τ => τ = fillR σ0 v 160)) := by
  refine Cl.of 2 rfl plain_arr EV.ok ?_
  show Rn ly none RJ7 _ _ _ _ 0 [some (.ref 32), some (.int v), none, none] [] _ _
  refine r_iconst (q := 1) (v := nI 0) dJ7_fill_53178_0 rfl (by decide) ?_
  refine r_istore_n (q := 2) dJ7_fill_53178_1 rfl (Nat.le_of_ble_eq_true rfl) ?_
  refine r_aload_n (q := 3) dJ7_fill_53178_2 rfl rfl ?_
  refine r_alen (q := 4) dJ7_fill_53178_3 rfl hly ?_
  refine r_istore_n (q := 5) dJ7_fill_53178_4 rfl (Nat.le_of_ble_eq_true rfl) ?_
  have h0 := l_fill hly (σ0 := σ0) (v := v) 160 0 (by omega)
  rw [fillR_0] at h0
  exact h0
set_option maxRecDepth 100000 in
set_option maxHeartbeats 4000000 in
theorem c_X5_forgetLight (σ V : St) (hV : vw σ = V) : Cl LAYC yX5_forgetLight cX5_forgetLight 1 (none) 1 23 [.ref 0] σ (EV (fun τ => vw τ = V ∧ ∀ i, i < 160 → τ 32 i = -1)) := by
  refine Cl.of 0 rfl rfl EV.ok ?_
  show Rn LAYC none RX5 _ _ _ _ 0 [some (.ref 0)] [] _ _
  refine r_aload_n (q := 1) dX5_forgetLight_0 rfl rfl ?_
  refine gX5_51 (q := 4) dX5_forgetLight_1 rfl ?_
  refine r_iconst (q := 5) (v := -1) dX5_forgetLight_4 rfl (by decide) ?_
  refine r_sV2 (q := 8) vX5_61 dX5_forgetLight_5 rfl (Nat.le_of_ble_eq_true rfl) (by decide) (by decide) (c_fill LA32 σ (-1)) ?_
  rintro τ rfl
  exact r_retV dX5_forgetLight_8 ⟨by rw [fillR_vw]; exact hV, fun i hi => if_pos ⟨rfl, hi⟩⟩
theorem cd_lo {x : Int32} {j : Nat} (hj : -x = nI j) (h1 : 1 ≤ j) (h2 : j < 7) : ¬ 0 ≤ x ∧ ¬ x < -6 := by
  have e : x = -nI j := by rw [← hj]; exact (Int32.neg_neg).symm
  rw [e]
  rcases (show j = 1 ∨ j = 2 ∨ j = 3 ∨ j = 4 ∨ j = 5 ∨ j = 6 by omega) with rfl | rfl | rfl | rfl | rfl | rfl <;> exact ⟨by decide, by decide⟩
set_option maxRecDepth 100000 in
set_option maxHeartbeats 4000000 in
theorem c_X5_refuse (σ V : St) (hV : vw σ = V) (x : Int32) (j : Nat) (hj : -x = nI j) (h1 : 1 ≤ j) (h : j < 7) : Cl LAYC yX5_refuse cX5_refuse 2 (some .int) 0 0 [.ref 0, .int x] σ (EI (fun v τ => v = x ∧ vw τ = rfB V x ∧ τ 32 = σ 32)) := by
  refine Cl.of 0 rfl rfl EI.ok ?_
  show Rn LAYC none RX5 _ _ _ _ 0 [some (.ref 0), some (.int x)] [] _ _
  refine r_iload_n (q := 1) dX5_refuse_0 rfl rfl ?_
  refine r_if_ge (t := 21) (q := 4) dX5_refuse_1 (by decide) rfl (fun c1 => absurd c1 (cd_lo hj h1 h).1) (fun c1 => ?_)
  refine r_iload_n (q := 5) dX5_refuse_4 rfl rfl ?_
  refine r_bipush (q := 7) (v := -6) dX5_refuse_5 rfl (by decide) ?_
  refine r_icmp_lt (t := 21) (q := 10) dX5_refuse_7 (by decide) rfl (fun c7 => absurd c7 (cd_lo hj h1 h).2) (fun c7 => ?_)
  refine r_aload_n (q := 11) dX5_refuse_10 rfl rfl ?_
  refine gX5_48 (q := 14) dX5_refuse_11 rfl ?_
  refine r_iload_n (q := 15) dX5_refuse_14 rfl rfl ?_
  refine r_ineg (q := 16) dX5_refuse_15 rfl ?_
  refine r_as hj ?_
  refine r_dup2 (q := 17) dX5_refuse_16 rfl ?_
  refine r_iald (q := 18) dX5_refuse_17 rfl LA31 (by omega) (by decide) ?_
  refine r_iconst (q := 19) (v := nI 1) dX5_refuse_18 rfl (by decide) ?_
  refine r_iadd (q := 20) dX5_refuse_19 rfl ?_
  refine r_iast (q := 21) dX5_refuse_20 rfl LA31 (by omega) (by decide) ?_
  refine r_name (fun s20 e20 => ?_)
  have h20 : vw s20 = rfC V x := by rw [e20, vw_w hV rfl, rfC, hj, nI_clamp (by omega), vw_at hV rfl]; rfl
  have h32 : s20 32 = σ 32 := by rw [e20]; exact if_neg (by decide)
  refine r_ghost (va_up s20 58 (upd (s20 58) j (s20 58 j + 1))) (up_ghost (by decide)) ?_
  refine r_iload_n (q := 22) dX5_refuse_21 rfl rfl ?_
  exact r_retI dX5_refuse_22 ⟨rfl, by rw [vw_w h20 rfl, rfB, rfM, hj, nI_clamp (by omega), vw_at h20 rfl], h32⟩
set_option maxRecDepth 100000 in
set_option maxHeartbeats 4000000 in
theorem c_X5_refuseAsTold (σ V : St) (hV : vw σ = V) (x : Int32) (j : Nat) (hj : -x = nI j) (h1 : 1 ≤ j) (h : j < 7) : Cl LAYC yX5_refuseAsTold cX5_refuseAsTold 2 (some .int) 1 21 [.ref 0, .int x] σ (EI (fun v τ => v = 1000000 - x ∧ vw τ = rfB V x ∧ τ 32 = σ 32)) := by
  refine Cl.of 0 rfl rfl EI.ok ?_
  show Rn LAYC none RX5 _ _ _ _ 0 [some (.ref 0), some (.int x)] [] _ _
  refine r_ldc (q := 2) dX5_refuseAsTold_0 rfl kX5_219 ?_
  refine r_aload_n (q := 3) dX5_refuseAsTold_2 rfl rfl ?_
  refine r_iload_n (q := 4) dX5_refuseAsTold_3 rfl rfl ?_
  refine r_cI1 (q := 7) vX5_71 dX5_refuseAsTold_4 rfl LYX5 rfl (Nat.le_of_ble_eq_true rfl) (by decide) (by decide) (c_X5_refuse _ V hV _ j hj h1 h) ?_
  rintro _ τ ⟨rfl, hV1, h32⟩
  refine r_isub (q := 8) dX5_refuseAsTold_7 rfl ?_
  exact r_retI dX5_refuseAsTold_8 ⟨rfl, hV1, h32⟩
set_option maxRecDepth 100000 in
set_option maxHeartbeats 4000000 in
theorem c_X5_aim (σ V : St) (hV : vw σ = V) (hG : GOOD V) (w d m : Nat) (h20 : w < 20) (hd : d < 8) (hm : m < 24) : Cl LAYC yX5_aim cX5_aim 4 (some .boolean) 1 25 [.ref 0, .int (nI w), .int (nI d), .int (nI m)] σ (EI (fun v τ => v = nI (front V w (24 * d + m)) ∧ vw τ = V ∧ wayIs V (24 * d + m) τ ∧ τ 32 = σ 32)) := by
  refine Cl.of 0 rfl rfl (EI.okZ (okQ (front_le _ _ _))) ?_
  show Rn LAYC none RX5 _ _ _ _ 0 [some (.ref 0), some (.int (nI w)), some (.int (nI d)), some (.int (nI m))] [] _ _
  refine r_aload_n (q := 1) dX5_aim_0 rfl rfl ?_
  refine gX5_10 (q := 4) dX5_aim_1 rfl ?_
  refine r_iload_n (q := 5) dX5_aim_4 rfl rfl ?_
  refine r_iload_n (q := 6) dX5_aim_5 rfl rfl ?_
  refine r_aload_n (q := 7) dX5_aim_6 rfl rfl ?_
  refine gX5_33 (q := 10) dX5_aim_7 rfl ?_
  refine r_cV3 (q := 13) vX5_220 dX5_aim_10 rfl LYX3 rfl (Nat.le_of_ble_eq_true rfl) (by decide) (by decide) (c_X3_turn _ V hV hG d m hd hm) ?_
  rintro s10 ⟨hV10, w10, o10⟩
  refine r_aload_n (q := 14) dX5_aim_13 rfl rfl ?_
  refine gX5_26 (q := 17) dX5_aim_14 rfl ?_
  refine r_iload_n (q := 18) dX5_aim_17 rfl rfl ?_
  refine r_aload_n (q := 19) dX5_aim_18 rfl rfl ?_
  refine gX5_33 (q := 22) dX5_aim_19 rfl ?_
  refine r_cI2 (q := 25) vX5_223 dX5_aim_22 rfl LYX4 rfl (Nat.le_of_ble_eq_true rfl) (by decide) (by decide) (c_X4_faces _ V hV10 hG w (24 * d + m) h20 w10) ?_
  rintro _ τ0 ⟨rfl, hτ0⟩
  rw [hτ0]
  clear hτ0
  exact r_retI dX5_aim_25 ⟨rfl, hV10, w10, o10 32 (by decide)⟩
theorem off2.way {V σ τ : St} {k : Nat} (h : off2 24 25 σ τ) (hw : wayIs V k σ) : wayIs V k τ := by
  unfold wayIs
  rw [h 23 (by decide) (by decide)]
  exact hw
theorem off2.gat {V σ τ : St} {p : Int32} {t d : Nat} {l : List Nat} (h : off2 24 25 σ τ) (hg : gat V p t d l σ) : gat V p t d l τ := gat_c hg (h 26 (by decide) (by decide)) (h 27 (by decide) (by decide)) (h 28 (by decide) (by decide)) (h 29 (by decide) (by decide))
theorem off22.way {V σ τ : St} {k : Nat} (h : off22 σ τ) (hw : wayIs V k σ) : wayIs V k τ := by
  unfold wayIs
  rw [h 23 (by decide)]
  exact hw
theorem off22.gat {V σ τ : St} {p : Int32} {t d : Nat} {l : List Nat} (h : off22 σ τ) (hg : gat V p t d l σ) : gat V p t d l τ := gat_c hg (h 26 (by decide)) (h 27 (by decide)) (h 28 (by decide)) (h 29 (by decide))
theorem offG.way {V σ τ : St} {k : Nat} (h : offG σ τ) (hw : wayIs V k σ) : wayIs V k τ := by
  unfold wayIs
  rw [h 23 (by decide) (by decide) (by decide) (by decide) (by decide)]
  exact hw
/-- a list gathered for a whole WINDOW gives each CELL its light and its TAKER -/
def goodL (V U : St) (p : Int32) (t w d k : Nat) (l : List Nat) : Prop := (∀ x ∈ l, x < 40) ∧ l.length ≤ 40 ∧ ∀ c, c < cls V w → l.foldl (laf V p t w c d k) 4096 = lightR U w c d k (nv V 33 7) ∧ l.foldl (nef V p t w c k) none = takR U w c d k (nv V 33 7)
theorem goodL_all {V U σ : St} {p : Int32} {t w d k : Nat} (hG : GOOD V) (h : PL V p t U) (hd : d < 8) (hn : w < nv V 33 19) (hz : 1 ≤ nv V 37 k) (hw : wayIs V k σ) (hp : windIs V w σ) : goodL V U p t w d k (sel V p d (fun x => mHit σ V x (topP V p t x)) (nv V 33 7)) := by
  have hnb := bd hG.1.1 33 7 40 rfl rfl
  refine ⟨fun x hx => by have := sel_lt V p d _ _ x hx; omega, by have := sel_len V p d (fun x => mHit σ V x (topP V p t x)) (nv V 33 7); omega, fun c hc => ?_⟩
  have hA : ∀ b, b < nv V 33 7 → hitn V w c k b (topP V p t b) = 1 → (fun x => mHit σ V x (topP V p t x)) b = 1 := fun b hb hh => meet_all hG hn hc (topP_le hG.1.1 p (pl_t200 h) b) hz hw hp hh
  exact ⟨la_eq hG h hd hA _ (Nat.le_refl _), ne_eq hG h hd hA _ (Nat.le_refl _)⟩
theorem goodL_one {V U σ : St} {p : Int32} {t w c d k : Nat} (hG : GOOD V) (h : PL V p t U) (hd : d < 8) (hn : w < nv V 33 19) (hc : c < cls V w) (hz : 1 ≤ nv V 37 k) (hw : wayIs V k σ) (hp : pointIs V w c σ) : (∀ x ∈ sel V p d (fun x => mHit σ V x (topP V p t x)) (nv V 33 7), x < 40) ∧ (sel V p d (fun x => mHit σ V x (topP V p t x)) (nv V 33 7)).length ≤ 40 ∧ (sel V p d (fun x => mHit σ V x (topP V p t x)) (nv V 33 7)).foldl (laf V p t w c d k) 4096 = lightR U w c d k (nv V 33 7) ∧ (sel V p d (fun x => mHit σ V x (topP V p t x)) (nv V 33 7)).foldl (nef V p t w c k) none = takR U w c d k (nv V 33 7) := by
  have hnb := bd hG.1.1 33 7 40 rfl rfl
  have hA : ∀ b, b < nv V 33 7 → hitn V w c k b (topP V p t b) = 1 → (fun x => mHit σ V x (topP V p t x)) b = 1 := fun b hb hh => by
    have := (meet_pt (b := b) (t := topP V p t b) hG hn hc (topP_le hG.1.1 p (pl_t200 h) b) hz hw hp).1
    show mHit σ V b (topP V p t b) = 1
    rw [this, hh]
  exact ⟨fun x hx => by have := sel_lt V p d _ _ x hx; omega, by have := sel_len V p d (fun x => mHit σ V x (topP V p t x)) (nv V 33 7); omega, la_eq hG h hd hA _ (Nat.le_refl _), ne_eq hG h hd hA _ (Nat.le_refl _)⟩
theorem lightN_U {V U : St} {p : Int32} {t w c d m : Nat} (h : PL V p t U) (hf : ¬ front V w (24 * d + m) = 0) : lightN U w c d m = lightR U w c d (24 * d + m) (nv V 33 7) := by
  unfold lightN
  rw [(pl_geo h w 0 (24 * d + m) 0 0).2.2.1, if_neg hf]
  unfold nv
  rw [pl_f h 7 (by decide) (by decide)]
theorem sunN_U {V U : St} {p : Int32} {t w d m : Nat} (h : PL V p t U) : sunN U w d m = sunR U w d m (cls V w) := by
  unfold sunN
  rw [(pl_geo h w 0 0 0 0).2.2.2]
theorem sunR_full {V U : St} {p : Int32} {t w d m : Nat} (h : PL V p t U) (hf : ¬ front V w (24 * d + m) = 0) (hl : ∀ c, c < cls V w → lightR U w c d (24 * d + m) (nv V 33 7) = 4096) : ∀ n, n ≤ cls V w → sunR U w d m n = n * 4096 := by
  intro n
  induction n with
  | zero => intro _; rfl
  | succ n ih =>
    intro hn
    show sunR U w d m n + lightN U w n d m = _
    rw [ih (by omega), lightN_U h hf, hl n (by omega)]
    omega
set_option maxRecDepth 100000 in
set_option maxHeartbeats 4000000 in
theorem l_X5_sunAt {V U : St} (hG : GOOD V) {p : Int32} {t w d m : Nat} (hPL : PL V p t U) (h20 : w < 20) (hn : w < nv V 33 19) (hd : d < 8) (hz : 1 ≤ nv V 37 (24 * d + m)) (hf : ¬ front V w (24 * d + m) = 0) {l : List Nat} (hl : goodL V U p t w d (24 * d + m) l) {r32 : Nat → Int32} : ∀ (n c : Nat) (σ : St), c + n = cls V w → vw σ = V → wayIs V (24 * d + m) σ → gat V p t d l σ → σ 32 = r32 → Rn LAYC none RX5 cX5_sunAt 9 2 62 77 [some (.ref 0), some (.int (nI w)), some (.int (nI d)), some (.int (nI m)), some (.int p), some (.int (nI t)), some (.int (nI (cls V w))), some (.int (nI (sunR U w d m c))), some (.int (nI c))] [] σ (EI (fun v τ => v = nI (sunN U w d m) ∧ vw τ = V ∧ τ 32 = r32)) := by
  have hI := hG.1.1
  have hcl := (hG.1.2.1 w).2.2.1
  intro n
  induction n with
  | zero =>
    intro c σ hb hV hw hg h32
    refine r_iload (q := 79) dX5_sunAt_77 rfl rfl ?_
    refine r_iload (q := 81) dX5_sunAt_79 rfl rfl ?_
    refine r_icmp_geN (t := 124) (q := 84) dX5_sunAt_81 (by decide) rfl (by omega) (by omega) (fun c81 => ?_) (fun c81 => absurd (by omega) c81)
    refine r_iload (q := 126) dX5_sunAt_124 rfl rfl ?_
    exact r_retI dX5_sunAt_126 ⟨by rw [sunN_U hPL, show cls V w = c by omega], hV, h32⟩
  | succ n ih =>
    intro c σ hb hV hw hg h32
    refine r_iload (q := 79) dX5_sunAt_77 rfl rfl ?_
    refine r_iload (q := 81) dX5_sunAt_79 rfl rfl ?_
    refine r_icmp_geN (t := 124) (q := 84) dX5_sunAt_81 (by decide) rfl (by omega) (by omega) (fun c81 => absurd c81 (by omega)) (fun c81 => ?_)
    refine r_aload_n (q := 85) dX5_sunAt_84 rfl rfl ?_
    refine gX5_26 (q := 88) dX5_sunAt_85 rfl ?_
    refine r_iload_n (q := 89) dX5_sunAt_88 rfl rfl ?_
    refine r_iload (q := 91) dX5_sunAt_89 rfl rfl ?_
    refine r_aload_n (q := 92) dX5_sunAt_91 rfl rfl ?_
    refine gX5_33 (q := 95) dX5_sunAt_92 rfl ?_
    refine r_cV3 (q := 98) vX5_142 dX5_sunAt_95 rfl LYX4 rfl (Nat.le_of_ble_eq_true rfl) (by decide) (by decide) (c_X4_standOn _ V hV hG w c h20 hn (by omega)) ?_
    rintro s95 ⟨hV95, p95, o95⟩
    refine r_iload (q := 100) dX5_sunAt_98 rfl rfl ?_
    refine r_aload_n (q := 101) dX5_sunAt_100 rfl rfl ?_
    refine gX5_40 (q := 104) dX5_sunAt_101 rfl ?_
    refine r_aload_n (q := 105) dX5_sunAt_104 rfl rfl ?_
    refine gX5_19 (q := 108) dX5_sunAt_105 rfl ?_
    refine r_aload_n (q := 109) dX5_sunAt_108 rfl rfl ?_
    refine gX5_33 (q := 112) dX5_sunAt_109 rfl ?_
    refine r_cI2 (q := 115) vX5_150 dX5_sunAt_112 rfl LYX2 rfl (Nat.le_of_ble_eq_true rfl) (by decide) (by decide) (c_X2_lightAlong _ V hV95 hG p t w c d (24 * d + m) l (pl_t200 hPL) hn (by omega) hz ⟨o95.gat hg, o95.way hw, p95, hl.1, hl.2.1⟩) ?_
    rintro _ s112 ⟨rfl, hV112, o112⟩
    rw [laI_all, (hl.2.2 c (by omega)).1, ← lightN_U hPL hf]
    refine r_iaddN (q := 116) dX5_sunAt_115 rfl ?_
    refine r_istore (q := 118) dX5_sunAt_116 rfl (Nat.le_of_ble_eq_true rfl) ?_
    refine r_iinc (q := 121) (v := nI (c + 1)) dX5_sunAt_118 rfl rfl (by rw [show Int32.ofInt 1 = nI 1 from rfl]; exact nI_add _ _) ?_
    refine r_goto (q := 77) dX5_sunAt_121 (by decide) ?_
    exact ih (c + 1) _ (by omega) hV112 (o112.way (o95.way hw)) (o112.gat (o95.gat hg)) ((o112 32 (by decide)).trans ((o95 32 (by decide) (by decide)).trans h32))
set_option maxRecDepth 100000 in
set_option maxHeartbeats 4000000 in
theorem c_X5_sunAt (σ V : St) (hV : vw σ = V) (hG : GOOD V) (U : St) (p : Int32) (t w d m : Nat) (hPL : PL V p t U) (h20 : w < 20) (hn : w < nv V 33 19) (hd : d < 8) (hm : m < nv V 34 d) : Cl LAYC yX5_sunAt cX5_sunAt 9 (some .int) 2 62 [.ref 0, .int (nI w), .int (nI d), .int (nI m), .int p, .int (nI t)] σ (EI (fun v τ => v = nI (sunN U w d m) ∧ vw τ = V ∧ τ 32 = σ 32)) := by
  have hI := hG.1.1
  have hR := hG.2
  have hnw := bd hI 33 19 20 rfl rfl
  have hnb := bd hI 33 7 40 rfl rfl
  refine Cl.of 3 rfl rfl EI.ok ?_
  show Rn LAYC none RX5 _ _ _ _ 0 [some (.ref 0), some (.int (nI w)), some (.int (nI d)), some (.int (nI m)), some (.int p), some (.int (nI t)), none, none, none] [] _ _
  have hmn := bd hI 34 d 24 rfl rfl
  refine r_aload_n (q := 1) dX5_sunAt_0 rfl rfl ?_
  refine r_iload_n (q := 2) dX5_sunAt_1 rfl rfl ?_
  refine r_iload_n (q := 3) dX5_sunAt_2 rfl rfl ?_
  refine r_iload_n (q := 4) dX5_sunAt_3 rfl rfl ?_
  refine r_cI3 (q := 7) vX5_138 dX5_sunAt_4 rfl LYX5 rfl (Nat.le_of_ble_eq_true rfl) (by decide) (by decide) (c_X5_aim _ V hV hG w d m h20 hd (by omega)) ?_
  rintro _ s4 ⟨rfl, hV4, w4, r4⟩
  refine r_if_neN (t := 12) (q := 10) dX5_sunAt_7 (by decide) rfl (by have := front_le V w (24 * d + m); omega) (fun c7 => ?_) (fun c7 => ?_)
  · refine r_aload_n (q := 13) dX5_sunAt_12 rfl rfl ?_
    refine gX5_26 (q := 16) dX5_sunAt_13 rfl ?_
    refine r_iload_n (q := 17) dX5_sunAt_16 rfl rfl ?_
    refine r_cI1 (q := 20) vX5_193 dX5_sunAt_17 rfl LYX4 rfl (Nat.le_of_ble_eq_true rfl) (by decide) (by decide) (c_X4_cellsOf _ V hV4 hG w h20) ?_
    rintro _ τ0 ⟨rfl, hτ0⟩
    rw [hτ0]
    clear hτ0
    refine r_istore (q := 22) dX5_sunAt_20 rfl (Nat.le_of_ble_eq_true rfl) ?_
    refine r_aload_n (q := 23) dX5_sunAt_22 rfl rfl ?_
    refine gX5_26 (q := 26) dX5_sunAt_23 rfl ?_
    refine r_iload_n (q := 27) dX5_sunAt_26 rfl rfl ?_
    refine r_aload_n (q := 28) dX5_sunAt_27 rfl rfl ?_
    refine gX5_33 (q := 31) dX5_sunAt_28 rfl ?_
    refine r_cV2 (q := 34) vX5_227 dX5_sunAt_31 rfl LYX4 rfl (Nat.le_of_ble_eq_true rfl) (by decide) (by decide) (c_X4_standOnAll _ V hV4 hG w h20 hn) ?_
    rintro s31 ⟨hV31, p31, o31⟩
    refine r_aload_n (q := 35) dX5_sunAt_34 rfl rfl ?_
    refine gX5_40 (q := 38) dX5_sunAt_35 rfl ?_
    refine r_aload_n (q := 39) dX5_sunAt_38 rfl rfl ?_
    refine gX5_19 (q := 42) dX5_sunAt_39 rfl ?_
    refine r_aload_n (q := 43) dX5_sunAt_42 rfl rfl ?_
    refine gX5_33 (q := 46) dX5_sunAt_43 rfl ?_
    refine r_iload_n (q := 47) dX5_sunAt_46 rfl rfl ?_
    refine r_iload (q := 49) dX5_sunAt_47 rfl rfl ?_
    refine r_iload (q := 51) dX5_sunAt_49 rfl rfl ?_
    refine r_cV5 (q := 54) vX5_146 dX5_sunAt_51 rfl LYX2 rfl (Nat.le_of_ble_eq_true rfl) (by decide) (by decide) (c_X2_gather _ V hV31 hG p t d (pl_t200 hPL) hd) ?_
    rintro s51 ⟨hV51, o51, g51⟩
    have hz := hG.1.2.2.2 d m hd hm
    have w31 := o31.way w4
    have hl := goodL_all hG hPL hd hn hz w31 p31
    generalize sel V p d (fun x => mHit s31 V x (topP V p t x)) (nv V 33 7) = l at g51 hl
    have r51 : s51 32 = σ 32 := (o51 32 (by decide) (by decide) (by decide) (by decide) (by decide)).trans ((o31 32 (by decide) (by decide)).trans r4)
    refine r_aload_n (q := 55) dX5_sunAt_54 rfl rfl ?_
    refine gX5_40 (q := 58) dX5_sunAt_55 rfl ?_
    refine gX5_231 (q := 61) dX5_sunAt_58 rfl ?_
    refine r_as g51.1 ?_
    refine r_if_neN (t := 71) (q := 64) dX5_sunAt_61 (by decide) rfl (by have := hl.2.1; omega) (fun c61 => ?_) (fun c61 => ?_)
    · refine r_iconst (q := 72) (v := nI 0) dX5_sunAt_71 rfl (by decide) ?_
      refine r_istore (q := 74) dX5_sunAt_72 rfl (Nat.le_of_ble_eq_true rfl) ?_
      refine r_iconst (q := 75) (v := nI 0) dX5_sunAt_74 rfl (by decide) ?_
      refine r_istore (q := 77) dX5_sunAt_75 rfl (Nat.le_of_ble_eq_true rfl) ?_
      exact l_X5_sunAt hG hPL h20 hn hd hz c7 hl (cls V w) 0 _ (Nat.zero_add _) hV51 (o51.way w31) g51 r51
    · refine r_iload (q := 66) dX5_sunAt_64 rfl rfl ?_
      refine r_sipush (q := 69) (v := nI 4096) dX5_sunAt_66 rfl (by decide) ?_
      refine r_imulN (q := 70) dX5_sunAt_69 rfl ?_
      have hnil : l = [] := List.eq_nil_of_length_eq_zero c61
      subst hnil
      exact r_retI dX5_sunAt_70 ⟨by rw [sunN_U hPL, sunR_full hPL c7 (fun c hc => (hl.2.2 c hc).1.symm) _ (Nat.le_refl _)], hV51, r51⟩
  · refine r_iconst (q := 11) (v := nI 0) dX5_sunAt_10 rfl (by decide) ?_
    exact r_retI dX5_sunAt_11 ⟨by rw [sunN_U hPL, sunR_0 (by rw [(pl_geo hPL w 0 (24 * d + m) 0 0).2.2.1]; exact c7)], hV4, r4⟩
set_option maxRecDepth 100000 in
set_option maxHeartbeats 4000000 in
theorem l_X5_cellsTaken {V : St} (hG : GOOD V) {x : Int32} {w d m : Nat} (h20 : w < 20) (hn : w < nv V 33 19) (hd : d < 8) (hz : 1 ≤ nv V 37 (24 * d + m)) (hf : ¬ front V w (24 * d + m) = 0) {l : List Nat} (hl : goodL V V (-9) 0 w d (24 * d + m) l) {r32 : Nat → Int32} : ∀ (n c : Nat) (σ : St), c + n = cls V w → vw σ = V → wayIs V (24 * d + m) σ → gat V (-9) 0 d l σ → σ 32 = r32 → Rn LAYC none RX5 cX5_cellsTaken 7 2 62 49 [some (.ref 0), some (.int (nI w)), some (.int (nI d)), some (.int (nI m)), some (.int x), some (.int (nI (tkC V w d m x c))), some (.int (nI c))] [] σ (EI (fun v τ => v = nI (tkC V w d m x (cls V w)) ∧ vw τ = V ∧ τ 32 = r32)) := by
  have hI := hG.1.1
  have hcl := (hG.1.2.1 w).2.2.1
  intro n
  induction n with
  | zero =>
    intro c σ hb hV hw hg h32
    refine r_iload (q := 51) dX5_cellsTaken_49 rfl rfl ?_
    refine r_aload_n (q := 52) dX5_cellsTaken_51 rfl rfl ?_
    refine gX5_26 (q := 55) dX5_cellsTaken_52 rfl ?_
    refine r_iload_n (q := 56) dX5_cellsTaken_55 rfl rfl ?_
    refine r_cI1 (q := 59) vX5_193 dX5_cellsTaken_56 rfl LYX4 rfl (Nat.le_of_ble_eq_true rfl) (by decide) (by decide) (c_X4_cellsOf _ V hV hG w h20) ?_
    rintro _ τ0 ⟨rfl, hτ0⟩
    rw [hτ0]
    clear hτ0
    refine r_icmp_geN (t := 105) (q := 62) dX5_cellsTaken_59 (by decide) rfl (by omega) (by omega) (fun c59 => ?_) (fun c59 => absurd (by omega) c59)
    refine r_iload (q := 107) dX5_cellsTaken_105 rfl rfl ?_
    exact r_retI dX5_cellsTaken_107 ⟨by rw [show cls V w = c by omega], hV, h32⟩
  | succ n ih =>
    intro c σ hb hV hw hg h32
    refine r_iload (q := 51) dX5_cellsTaken_49 rfl rfl ?_
    refine r_aload_n (q := 52) dX5_cellsTaken_51 rfl rfl ?_
    refine gX5_26 (q := 55) dX5_cellsTaken_52 rfl ?_
    refine r_iload_n (q := 56) dX5_cellsTaken_55 rfl rfl ?_
    refine r_cI1 (q := 59) vX5_193 dX5_cellsTaken_56 rfl LYX4 rfl (Nat.le_of_ble_eq_true rfl) (by decide) (by decide) (c_X4_cellsOf _ V hV hG w h20) ?_
    rintro _ τ0 ⟨rfl, hτ0⟩
    rw [hτ0]
    clear hτ0
    refine r_icmp_geN (t := 105) (q := 62) dX5_cellsTaken_59 (by decide) rfl (by omega) (by omega) (fun c59 => absurd c59 (by omega)) (fun c59 => ?_)
    refine r_aload_n (q := 63) dX5_cellsTaken_62 rfl rfl ?_
    refine gX5_26 (q := 66) dX5_cellsTaken_63 rfl ?_
    refine r_iload_n (q := 67) dX5_cellsTaken_66 rfl rfl ?_
    refine r_iload (q := 69) dX5_cellsTaken_67 rfl rfl ?_
    refine r_aload_n (q := 70) dX5_cellsTaken_69 rfl rfl ?_
    refine gX5_33 (q := 73) dX5_cellsTaken_70 rfl ?_
    refine r_cV3 (q := 76) vX5_142 dX5_cellsTaken_73 rfl LYX4 rfl (Nat.le_of_ble_eq_true rfl) (by decide) (by decide) (c_X4_standOn _ V hV hG w c h20 hn (by omega)) ?_
    rintro s73 ⟨hV73, p73, o73⟩
    refine r_aload_n (q := 77) dX5_cellsTaken_76 rfl rfl ?_
    refine gX5_40 (q := 80) dX5_cellsTaken_77 rfl ?_
    refine r_aload_n (q := 81) dX5_cellsTaken_80 rfl rfl ?_
    refine gX5_19 (q := 84) dX5_cellsTaken_81 rfl ?_
    refine r_aload_n (q := 85) dX5_cellsTaken_84 rfl rfl ?_
    refine gX5_33 (q := 88) dX5_cellsTaken_85 rfl ?_
    refine r_cI2 (q := 91) vX5_157 dX5_cellsTaken_88 rfl LYX2 rfl (Nat.le_of_ble_eq_true rfl) (by decide) (by decide) (c_X2_nearestAlong _ V hV73 hG (-9) 0 w c d (24 * d + m) l (by omega) hn (by omega) hz ⟨o73.gat hg, o73.way hw, p73, hl.1, hl.2.1⟩) ?_
    rintro _ s88 ⟨rfl, hV88, o88⟩
    rw [neI_all, (hl.2.2 c (by omega)).2]
    have et : takN V w c d m = takV (takR V w c d (24 * d + m) (nv V 33 7)) := by rw [takN, if_neg hf]
    rw [← et]
    refine r_iload (q := 93) dX5_cellsTaken_91 rfl rfl ?_
    refine r_icmp_ne (t := 99) (q := 96) dX5_cellsTaken_93 (by decide) rfl (fun c93 => ?_) (fun c93 => ?_)
    · refine r_iinc (q := 102) (v := nI (c + 1)) dX5_cellsTaken_99 rfl rfl (by rw [show Int32.ofInt 1 = nI 1 from rfl]; exact nI_add _ _) ?_
      refine r_goto (q := 49) dX5_cellsTaken_102 (by decide) ?_
      have e : tkC V w d m x (c + 1) = tkC V w d m x c := by rw [tkC, if_neg c93]; try rfl
      rw [← e]
      exact ih (c + 1) _ (by omega) hV88 (o88.way (o73.way hw)) (o88.gat (o73.gat hg)) ((o88 32 (by decide)).trans ((o73 32 (by decide) (by decide)).trans h32))
    · refine r_iinc (q := 99) (v := nI (tkC V w d m x c + 1)) dX5_cellsTaken_96 rfl rfl (by rw [show Int32.ofInt 1 = nI 1 from rfl]; exact nI_add _ _) ?_
      refine r_iinc (q := 102) (v := nI (c + 1)) dX5_cellsTaken_99 rfl rfl (by rw [show Int32.ofInt 1 = nI 1 from rfl]; exact nI_add _ _) ?_
      refine r_goto (q := 49) dX5_cellsTaken_102 (by decide) ?_
      have e : tkC V w d m x (c + 1) = tkC V w d m x c + 1 := by rw [tkC, if_pos c93]; try rfl
      rw [← e]
      exact ih (c + 1) _ (by omega) hV88 (o88.way (o73.way hw)) (o88.gat (o73.gat hg)) ((o88 32 (by decide)).trans ((o73 32 (by decide) (by decide)).trans h32))
theorem tkC_0 {V : St} {w d m b : Nat} (hb : b < 1000) (hf : front V w (24 * d + m) = 0) (n : Nat) : tkC V w d m (nI b) n = 0 := by
  induction n with
  | zero => rfl
  | succ n ih =>
    rw [tkC, ih, takN, if_pos hf, if_neg]
    intro h
    have : (nI b).toInt = (-8 : Int32).toInt := by rw [← h]
    rw [nI_toInt (by omega)] at this
    have e : (-8 : Int32).toInt = -8 := rfl
    omega
set_option maxRecDepth 100000 in
set_option maxHeartbeats 4000000 in
theorem c_X5_cellsTaken (σ V : St) (hV : vw σ = V) (hG : GOOD V) (w d m b : Nat) (h20 : w < 20) (hn : w < nv V 33 19) (hd : d < 8) (hm : m < nv V 34 d) (hb : b < 1000) : Cl LAYC yX5_cellsTaken cX5_cellsTaken 7 (some .int) 2 62 [.ref 0, .int (nI w), .int (nI d), .int (nI m), .int (nI b)] σ (EI (fun v τ => v = nI (tkC V w d m (nI b) (cls V w)) ∧ vw τ = V ∧ τ 32 = σ 32)) := by
  have hI := hG.1.1
  have hR := hG.2
  have hnw := bd hI 33 19 20 rfl rfl
  have hnb := bd hI 33 7 40 rfl rfl
  refine Cl.of 2 rfl rfl EI.ok ?_
  show Rn LAYC none RX5 _ _ _ _ 0 [some (.ref 0), some (.int (nI w)), some (.int (nI d)), some (.int (nI m)), some (.int (nI b)), none, none] [] _ _
  have hmn := bd hI 34 d 24 rfl rfl
  refine r_aload_n (q := 1) dX5_cellsTaken_0 rfl rfl ?_
  refine r_iload_n (q := 2) dX5_cellsTaken_1 rfl rfl ?_
  refine r_iload_n (q := 3) dX5_cellsTaken_2 rfl rfl ?_
  refine r_iload_n (q := 4) dX5_cellsTaken_3 rfl rfl ?_
  refine r_cI3 (q := 7) vX5_138 dX5_cellsTaken_4 rfl LYX5 rfl (Nat.le_of_ble_eq_true rfl) (by decide) (by decide) (c_X5_aim _ V hV hG w d m h20 hd (by omega)) ?_
  rintro _ s4 ⟨rfl, hV4, w4, r4⟩
  refine r_if_neN (t := 12) (q := 10) dX5_cellsTaken_7 (by decide) rfl (by have := front_le V w (24 * d + m); omega) (fun c7 => ?_) (fun c7 => ?_)
  · refine r_aload_n (q := 13) dX5_cellsTaken_12 rfl rfl ?_
    refine gX5_26 (q := 16) dX5_cellsTaken_13 rfl ?_
    refine r_iload_n (q := 17) dX5_cellsTaken_16 rfl rfl ?_
    refine r_aload_n (q := 18) dX5_cellsTaken_17 rfl rfl ?_
    refine gX5_33 (q := 21) dX5_cellsTaken_18 rfl ?_
    refine r_cV2 (q := 24) vX5_227 dX5_cellsTaken_21 rfl LYX4 rfl (Nat.le_of_ble_eq_true rfl) (by decide) (by decide) (c_X4_standOnAll _ V hV4 hG w h20 hn) ?_
    rintro s21 ⟨hV21, p21, o21⟩
    refine r_aload_n (q := 25) dX5_cellsTaken_24 rfl rfl ?_
    refine gX5_40 (q := 28) dX5_cellsTaken_25 rfl ?_
    refine r_aload_n (q := 29) dX5_cellsTaken_28 rfl rfl ?_
    refine gX5_19 (q := 32) dX5_cellsTaken_29 rfl ?_
    refine r_aload_n (q := 33) dX5_cellsTaken_32 rfl rfl ?_
    refine gX5_33 (q := 36) dX5_cellsTaken_33 rfl ?_
    refine r_iload_n (q := 37) dX5_cellsTaken_36 rfl rfl ?_
    refine r_bipush (q := 39) (v := -9) dX5_cellsTaken_37 rfl (by decide) ?_
    refine r_iconst (q := 40) (v := nI 0) dX5_cellsTaken_39 rfl (by decide) ?_
    refine r_cV5 (q := 43) vX5_146 dX5_cellsTaken_40 rfl LYX2 rfl (Nat.le_of_ble_eq_true rfl) (by decide) (by decide) (c_X2_gather _ V hV21 hG (-9) 0 d (by omega) hd) ?_
    rintro s40 ⟨hV40, o40, g40⟩
    have hz := hG.1.2.2.2 d m hd hm
    have w21 := o21.way w4
    have hl := goodL_all hG (Or.inl ⟨rfl, rfl, rfl⟩) hd hn hz w21 p21
    generalize sel V (-9) d (fun x => mHit s21 V x (topP V (-9) 0 x)) (nv V 33 7) = l at g40 hl
    have r40 : s40 32 = σ 32 := (o40 32 (by decide) (by decide) (by decide) (by decide) (by decide)).trans ((o21 32 (by decide) (by decide)).trans r4)
    refine r_iconst (q := 44) (v := nI 0) dX5_cellsTaken_43 rfl (by decide) ?_
    refine r_istore (q := 46) dX5_cellsTaken_44 rfl (Nat.le_of_ble_eq_true rfl) ?_
    refine r_iconst (q := 47) (v := nI 0) dX5_cellsTaken_46 rfl (by decide) ?_
    refine r_istore (q := 49) dX5_cellsTaken_47 rfl (Nat.le_of_ble_eq_true rfl) ?_
    exact l_X5_cellsTaken hG h20 hn hd hz c7 hl (cls V w) 0 _ (Nat.zero_add _) hV40 (o40.way w21) g40 r40
  · refine r_iconst (q := 11) (v := nI 0) dX5_cellsTaken_10 rfl (by decide) ?_
    exact r_retI dX5_cellsTaken_11 ⟨by rw [tkC_0 (by omega) c7], hV4, r4⟩
set_option maxRecDepth 100000 in
set_option maxHeartbeats 4000000 in
theorem c_X5_isLitBy (σ V : St) (hV : vw σ = V) (hG : GOOD V) (w s : Nat) (h20 : w < 20) (hs : s ≤ 262144) : Cl LAYC yX5_isLitBy cX5_isLitBy 3 (some .boolean) 1 21 [.ref 0, .int (nI w), .int (nI s)] σ (EI (fun v τ => v = nI (if 8 * s < nv V 33 5 * 4096 * cls V w then 0 else 1) ∧ τ = σ)) := by
  have hI := hG.1.1
  have hR := hG.2
  have hnw := bd hI 33 19 20 rfl rfl
  have hnb := bd hI 33 7 40 rfl rfl
  refine Cl.of 0 rfl rfl (EI.okZ (okB (by split <;> omega))) ?_
  show Rn LAYC none RX5 _ _ _ _ 0 [some (.ref 0), some (.int (nI w)), some (.int (nI s))] [] _ _
  have hcl := (hG.1.2.1 w).2.2.1
  have hpt := hR.part
  refine r_bipush (q := 2) (v := nI 8) dX5_isLitBy_0 rfl (by decide) ?_
  refine r_iload_n (q := 3) dX5_isLitBy_2 rfl rfl ?_
  refine r_imulN (q := 4) dX5_isLitBy_3 rfl ?_
  refine r_aload_n (q := 5) dX5_isLitBy_4 rfl rfl ?_
  refine gvX5_54 (q := 8) hV hI dX5_isLitBy_5 rfl ?_
  refine r_sipush (q := 11) (v := nI 4096) dX5_isLitBy_8 rfl (by decide) ?_
  refine r_imulN (q := 12) dX5_isLitBy_11 rfl ?_
  refine r_aload_n (q := 13) dX5_isLitBy_12 rfl rfl ?_
  refine gX5_26 (q := 16) dX5_isLitBy_13 rfl ?_
  refine r_iload_n (q := 17) dX5_isLitBy_16 rfl rfl ?_
  refine r_cI1 (q := 20) vX5_193 dX5_isLitBy_17 rfl LYX4 rfl (Nat.le_of_ble_eq_true rfl) (by decide) (by decide) (c_X4_cellsOf _ V hV hG w h20) ?_
  rintro _ τ0 ⟨rfl, hτ0⟩
  rw [hτ0]
  clear hτ0
  refine r_imulN (q := 21) dX5_isLitBy_20 rfl ?_
  refine r_icmp_ltN (t := 28) (q := 24) dX5_isLitBy_21 (by decide) rfl (by omega) (by have h1 := bd hI 0 8 8 rfl rfl; have := Nat.mul_le_mul (show nv V 0 8 * 4096 ≤ 32768 by omega) hcl; omega) (fun c21 => ?_) (fun c21 => ?_)
  · refine r_iconst (q := 29) (v := nI 0) dX5_isLitBy_28 rfl (by decide) ?_
    rw [hpt] at c21
    exact r_retI dX5_isLitBy_29 ⟨by first | rw [if_pos c21] | rw [if_neg c21], rfl⟩
  · refine r_iconst (q := 25) (v := nI 1) dX5_isLitBy_24 rfl (by decide) ?_
    refine r_goto (q := 29) dX5_isLitBy_25 (by decide) ?_
    rw [hpt] at c21
    exact r_retI dX5_isLitBy_29 ⟨by first | rw [if_pos c21] | rw [if_neg c21], rfl⟩
