section
set_option maxRecDepth 100000 in
set_option maxHeartbeats 400000 in
theorem st_minute {σ : St} (h : IV σ) (d x y z : Int32) : ∃ E, Cl LAYC yX5_minute cX5_minute 5 (some .int) 2 43 [.ref 0, .int d, .int x, .int y, .int z] σ (EI E) ∧ ∀ v τ, E v τ → Cl LAY yX6_minute cX6_minute 6 (some .int) 2 42 [.ref 33, .int d, .int x, .int y, .int z] (mgN 33 τ σ) (EI (fun v2 τ2 => v2 = v ∧ IV τ2)) := by
  have hG := h.1
  have hJ := h.2
  have hI := hG.1.1
  have hnb := bd hI 33 7 40 rfl rfl
  have hnw := bd hI 33 19 20 rfl rfl
  generalize hV : vw σ = V at *
  refine ⟨_, c_X5_minute σ V hV hG hJ d x y z, ?_⟩
  rintro v τ ⟨rfl, hf⟩
  have h0 : cMinute V d x y z = 0 → GOOD (mx (wr (wr (wr (wr V 3 ((d.toNatClampNeg * 24 + nv V 2 d.toNatClampNeg) * 3 + 0) x) 3 ((d.toNatClampNeg * 24 + nv V 2 d.toNatClampNeg) * 3 + 1) y) 3 ((d.toNatClampNeg * 24 + nv V 2 d.toNatClampNeg) * 3 + 2) z) 2 d.toNatClampNeg (nI (nv V 2 d.toNatClampNeg + 1))) (wr (wr (wr (wr V 35 (24 * d.toNatClampNeg + nv V 34 d.toNatClampNeg) x) 36 (24 * d.toNatClampNeg + nv V 34 d.toNatClampNeg) y) 37 (24 * d.toNatClampNeg + nv V 34 d.toNatClampNeg) z) 34 d.toNatClampNeg (nI (nv V 34 d.toNatClampNeg + 1)))) := fun hc => by
    obtain ⟨q1, q2, q3, q4, q5, q6, q7, q8⟩ := cMinute_0 hc
    obtain ⟨j, hj, rfl⟩ := ix_of q1
    obtain ⟨n, hn1, hn2, rfl⟩ := rg (by decide) (by decide) q4 q7
    rw [nI_clamp (by omega)] at q8 ⊢
    have := bd hI 34 j 24 rfl rfl
    rw [Int32.lt_iff_toInt_lt, show (-50 : Int32).toInt = -50 from rfl] at q2 q3
    rw [Int32.lt_iff_toInt_lt, nI_toInt (by decide)] at q5 q6
    exact G_minute hG hj (by omega) (by omega) (by omega) (by omega) (by omega) hn1 hn2
  refine (c_X6_minute _ _ (vwM_mg hV) (WF_o hG hf h0).1  d x y z).mono ?_
  rintro r τ2 ⟨v2, rfl, rfl, h2⟩
  have h3 : vwM τ2 = stO (cMinute V d x y z) (mx (vwM τ) (wr (wr (wr (wr V 35 (24 * d.toNatClampNeg + nv V 34 d.toNatClampNeg) x) 36 (24 * d.toNatClampNeg + nv V 34 d.toNatClampNeg) y) 37 (24 * d.toNatClampNeg + nv V 34 d.toNatClampNeg) z) 34 d.toNatClampNeg (nI (nv V 34 d.toNatClampNeg + 1)))) (rfM (mx (vwM τ) V) (cMinute V d x y z)) := by
    rw [← wr_mx (by decide), ← wr_mx (by decide), ← wr_mx (by decide), ← wr_mx (by decide)]
    exact h2
  exact ⟨_, rfl, rfl, IV_o hG hf h3 h0 (fun hc hq => J_all hq)⟩
set_option maxRecDepth 100000 in
set_option maxHeartbeats 400000 in
theorem st_block {σ : St} (h : IV σ) (k x0 x1 y0 y1 f t : Int32) : ∃ E, Cl LAYC yX5_block cX5_block 8 (some .int) 2 43 [.ref 0, .int k, .int x0, .int x1, .int y0, .int y1, .int f, .int t] σ (EI E) ∧ ∀ v τ, E v τ → Cl LAY yX6_block cX6_block 8 (some .int) 1 22 [.ref 33, .int k, .int x0, .int x1, .int y0, .int y1, .int f, .int t] (mgN 33 τ σ) (EI (fun v2 τ2 => v2 = v ∧ IV τ2)) := by
  have hG := h.1
  have hJ := h.2
  have hI := hG.1.1
  have hnb := bd hI 33 7 40 rfl rfl
  have hnw := bd hI 33 19 20 rfl rfl
  generalize hV : vw σ = V at *
  refine ⟨_, c_X5_block σ V hV hG hJ k x0 x1 y0 y1 f t, ?_⟩
  rintro v τ ⟨rfl, hf⟩
  have h0 : cBlock V k x0 x1 y0 y1 f t = 0 → GOOD (mx (blkC V k x0 x1 y0 y1 f t) (wr (wr (wr (wr (wr (wr (wr (wr (wr V 39 (nv V 33 7) k) 40 (nv V 33 7) x0) 41 (nv V 33 7) x1) 42 (nv V 33 7) y0) 43 (nv V 33 7) y1) 44 (nv V 33 7) f) 45 (nv V 33 7) t) 46 (nv V 33 7) (nI 200)) 33 7 (nI (nv V 33 7 + 1)))) := fun hc => by
    obtain ⟨q1, q2, q3, q4, q5, q6, q7, q8, q9, q10, q11⟩ := cBlock_0 hc
    obtain ⟨n, hn, rfl⟩ := in3 q1
    obtain ⟨a, b, hab, hb, rfl, rfl⟩ := up0 (by decide) q2 q5 q8
    obtain ⟨a2, b2, hab2, hb2, rfl, rfl⟩ := up0 (by decide) q3 q6 q9
    obtain ⟨a3, b3, hab3, hb3, rfl, rfl⟩ := up0 (by decide) q4 q7 q10
    exact G_block hG hn (by omega) (by omega) hb (by omega) hb2 (by omega) hb3
  refine (c_X6_block _ _ (vwM_mg hV) (WF_o hG hf h0).1  k x0 x1 y0 y1 f t).mono ?_
  rintro r τ2 ⟨v2, rfl, rfl, h2⟩
  have h3 : vwM τ2 = stO (cBlock V k x0 x1 y0 y1 f t) (mx (vwM τ) (wr (wr (wr (wr (wr (wr (wr (wr (wr V 39 (nv V 33 7) k) 40 (nv V 33 7) x0) 41 (nv V 33 7) x1) 42 (nv V 33 7) y0) 43 (nv V 33 7) y1) 44 (nv V 33 7) f) 45 (nv V 33 7) t) 46 (nv V 33 7) (nI 200)) 33 7 (nI (nv V 33 7 + 1)))) (rfM (mx (vwM τ) V) (cBlock V k x0 x1 y0 y1 f t)) := by
    rw [← wr_mx (by decide), ← wr_mx (by decide), ← wr_mx (by decide), ← wr_mx (by decide), ← wr_mx (by decide), ← wr_mx (by decide), ← wr_mx (by decide), ← wr_mx (by decide), ← wr_mx (by decide)]
    exact h2
  exact ⟨_, rfl, rfl, IV_o hG hf h3 h0 (fun hc hq => J_all hq)⟩
set_option maxRecDepth 100000 in
set_option maxHeartbeats 400000 in
theorem st_share {σ : St} (h : IV σ) (b d e : Int32) : ∃ E, Cl LAYC yX5_share cX5_share 6 (some .int) 2 43 [.ref 0, .int b, .int d, .int e] σ (EI E) ∧ ∀ v τ, E v τ → Cl LAY yX6_share cX6_share 5 (some .int) 2 43 [.ref 33, .int b, .int d, .int e] (mgN 33 τ σ) (EI (fun v2 τ2 => v2 = v ∧ IV τ2)) := by
  have hG := h.1
  have hJ := h.2
  have hI := hG.1.1
  have hnb := bd hI 33 7 40 rfl rfl
  have hnw := bd hI 33 19 20 rfl rfl
  generalize hV : vw σ = V at *
  refine ⟨_, c_X5_share σ V hV hG hJ b d e, ?_⟩
  rintro v τ ⟨rfl, hf⟩
  have h0 : cShare V b d e = 0 → GOOD (mx (wr V 9 (b.toNatClampNeg * 8 + d.toNatClampNeg) e) (wr V 47 (8 * b.toNatClampNeg + d.toNatClampNeg) e)) := fun hc => by
    obtain ⟨q1, q2, q3, q4, q5⟩ := cShare_0 hc
    obtain ⟨i, hi, rfl⟩ := ix_of q1
    obtain ⟨j, hj, rfl⟩ := ix_of q2
    obtain ⟨n, hn, rfl⟩ := rg0 (by decide) q4 q5
    rw [nI_clamp (by omega)] at q3 ⊢
    rw [nI_clamp (by omega)]
    exact G_share hG hi hj q3 hn
  refine (c_X6_share _ _ (vwM_mg hV) (WF_o hG hf h0).1  b d e).mono ?_
  rintro r τ2 ⟨v2, rfl, rfl, h2⟩
  have h3 : vwM τ2 = stO (cShare V b d e) (mx (vwM τ) (wr V 47 (8 * b.toNatClampNeg + d.toNatClampNeg) e)) (rfM (mx (vwM τ) V) (cShare V b d e)) := by
    rw [← wr_mx (by decide)]
    exact h2
  exact ⟨_, rfl, rfl, IV_o hG hf h3 h0 (fun hc hq => J_all hq)⟩
set_option maxRecDepth 100000 in
set_option maxHeartbeats 400000 in
theorem st_most {σ : St} (h : IV σ) (b x : Int32) : ∃ E, Cl LAYC yX5_most cX5_most 5 (some .int) 2 42 [.ref 0, .int b, .int x] σ (EI E) ∧ ∀ v τ, E v τ → Cl LAY yX6_most cX6_most 4 (some .int) 2 43 [.ref 33, .int b, .int x] (mgN 33 τ σ) (EI (fun v2 τ2 => v2 = v ∧ IV τ2)) := by
  have hG := h.1
  have hJ := h.2
  have hI := hG.1.1
  have hnb := bd hI 33 7 40 rfl rfl
  have hnw := bd hI 33 19 20 rfl rfl
  generalize hV : vw σ = V at *
  refine ⟨_, c_X5_most σ V hV hG hJ b x, ?_⟩
  rintro v τ ⟨rfl, hf⟩
  have h0 : cMost V b x = 0 → GOOD (mx (wr V 8 b.toNatClampNeg x) (wr V 46 b.toNatClampNeg x)) := fun hc => by
    obtain ⟨q1, q2, q3⟩ := cMost_0 hc
    have := bd hI 45 b.toNatClampNeg 200 rfl rfl
    obtain ⟨n, hn1, hn, rfl⟩ := rg (by omega) (by decide) q2 q3
    exact G_most hG hn
  refine (c_X6_most _ _ (vwM_mg hV) (WF_o hG hf h0).1  b x).mono ?_
  rintro r τ2 ⟨v2, rfl, rfl, h2⟩
  have h3 : vwM τ2 = stO (cMost V b x) (mx (vwM τ) (wr V 46 b.toNatClampNeg x)) (rfM (mx (vwM τ) V) (cMost V b x)) := by
    rw [← wr_mx (by decide)]
    exact h2
  exact ⟨_, rfl, rfl, IV_o hG hf h3 h0 (fun hc hq => J_mx (J_c (hJ.c hq) ⟨rfl, rfl, rfl, rfl, rfl, rfl, rfl, rfl, rfl, rfl, rfl, rfl, rfl, rfl, rfl, rfl, rfl, rfl⟩ (fun w _ => ⟨rfl, rfl, rfl, rfl, rfl, rfl⟩) (Nat.le_refl _)))⟩
set_option maxRecDepth 100000 in
set_option maxHeartbeats 400000 in
theorem st_cut {σ : St} (h : IV σ) (b x : Int32) : ∃ E, Cl LAYC yX5_cut cX5_cut 5 (some .int) 2 43 [.ref 0, .int b, .int x] σ (EI E) ∧ ∀ v τ, E v τ → Cl LAY yX6_cut cX6_cut 4 (some .int) 2 43 [.ref 33, .int b, .int x] (mgN 33 τ σ) (EI (fun v2 τ2 => v2 = v ∧ IV τ2)) := by
  have hG := h.1
  have hJ := h.2
  have hI := hG.1.1
  have hnb := bd hI 33 7 40 rfl rfl
  have hnw := bd hI 33 19 20 rfl rfl
  generalize hV : vw σ = V at *
  refine ⟨_, c_X5_cut σ V hV hG hJ b x, ?_⟩
  rintro v τ ⟨rfl, hf⟩
  have h0 : cCut V b x = 0 → GOOD (mx (wr V 7 (b.toNatClampNeg * 3 + 2) x) (wr V 45 b.toNatClampNeg x)) := fun hc => by
    obtain ⟨q1, q2, q3⟩ := cCut_0 hc
    have := bd hI 45 b.toNatClampNeg 200 rfl rfl
    have := bd hI 44 b.toNatClampNeg 200 rfl rfl
    obtain ⟨n, hn1, hn, rfl⟩ : ∃ n, nv V 44 b.toNatClampNeg ≤ n ∧ n ≤ nv V 45 b.toNatClampNeg ∧ x = nI n := by
      have hlt : nI (nv V 44 b.toNatClampNeg) < x := Int32.not_le.mp q2
      refine rg ?_ (by omega) (fun h => Int32.lt_irrefl (Int32.lt_trans h hlt)) q3
      have h5 : nI (nv V 44 b.toNatClampNeg) ≤ nI (nv V 45 b.toNatClampNeg) := Int32.le_trans (Int32.le_of_lt hlt) (Int32.not_lt.mp q3)
      exact (nI_leI (by omega) (by omega)).mp h5
    exact G_cut hG (by omega)
  refine (c_X6_cut _ _ (vwM_mg hV) (WF_o hG hf h0).1  b x).mono ?_
  rintro r τ2 ⟨v2, rfl, rfl, h2⟩
  have h3 : vwM τ2 = stO (cCut V b x) (mx (vwM τ) (wr V 45 b.toNatClampNeg x)) (rfM (mx (vwM τ) V) (cCut V b x)) := by
    rw [← wr_mx (by decide)]
    exact h2
  exact ⟨_, rfl, rfl, IV_o hG hf h3 h0 (fun hc hq => J_all hq)⟩
set_option maxRecDepth 100000 in
set_option maxHeartbeats 400000 in
theorem st_build {σ : St} (h : IV σ) (b : Int32) : ∃ E, Cl LAYC yX5_build cX5_build 3 (some .int) 2 43 [.ref 0, .int b] σ (EI E) ∧ ∀ v τ, E v τ → Cl LAY yX6_build cX6_build 3 (some .int) 3 64 [.ref 33, .int b] (mgN 33 τ σ) (EI (fun v2 τ2 => v2 = v ∧ IV τ2)) := by
  have hG := h.1
  have hJ := h.2
  have hI := hG.1.1
  have hnb := bd hI 33 7 40 rfl rfl
  have hnw := bd hI 33 19 20 rfl rfl
  generalize hV : vw σ = V at *
  refine ⟨_, c_X5_build σ V hV hG hJ b, ?_⟩
  rintro v τ ⟨rfl, hf⟩
  have h0 : lack V b = 0 → GOOD (mx (wr V 10 b.toNatClampNeg (nI 1)) (wr V 48 b.toNatClampNeg (nI 1))) := fun hc => by
    obtain ⟨q1, q2, q3, q4⟩ := lack_0 hc
    obtain ⟨i, hi, rfl⟩ := ix_of q1
    rw [nI_clamp (by omega)] at q2 q3 ⊢
    exact G_build hG hi q2 q3
  refine (c_X6_build _ _ (vwM_mg hV) (WF_o hG hf h0).1  b).mono ?_
  rintro r τ2 ⟨v2, rfl, rfl, h2⟩
  have h3 : vwM τ2 = stO (lack V b) (mx (vwM τ) (wr V 48 b.toNatClampNeg (nI 1))) (rfM (mx (vwM τ) V) (lack V b)) := by
    rw [← wr_mx (by decide)]
    exact h2
  exact ⟨_, rfl, rfl, IV_o hG hf h3 h0 (fun hc hq => J_all hq)⟩
set_option maxRecDepth 100000 in
set_option maxHeartbeats 400000 in
theorem st_go {σ : St} (h : IV σ) (b : Int32) : ∃ E, Cl LAYC yX5_go cX5_go 2 (some .int) 2 43 [.ref 0, .int b] σ (EI E) ∧ ∀ v τ, E v τ → Cl LAY yX6_go cX6_go 2 (some .int) 2 43 [.ref 33, .int b] (mgN 33 τ σ) (EI (fun v2 τ2 => v2 = v ∧ IV τ2)) := by
  have hG := h.1
  have hJ := h.2
  have hI := hG.1.1
  have hnb := bd hI 33 7 40 rfl rfl
  have hnw := bd hI 33 19 20 rfl rfl
  generalize hV : vw σ = V at *
  refine ⟨_, c_X5_go σ V hV hG hJ b, ?_⟩
  rintro v τ ⟨rfl, hf⟩
  have h0 : cGo V b = 0 → GOOD (mx (wr (wr V 11 b.toNatClampNeg (nI 1)) 10 b.toNatClampNeg (nI 0)) (wr V 49 b.toNatClampNeg (nI 1))) := fun hc => by
    have q1 := cGo_0 hc
    obtain ⟨i, hi, rfl⟩ := ix_of q1
    rw [nI_clamp (by omega)]
    exact G_go hG hi
  refine (c_X6_go _ _ (vwM_mg hV) (WF_o hG hf h0).1  b).mono ?_
  rintro r τ2 ⟨v2, rfl, rfl, h2⟩
  have h3 : vwM τ2 = stO (cGo V b) (mx (vwM τ) (wr V 49 b.toNatClampNeg (nI 1))) (rfM (mx (vwM τ) V) (cGo V b)) := by
    rw [← wr_mx (by decide)]
    exact h2
  exact ⟨_, rfl, rfl, IV_o hG hf h3 h0 (fun hc hq => J_all hq)⟩
theorem J_win {V τ : St} (h : J V τ) (hn : nv V 33 19 < 20) (s a ua ub za zb : Int32) : J (wr (wr (wr (wr (wr (wr (wr V 50 (nv V 33 19) s) 51 (nv V 33 19) a) 52 (nv V 33 19) ua) 53 (nv V 33 19) ub) 54 (nv V 33 19) za) 55 (nv V 33 19) zb) 33 19 (nI (nv V 33 19 + 1))) τ := by
  refine J_c h ⟨rfl, rfl, rfl, rfl, rfl, rfl, rfl, rfl, rfl, rfl, rfl, rfl, rfl, rfl, rfl, rfl, rfl, rfl⟩ (fun w hw => ?_) ?_
  · have e : ¬ w = nv V 33 19 := by omega
    refine ⟨?_, ?_, ?_, ?_, ?_, ?_⟩
    · show wr V 50 (nv V 33 19) s 50 w = V 50 w
      rw [wr_k, if_neg e]
    · show wr V 51 (nv V 33 19) a 51 w = V 51 w
      rw [wr_k, if_neg e]
    · show wr V 52 (nv V 33 19) ua 52 w = V 52 w
      rw [wr_k, if_neg e]
    · show wr V 53 (nv V 33 19) ub 53 w = V 53 w
      rw [wr_k, if_neg e]
    · show wr V 54 (nv V 33 19) za 54 w = V 54 w
      rw [wr_k, if_neg e]
    · show wr V 55 (nv V 33 19) zb 55 w = V 55 w
      rw [wr_k, if_neg e]
  · show nv V 33 19 ≤ nv (wr V 33 19 (nI (nv V 33 19 + 1))) 33 19
    rw [nv_wr (by omega), if_pos rfl]
    omega
set_option maxRecDepth 100000 in
set_option maxHeartbeats 400000 in
theorem st_window {σ : St} (h : IV σ) (s a ua ub za zb : Int32) : ∃ E, Cl LAYC yX5_window cX5_window 7 (some .int) 1 27 [.ref 0, .int s, .int a, .int ua, .int ub, .int za, .int zb] σ (EI E) ∧ ∀ v τ, E v τ → Cl LAY yX6_window cX6_window 7 (some .int) 1 22 [.ref 33, .int s, .int a, .int ua, .int ub, .int za, .int zb] (mgN 33 τ σ) (EI (fun v2 τ2 => v2 = v ∧ IV τ2)) := by
  have hG := h.1
  have hJ := h.2
  have hI := hG.1.1
  have hnb := bd hI 33 7 40 rfl rfl
  have hnw := bd hI 33 19 20 rfl rfl
  generalize hV : vw σ = V at *
  refine ⟨_, c_X5_window σ V hV hG hJ s a ua ub za zb, ?_⟩
  rintro v τ ⟨rfl, hf⟩
  have h0 : cWindow V s a ua ub za zb = 0 → GOOD (mx (winC V s a ua ub za zb) (wr (wr (wr (wr (wr (wr (wr V 50 (nv V 33 19) s) 51 (nv V 33 19) a) 52 (nv V 33 19) ua) 53 (nv V 33 19) ub) 54 (nv V 33 19) za) 55 (nv V 33 19) zb) 33 19 (nI (nv V 33 19 + 1)))) := fun hc => by
    obtain ⟨q1, q2, q3, q4, q5, q6, q7, q8, q9, q10, q11⟩ := cWindow_0 hc
    obtain ⟨n, hn, rfl⟩ := in3 q1
    obtain ⟨a1, ha1, rfl⟩ := rg0 (by decide) q2 q7
    obtain ⟨a2, b2, hab2, hb2, rfl, rfl⟩ := up0 (by decide) q3 q5 q8
    obtain ⟨a3, b3, hab3, hb3, rfl, rfl⟩ := up0 (by decide) q4 q6 q9
    rw [pk_sub (by omega), pk_sub (by omega), pk_mul] at q10
    have hm : (b2 - a2) * (b3 - a3) ≤ 200 * 200 := Nat.mul_le_mul (by omega) (by omega)
    have hle : (b2 - a2) * (b3 - a3) ≤ 64 := (nI_leI (by omega) (by decide)).mp (Int32.not_lt.mp q10)
    exact G_window hG hn (by omega) ha1 hab2 hb2 hab3 hb3 hle
  refine (c_X6_window _ _ (vwM_mg hV) (WF_o hG hf h0).1  s a ua ub za zb).mono ?_
  rintro r τ2 ⟨v2, rfl, rfl, h2⟩
  have h3 : vwM τ2 = stO (cWindow V s a ua ub za zb) (mx (vwM τ) (wr (wr (wr (wr (wr (wr (wr V 50 (nv V 33 19) s) 51 (nv V 33 19) a) 52 (nv V 33 19) ua) 53 (nv V 33 19) ub) 54 (nv V 33 19) za) 55 (nv V 33 19) zb) 33 19 (nI (nv V 33 19 + 1)))) (rfM (mx (vwM τ) V) (cWindow V s a ua ub za zb)) := by
    rw [← wr_mx (by decide), ← wr_mx (by decide), ← wr_mx (by decide), ← wr_mx (by decide), ← wr_mx (by decide), ← wr_mx (by decide), ← wr_mx (by decide)]
    exact h2
  exact ⟨_, rfl, rfl, IV_o hG hf h3 h0 (fun hc hq => J_mx (J_win (hJ.c hq) (by have := (cWindow_0 hc).2.2.2.2.2.2.2.2.2.2; omega) s a ua ub za zb))⟩
set_option maxRecDepth 100000 in
set_option maxHeartbeats 400000 in
theorem st_part {σ : St} (h : IV σ) (e : Int32) : ∃ E, Cl LAYC yX5_part cX5_part 3 (some .int) 2 43 [.ref 0, .int e] σ (EI E) ∧ ∀ v τ, E v τ → Cl LAY yX6_part cX6_part 3 (some .int) 1 21 [.ref 33, .int e] (mgN 33 τ σ) (EI (fun v2 τ2 => v2 = v ∧ IV τ2)) := by
  have hG := h.1
  have hJ := h.2
  have hI := hG.1.1
  have hnb := bd hI 33 7 40 rfl rfl
  have hnw := bd hI 33 19 20 rfl rfl
  generalize hV : vw σ = V at *
  refine ⟨_, c_X5_part σ V hV hG hJ e, ?_⟩
  rintro v τ ⟨rfl, hf⟩
  have h0 : cPart e = 0 → GOOD (mx (wr V 0 8 e) (wr V 33 5 e)) := fun hc => by
    obtain ⟨q1, q2⟩ := cPart_0 hc
    obtain ⟨n, hn1, hn, rfl⟩ := rg (by decide) (by decide) q1 q2
    exact G_part hG hn
  refine (c_X6_part _ _ (vwM_mg hV) (WF_o hG hf h0).1  e).mono ?_
  rintro r τ2 ⟨v2, rfl, rfl, h2⟩
  have h3 : vwM τ2 = stO (cPart e) (mx (vwM τ) (wr V 33 5 e)) (rfM (mx (vwM τ) V) (cPart e)) := by
    rw [← wr_mx (by decide)]
    exact h2
  exact ⟨_, rfl, rfl, IV_o hG hf h3 h0 (fun hc hq => J_all hq)⟩
set_option maxRecDepth 100000 in
set_option maxHeartbeats 400000 in
theorem st_law {σ : St} (h : IV σ) (d e : Int32) : ∃ E, Cl LAYC yX5_law cX5_law 4 (some .int) 1 21 [.ref 0, .int d, .int e] σ (EI E) ∧ ∀ v τ, E v τ → Cl LAY yX6_law cX6_law 4 (some .int) 2 42 [.ref 33, .int d, .int e] (mgN 33 τ σ) (EI (fun v2 τ2 => v2 = v ∧ IV τ2)) := by
  have hG := h.1
  have hJ := h.2
  have hI := hG.1.1
  have hnb := bd hI 33 7 40 rfl rfl
  have hnw := bd hI 33 19 20 rfl rfl
  generalize hV : vw σ = V at *
  refine ⟨_, c_X5_law σ V hV hG hJ d e, ?_⟩
  rintro v τ ⟨rfl, hf⟩
  have h0 : cLaw d e = 0 → GOOD (mx (wr V 30 d.toNatClampNeg e) (wr V 38 d.toNatClampNeg e)) := fun hc => by
    obtain ⟨q1, q2, q3⟩ := cLaw_0 hc
    obtain ⟨n, hn, rfl⟩ := rg0 (by decide) q2 q3
    exact G_law hG hn
  refine (c_X6_law _ _ (vwM_mg hV) (WF_o hG hf h0).1  d e).mono ?_
  rintro r τ2 ⟨v2, rfl, rfl, h2⟩
  have h3 : vwM τ2 = stO (cLaw d e) (mx (vwM τ) (wr V 38 d.toNatClampNeg e)) (rfM (mx (vwM τ) V) (cLaw d e)) := by
    rw [← wr_mx (by decide)]
    exact h2
  exact ⟨_, rfl, rfl, IV_o hG hf h3 h0 (fun hc hq => J_mx (J_c (hJ.c hq) ⟨rfl, rfl, rfl, rfl, rfl, rfl, rfl, rfl, rfl, rfl, rfl, rfl, rfl, rfl, rfl, rfl, rfl, rfl⟩ (fun w _ => ⟨rfl, rfl, rfl, rfl, rfl, rfl⟩) (Nat.le_refl _)))⟩
set_option maxRecDepth 100000 in
set_option maxHeartbeats 400000 in
theorem st_high {σ : St} (h : IV σ) (b : Int32) : ∃ E, Cl LAYC yX5_high cX5_high 5 (some .int) 6 168 [.ref 0, .int b] σ (EI E) ∧ ∀ v τ, E v τ → Cl LAY yX6_high cX6_high 6 (some .int) 7 171 [.ref 33, .int b] (mgN 33 τ σ) (EI (fun v2 τ2 => v2 = v ∧ IV τ2)) := by
  have hG := h.1
  have hJ := h.2
  have hI := hG.1.1
  have hnb := bd hI 33 7 40 rfl rfl
  have hnw := bd hI 33 19 20 rfl rfl
  generalize hV : vw σ = V at *
  refine ⟨_, c_X5_high σ V hV hG hJ b, ?_⟩
  rintro v τ ⟨rfl, hf⟩
  have h0 : lack V b = 0 → GOOD (mx V (askV V)) := fun _ => G_ask hG
  refine (c_X6_high _ _ (vwM_mg hV) (WF_o hG hf h0) hG.2.th.1 hG.2.th.2 b).mono ?_
  rintro r τ2 ⟨v2, rfl, rfl, h2⟩
  rw [askV_m] at h2
  exact ⟨_, rfl, (by rw [askV_m, hiR_m]; first | done | rfl), IV_o hG hf h2 h0 (fun _ hq => J_ask hq)⟩
set_option maxRecDepth 100000 in
set_option maxHeartbeats 400000 in
theorem st_years {σ : St} (h : IV σ) (n : Int32) : ∃ E, Cl LAYC yX5_years cX5_years 3 (some .int) 6 160 [.ref 0, .int n] σ (EI E) ∧ ∀ v τ, E v τ → Cl LAY yX6_years cX6_years 4 (some .int) 6 146 [.ref 33, .int n] (mgN 33 τ σ) (EI (fun v2 τ2 => v2 = v ∧ IV τ2)) := by
  have hG := h.1
  have hJ := h.2
  have hI := hG.1.1
  have hnb := bd hI 33 7 40 rfl rfl
  have hnw := bd hI 33 19 20 rfl rfl
  generalize hV : vw σ = V at *
  refine ⟨_, c_X5_years σ V hV hG hJ n, ?_⟩
  rintro v τ ⟨rfl, hf⟩
  have e : mx (yearsB V n.toNatClampNeg) (yearsR V n.toNatClampNeg) = yearsB V n.toNatClampNeg := mx_eq (fun _ _ => rfl) (fun k hk => (yearsB_a V _ k hk).symm)
  have h0 : cYears V n = 0 → GOOD (mx (yearsB V n.toNatClampNeg) (yearsR V n.toNatClampNeg)) := fun hc => by
    rw [e]
    obtain ⟨j, hj, rfl⟩ := cYears_0 hI hc
    rw [nI_clamp (by omega)]
    exact (yearsB_all hG j hj).1
  refine (c_X6_years _ _ (vwM_mg hV) (WF_o hG hf h0) n).mono ?_
  rintro r τ2 ⟨v2, rfl, rfl, h2⟩
  rw [yearsR_m] at h2
  exact ⟨_, rfl, rfl, IV_o hG hf h2 h0 (fun _ hq => by rw [e]; exact hq)⟩
set_option maxRecDepth 100000 in
set_option maxHeartbeats 400000 in
theorem st_release {σ : St} (h : IV σ) (x : Int32) : ∃ E, Cl LAYC yX5_release cX5_release 2 (some .boolean) 1 21 [.ref 0, .int x] σ (EI E) ∧ ∀ v τ, E v τ → Cl LAY yX6_release cX6_release 2 (some .boolean) 2 43 [.ref 33, .int x] (mgN 33 τ σ) (EI (fun v2 τ2 => v2 = v ∧ IV τ2)) := by
  have hG := h.1
  have hJ := h.2
  have hI := hG.1.1
  have hnb := bd hI 33 7 40 rfl rfl
  have hnw := bd hI 33 19 20 rfl rfl
  generalize hV : vw σ = V at *
  refine ⟨_, c_X5_release σ V hV hG hJ x, ?_⟩
  rintro v τ ⟨rfl, hv, h32⟩
  have h0 : GOOD (mx (relV V x 21) (relV V x 57)) := by
    unfold relV
    split
    · rw [mx_self]
      exact hG
    · exact G_rel hG _
  refine (c_X6_release _ _ (vwM_mg hV) (WF_mx2 hG.1 h0.1.1 hv).1 x).mono ?_
  rintro r τ2 ⟨v2, rfl, rfl, h2⟩
  rw [relV_m] at h2
  refine ⟨_, rfl, rfl, IV_of hv h2 h0 (J_mx ?_)⟩
  refine J_c (hJ.c h32) ?_ (fun w _ => ?_) ?_
  · unfold relV
    split <;> exact ⟨rfl, rfl, rfl, rfl, rfl, rfl, rfl, rfl, rfl, rfl, rfl, rfl, rfl, rfl, rfl, rfl, rfl, rfl⟩
  · unfold relV
    split <;> exact ⟨rfl, rfl, rfl, rfl, rfl, rfl⟩
  · unfold relV
    split <;> exact Nat.le_refl _
end
