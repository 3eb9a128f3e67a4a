section
set_option maxRecDepth 100000 in
set_option maxHeartbeats 400000 in
theorem st_sun {σ : St} (h : IV σ) (w d m : Int32) : ∃ E, Cl LAYC yX5_sun cX5_sun 4 (some .int) 3 90 [.ref 0, .int w, .int d, .int m] σ (EI E) ∧ ∀ v τ, E v τ → Cl LAY yX6_sun cX6_sun 4 (some .int) 4 100 [.ref 33, .int w, .int d, .int m] (mgN 33 τ σ) (EI (fun v2 τ2 => v2 = v ∧ IV τ2)) := by
  have hG := h.1
  have hJ := h.2
  have hI := hG.1.1
  have hnb := bd hI 33 7 40 rfl rfl
  have hnw := bd hI 33 19 20 rfl rfl
  generalize hV : vw σ = V at *
  refine ⟨_, c_X5_sun σ V hV hG hJ w d m, ?_⟩
  rintro v τ ⟨rfl, hf⟩
  refine (c_X6_sun _ _ (vwM_mg hV) (WF_q hG hf)  w d m).mono ?_
  rintro r τ2 ⟨v2, rfl, rfl, h2⟩
  exact ⟨_, rfl, (by rw [sunN_m]; first | done | rfl), IV_q hG hf h2⟩
set_option maxRecDepth 100000 in
set_option maxHeartbeats 400000 in
theorem st_light {σ : St} (h : IV σ) (w c d m : Int32) : ∃ E, Cl LAYC yX5_light cX5_light 5 (some .int) 2 62 [.ref 0, .int w, .int c, .int d, .int m] σ (EI E) ∧ ∀ v τ, E v τ → Cl LAY yX6_light cX6_light 5 (some .int) 3 75 [.ref 33, .int w, .int c, .int d, .int m] (mgN 33 τ σ) (EI (fun v2 τ2 => v2 = v ∧ IV τ2)) := by
  have hG := h.1
  have hJ := h.2
  have hI := hG.1.1
  have hnb := bd hI 33 7 40 rfl rfl
  have hnw := bd hI 33 19 20 rfl rfl
  generalize hV : vw σ = V at *
  refine ⟨_, c_X5_light σ V hV hG hJ w c d m, ?_⟩
  rintro v τ ⟨rfl, hf⟩
  refine (c_X6_light _ _ (vwM_mg hV) (WF_q hG hf)  w c d m).mono ?_
  rintro r τ2 ⟨v2, rfl, rfl, h2⟩
  exact ⟨_, rfl, (by rw [lightN_m]; first | done | rfl), IV_q hG hf h2⟩
set_option maxRecDepth 100000 in
set_option maxHeartbeats 400000 in
theorem st_taker {σ : St} (h : IV σ) (w c d m : Int32) : ∃ E, Cl LAYC yX5_taker cX5_taker 5 (some .int) 2 62 [.ref 0, .int w, .int c, .int d, .int m] σ (EI E) ∧ ∀ v τ, E v τ → Cl LAY yX6_taker cX6_taker 5 (some .int) 3 77 [.ref 33, .int w, .int c, .int d, .int m] (mgN 33 τ σ) (EI (fun v2 τ2 => v2 = v ∧ IV τ2)) := by
  have hG := h.1
  have hJ := h.2
  have hI := hG.1.1
  have hnb := bd hI 33 7 40 rfl rfl
  have hnw := bd hI 33 19 20 rfl rfl
  generalize hV : vw σ = V at *
  refine ⟨_, c_X5_taker σ V hV hG hJ w c d m, ?_⟩
  rintro v τ ⟨rfl, hf⟩
  refine (c_X6_taker _ _ (vwM_mg hV) (WF_q hG hf)  w c d m).mono ?_
  rintro r τ2 ⟨v2, rfl, rfl, h2⟩
  exact ⟨_, rfl, (by rw [takN_m]; first | done | rfl), IV_q hG hf h2⟩
set_option maxRecDepth 100000 in
set_option maxHeartbeats 400000 in
theorem st_takes {σ : St} (h : IV σ) (w d b : Int32) : ∃ E, Cl LAYC yX5_takes cX5_takes 6 (some .int) 3 88 [.ref 0, .int w, .int d, .int b] σ (EI E) ∧ ∀ v τ, E v τ → Cl LAY yX6_takes cX6_takes 7 (some .int) 3 77 [.ref 33, .int w, .int d, .int b] (mgN 33 τ σ) (EI (fun v2 τ2 => v2 = v ∧ IV τ2)) := by
  have hG := h.1
  have hJ := h.2
  have hI := hG.1.1
  have hnb := bd hI 33 7 40 rfl rfl
  have hnw := bd hI 33 19 20 rfl rfl
  generalize hV : vw σ = V at *
  refine ⟨_, c_X5_takes σ V hV hG hJ w d b, ?_⟩
  rintro v τ ⟨rfl, hf⟩
  refine (c_X6_takes _ _ (vwM_mg hV) (WF_q hG hf)  w d b).mono ?_
  rintro r τ2 ⟨v2, rfl, rfl, h2⟩
  exact ⟨_, rfl, (by rw [tkM_m]; first | done | rfl), IV_q hG hf h2⟩
set_option maxRecDepth 100000 in
set_option maxHeartbeats 400000 in
theorem st_hours {σ : St} (h : IV σ) (w d : Int32) : ∃ E, Cl LAYC yX5_hours cX5_hours 3 (some .int) 4 115 [.ref 0, .int w, .int d] σ (EI E) ∧ ∀ v τ, E v τ → Cl LAY yX6_hours cX6_hours 3 (some .int) 5 124 [.ref 33, .int w, .int d] (mgN 33 τ σ) (EI (fun v2 τ2 => v2 = v ∧ IV τ2)) := by
  have hG := h.1
  have hJ := h.2
  have hI := hG.1.1
  have hnb := bd hI 33 7 40 rfl rfl
  have hnw := bd hI 33 19 20 rfl rfl
  generalize hV : vw σ = V at *
  refine ⟨_, c_X5_hours σ V hV hG hJ w d, ?_⟩
  rintro v τ ⟨rfl, hf⟩
  refine (c_X6_hours _ _ (vwM_mg hV) (WF_q hG hf)  w d).mono ?_
  rintro r τ2 ⟨v2, rfl, rfl, h2⟩
  exact ⟨_, rfl, (by rw [hoursN_m]; first | done | rfl), IV_q hG hf h2⟩
set_option maxRecDepth 100000 in
set_option maxHeartbeats 400000 in
theorem st_loss {σ : St} (h : IV σ) (b w d : Int32) : ∃ E, Cl LAYC yX5_loss cX5_loss 6 (some .int) 4 118 [.ref 0, .int b, .int w, .int d] σ (EI E) ∧ ∀ v τ, E v τ → Cl LAY yX6_loss cX6_loss 7 (some .int) 5 124 [.ref 33, .int b, .int w, .int d] (mgN 33 τ σ) (EI (fun v2 τ2 => v2 = v ∧ IV τ2)) := by
  have hG := h.1
  have hJ := h.2
  have hI := hG.1.1
  have hnb := bd hI 33 7 40 rfl rfl
  have hnw := bd hI 33 19 20 rfl rfl
  generalize hV : vw σ = V at *
  refine ⟨_, c_X5_loss σ V hV hG hJ b w d, ?_⟩
  rintro v τ ⟨rfl, hf⟩
  refine (c_X6_loss _ _ (vwM_mg hV) (WF_q hG hf) hG.2.th.1 hG.2.th.2 b w d).mono ?_
  rintro r τ2 ⟨v2, rfl, rfl, h2⟩
  exact ⟨_, rfl, (by rw [hoursN_m, thk_m, hoursN_m]; first | done | rfl), IV_q hG hf h2⟩
set_option maxRecDepth 100000 in
set_option maxHeartbeats 400000 in
theorem st_blockOf {σ : St} (h : IV σ) (b x : Int32) : ∃ E, Cl LAYC yX5_blockOf cX5_blockOf 3 (some .int) 2 42 [.ref 0, .int b, .int x] σ (EI E) ∧ ∀ v τ, E v τ → Cl LAY yX6_blockOf cX6_blockOf 3 (some .int) 2 43 [.ref 33, .int b, .int x] (mgN 33 τ σ) (EI (fun v2 τ2 => v2 = v ∧ IV τ2)) := by
  have hG := h.1
  have hJ := h.2
  have hI := hG.1.1
  have hnb := bd hI 33 7 40 rfl rfl
  have hnw := bd hI 33 19 20 rfl rfl
  generalize hV : vw σ = V at *
  refine ⟨_, c_X5_blockOf σ V hV hG hJ b x, ?_⟩
  rintro v τ ⟨rfl, hf⟩
  refine (c_X6_blockOf _ _ (vwM_mg hV) (WF_q hG hf).1  b x).mono ?_
  rintro r τ2 ⟨v2, rfl, rfl, h2⟩
  exact ⟨_, rfl, (by rfl), IV_q hG hf h2⟩
set_option maxRecDepth 100000 in
set_option maxHeartbeats 400000 in
theorem st_windowOf {σ : St} (h : IV σ) (w x : Int32) : ∃ E, Cl LAYC yX5_windowOf cX5_windowOf 3 (some .int) 5 138 [.ref 0, .int w, .int x] σ (EI E) ∧ ∀ v τ, E v τ → Cl LAY yX6_windowOf cX6_windowOf 3 (some .int) 6 146 [.ref 33, .int w, .int x] (mgN 33 τ σ) (EI (fun v2 τ2 => v2 = v ∧ IV τ2)) := by
  have hG := h.1
  have hJ := h.2
  have hI := hG.1.1
  have hnb := bd hI 33 7 40 rfl rfl
  have hnw := bd hI 33 19 20 rfl rfl
  generalize hV : vw σ = V at *
  refine ⟨_, c_X5_windowOf σ V hV hG hJ w x, ?_⟩
  rintro v τ ⟨rfl, hf⟩
  refine (c_X6_windowOf _ _ (vwM_mg hV) (WF_q hG hf)  w x).mono ?_
  rintro r τ2 ⟨v2, rfl, rfl, h2⟩
  exact ⟨_, rfl, (by rw [vWO_m]; first | done | rfl), IV_q hG hf h2⟩
set_option maxRecDepth 100000 in
set_option maxHeartbeats 400000 in
theorem st_count {σ : St} (h : IV σ) (x : Int32) : ∃ E, Cl LAYC yX5_count cX5_count 2 (some .int) 6 160 [.ref 0, .int x] σ (EI E) ∧ ∀ v τ, E v τ → Cl LAY yX6_count cX6_count 4 (some .int) 6 146 [.ref 33, .int x] (mgN 33 τ σ) (EI (fun v2 τ2 => v2 = v ∧ IV τ2)) := by
  have hG := h.1
  have hJ := h.2
  have hI := hG.1.1
  have hnb := bd hI 33 7 40 rfl rfl
  have hnw := bd hI 33 19 20 rfl rfl
  generalize hV : vw σ = V at *
  refine ⟨_, c_X5_count σ V hV hG hJ x, ?_⟩
  rintro v τ ⟨rfl, hf⟩
  refine (c_X6_count _ _ (vwM_mg hV) (WF_mx hG.1 hI hf.1) x).mono ?_
  rintro r τ2 ⟨v2, rfl, rfl, h2⟩
  exact ⟨_, rfl, vCn_m _ _ _, IV_of hf.1 h2 (by rw [mx_self]; exact hG) (by rw [mx_self]; exact hf.2)⟩
set_option maxRecDepth 100000 in
set_option maxHeartbeats 400000 in
theorem st_breach {σ : St} (h : IV σ) (b t : Int32) : ∃ E, Cl LAYC yX5_breach cX5_breach 4 (some .int) 6 168 [.ref 0, .int b, .int t] σ (EI E) ∧ ∀ v τ, E v τ → Cl LAY yX6_breach cX6_breach 4 (some .int) 7 171 [.ref 33, .int b, .int t] (mgN 33 τ σ) (EI (fun v2 τ2 => v2 = v ∧ IV τ2)) := by
  have hG := h.1
  have hJ := h.2
  have hI := hG.1.1
  have hnb := bd hI 33 7 40 rfl rfl
  have hnw := bd hI 33 19 20 rfl rfl
  generalize hV : vw σ = V at *
  refine ⟨_, c_X5_breach σ V hV hG hJ b t, ?_⟩
  rintro v τ ⟨rfl, hf⟩
  have hA : GOOD (askV V) := by
    have := G_ask hG
    rw [mx_ask] at this
    exact this
  have hc : GOOD (stO (cBreach V b t) (askV V) (rfB V (cBreach V b t))) := by
    unfold stO
    split
    · exact hA
    · exact G_rfB hG _
  have e : mx (stO (cBreach V b t) (askV V) (rfB V (cBreach V b t))) (stO (cBreach V b t) (askV V) (rfM V (cBreach V b t))) = stO (cBreach V b t) (askV V) (rfB V (cBreach V b t)) := by
    unfold stO
    split
    · exact mx_self _
    · exact mx_rf V _
  refine (c_X6_breach _ _ (vwM_mg hV) (WF_mx hG.1 hc.1.1 hf.1) hG.2.th.1 hG.2.th.2 b t).mono ?_
  rintro r τ2 ⟨v2, rfl, rfl, h2⟩
  rw [askV_m, rfM_m, stO_m] at h2
  exact ⟨_, rfl, (by rw [askV_m, brI_m]; first | done | rfl), IV_of hf.1 h2 (by rw [show cBreach (mx (vwM τ) V) b t = cBreach V b t from rfl, e]; exact hc) (by rw [show cBreach (mx (vwM τ) V) b t = cBreach V b t from rfl, e]; exact hf.2)⟩
end
