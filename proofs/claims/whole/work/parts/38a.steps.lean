section
/-! ===== each call, of the class and then of the reference ===== -/
theorem WF_mx2 {τ V Vc R : St} (hF : WF V) (hI : InvN (mx Vc R)) (h : vw τ = Vc) : WF (mx (vwM τ) V) := by
  refine ⟨fun k i hn => ?_, hF.2.1, hF.2.2⟩
  by_cases hk : 33 ≤ k
  · have := hF.1 k i hn
    unfold nv at this ⊢
    rw [mx_hi _ _ hk]
    exact this
  · have e : mx (vwM τ) V k i = mx Vc R k i := by
      rw [mx_lo _ _ (by omega), mx_lo _ _ (by omega)]
      unfold vwM
      rw [scrM_ne (by omega), ← h]
      unfold vw
      rw [nneg_scr hn]
    have := hI k i hn
    unfold nv at this ⊢
    rw [e]
    exact this
theorem mx_rf (V : St) (c : Int32) : mx (rfB V c) (rfM V c) = rfB V c := by
  refine mx_eq (fun k _ => rfl) (fun k hk => ?_)
  have e : rfC V c k = V k := wr_row _ _ _ _ _ (by omega)
  funext i
  show wr V 58 (-c).toNatClampNeg (V 58 (-c).toNatClampNeg + 1) k i = wr (rfC V c) 58 (-c).toNatClampNeg (V 58 (-c).toNatClampNeg + 1) k i
  rw [wr_at, wr_at, e]
theorem GOOD_q {V : St} (hG : GOOD V) (c : Int32) : GOOD (stO c V (rfB V c)) := by
  unfold stO
  split
  · exact hG
  · exact G_rfB hG c
theorem IV_q {V τ τ2 : St} {c : Int32} (hG : GOOD V) (hf : fin (stO c V (rfB V c)) τ) (h2 : vwM τ2 = stO c (mx (vwM τ) V) (rfM (mx (vwM τ) V) c)) : IV τ2 := by
  rw [rfM_m, stO_m] at h2
  have e : mx (stO c V (rfB V c)) (stO c V (rfM V c)) = stO c V (rfB V c) := by
    unfold stO
    split
    · exact mx_self V
    · exact mx_rf V c
  exact IV_of hf.1 h2 (by rw [e]; exact GOOD_q hG c) (by rw [e]; exact hf.2)
theorem WF_q {V τ : St} {c : Int32} (hG : GOOD V) (hf : fin (stO c V (rfB V c)) τ) : WF (mx (vwM τ) V) := WF_mx hG.1 (GOOD_q hG c).1.1 hf.1
theorem IV_o {V τ τ2 Vc R : St} {c : Int32} {Q : Prop} (hG : GOOD V) (hf : finO c (vw τ = Vc ∧ Q) V τ) (h2 : vwM τ2 = stO c (mx (vwM τ) R) (rfM (mx (vwM τ) V) c)) (h0 : c = 0 → GOOD (mx Vc R)) (hJ : c = 0 → Q → J (mx Vc R) τ) : IV τ2 := by
  rw [rfM_m, stO_m] at h2
  by_cases hc : c = 0
  · rw [finO, if_pos hc] at hf
    rw [stO, if_pos hc] at h2
    exact IV_of hf.1 h2 (h0 hc) (hJ hc hf.2)
  · rw [finO, if_neg hc] at hf
    rw [stO, if_neg hc] at h2
    exact IV_of hf.1 h2 (by rw [mx_rf]; exact G_rfB hG c) (by rw [mx_rf]; exact hf.2)
theorem WF_o {V τ Vc R : St} {c : Int32} {Q : Prop} (hG : GOOD V) (hf : finO c (vw τ = Vc ∧ Q) V τ) (h0 : c = 0 → GOOD (mx Vc R)) : WF (mx (vwM τ) V) := by
  by_cases hc : c = 0
  · rw [finO, if_pos hc] at hf
    exact WF_mx2 hG.1 (h0 hc).1.1 hf.1
  · rw [finO, if_neg hc] at hf
    exact WF_mx hG.1 (G_rfB hG c).1.1 hf.1
theorem mx_ask (V : St) : mx V (askV V) = askV V := mx_eq (fun k hk => (askW_row V _ k (by omega)).symm) (fun _ _ => rfl)
theorem J_ask {V τ : St} (h : J V τ) : J (mx V (askV V)) τ := J_mx (J_c h (askW_GEo V _) (fun w _ => askW_GEw V _ w) (Nat.le_refl _))
theorem cMinute_0 {V : St} {d x y z : Int32} (h : cMinute V d x y z = 0) : ¬ ix d 8 = 0 ∧ ¬ x < -50 ∧ ¬ y < -50 ∧ ¬ z < nI 1 ∧ ¬ nI 50 < x ∧ ¬ nI 50 < y ∧ ¬ nI 50 < z ∧ ¬ nv V 34 d.toNatClampNeg = 24 := by
  unfold cMinute at h
  (repeat' split at h) <;> first | exact absurd h (by decide) | (refine ⟨?_, ?_, ?_, ?_, ?_, ?_, ?_, ?_⟩ <;> assumption)
theorem cBlock_0 {V : St} {k x0 x1 y0 y1 f t : Int32} (h : cBlock V k x0 x1 y0 y1 f t = 0) : ¬ inN k (nI 0) (nI 3) = 0 ∧ ¬ x0 < 0 ∧ ¬ y0 < 0 ∧ ¬ f < 0 ∧ ¬ x1 ≤ x0 ∧ ¬ y1 ≤ y0 ∧ ¬ t ≤ f ∧ ¬ nI 200 < x1 ∧ ¬ nI 200 < y1 ∧ ¬ nI 200 < t ∧ ¬ nv V 33 7 = 40 := by
  unfold cBlock at h
  (repeat' split at h) <;> first | exact absurd h (by decide) | (refine ⟨?_, ?_, ?_, ?_, ?_, ?_, ?_, ?_, ?_, ?_, ?_⟩ <;> assumption)
theorem cWindow_0 {V : St} {s a ua ub za zb : Int32} (h : cWindow V s a ua ub za zb = 0) : ¬ inN s (nI 0) (nI 3) = 0 ∧ ¬ a < 0 ∧ ¬ ua < 0 ∧ ¬ za < 0 ∧ ¬ ub ≤ ua ∧ ¬ zb ≤ za ∧ ¬ nI 200 < a ∧ ¬ nI 200 < ub ∧ ¬ nI 200 < zb ∧ ¬ nI 64 < (ub - ua) * (zb - za) ∧ ¬ nv V 33 19 = 20 := by
  unfold cWindow at h
  (repeat' split at h) <;> first | exact absurd h (by decide) | (refine ⟨?_, ?_, ?_, ?_, ?_, ?_, ?_, ?_, ?_, ?_, ?_⟩ <;> assumption)
theorem cShare_0 {V : St} {b d e : Int32} (h : cShare V b d e = 0) : ¬ ix b (nv V 33 7) = 0 ∧ ¬ ix d 8 = 0 ∧ nv V 39 b.toNatClampNeg = 1 ∧ ¬ e < 0 ∧ ¬ nI 8 < e := by
  unfold cShare at h
  (repeat' split at h) <;> first | exact absurd h (by decide) | (refine ⟨?_, ?_, ?_, ?_, ?_⟩ <;> assumption)
theorem cMost_0 {V : St} {b e : Int32} (h : cMost V b e = 0) : ¬ ix b (nv V 33 7) = 0 ∧ ¬ e < nI (nv V 45 b.toNatClampNeg) ∧ ¬ nI 200 < e := by
  unfold cMost at h
  (repeat' split at h) <;> first | exact absurd h (by decide) | (refine ⟨?_, ?_, ?_⟩ <;> assumption)
theorem cCut_0 {V : St} {b e : Int32} (h : cCut V b e = 0) : ¬ ix b (nv V 33 7) = 0 ∧ ¬ e ≤ nI (nv V 44 b.toNatClampNeg) ∧ ¬ nI (nv V 45 b.toNatClampNeg) < e := by
  unfold cCut at h
  (repeat' split at h) <;> first | exact absurd h (by decide) | (refine ⟨?_, ?_, ?_⟩ <;> assumption)
theorem cGo_0 {V : St} {b : Int32} (h : cGo V b = 0) : ¬ ix b (nv V 33 7) = 0 := by
  unfold cGo at h
  (repeat' split at h) <;> first | exact absurd h (by decide) | assumption
theorem cPart_0 {e : Int32} (h : cPart e = 0) : ¬ e < nI 1 ∧ ¬ nI 8 < e := by
  unfold cPart at h
  (repeat' split at h) <;> first | exact absurd h (by decide) | (refine ⟨?_, ?_⟩ <;> assumption)
theorem cLaw_0 {d e : Int32} (h : cLaw d e = 0) : ¬ ix d 8 = 0 ∧ ¬ e < 0 ∧ ¬ nI 24 < e := by
  unfold cLaw at h
  (repeat' split at h) <;> first | exact absurd h (by decide) | (refine ⟨?_, ?_, ?_⟩ <;> assumption)
theorem cYears_0 {V : St} (hI : InvN V) {n : Int32} (h : cYears V n = 0) : ∃ j, nv V 33 6 + j ≤ 60 ∧ n = nI j := by
  unfold cYears at h
  (repeat' split at h) <;> first | exact absurd h (by decide) | (refine years_n (bd hI 33 6 60 rfl rfl) (Int32.not_lt.mp ?_) (Int32.not_lt.mp ?_) <;> assumption)
theorem in3 {k : Int32} (h : ¬ inN k (nI 0) (nI 3) = 0) : ∃ n, n ≤ 3 ∧ k = nI n := by
  unfold inN at h
  by_cases h1 : k < nI 0
  · rw [if_pos h1] at h
    exact absurd rfl h
  · rw [if_neg h1] at h
    by_cases h2 : nI 3 < k
    · rw [if_pos h2] at h
      exact absurd rfl h
    · obtain ⟨n, -, h3, e⟩ := rg (Nat.zero_le _) (by decide) h1 h2
      exact ⟨n, h3, e⟩
theorem up0 {x y : Int32} {hi : Nat} (hh : hi < 2 ^ 31) (h0 : ¬ x < 0) (h1 : ¬ y ≤ x) (h2 : ¬ nI hi < y) : ∃ a b, a < b ∧ b ≤ hi ∧ x = nI a ∧ y = nI b := by
  have hlt : x < y := Int32.not_le.mp h1
  obtain ⟨a, ha, rfl⟩ := rg0 (x := x) hh h0 (fun h => h2 (Int32.lt_trans h hlt))
  obtain ⟨b, hb, rfl⟩ := rg0 (x := y) hh (fun h => h0 (Int32.lt_trans hlt h)) h2
  exact ⟨a, b, (nI_ltI (by omega) (by omega)).mp hlt, hb, rfl, rfl⟩
end
