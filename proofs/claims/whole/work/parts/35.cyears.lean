section
/-! ===== years, on both sides at once ===== -/
theorem GEo.symm {V V' : St} (h : GEo V V') : GEo V' V := by
  unfold GEo at h ⊢
  obtain ⟨h1, h2, h3, h4, h5, h6, h7, h8, h9, h10, h11, h12, h13, h14, h15, h16, h17, h18⟩ := h
  exact ⟨h1.symm, h2.symm, h3.symm, h4.symm, h5.symm, h6.symm, h7.symm, h8.symm, h9.symm, h10.symm, h11.symm, h12.symm, h13.symm, h14.symm, h15.symm, h16.symm, h17.symm, h18.symm⟩
theorem GEw.symm {V V' : St} {w : Nat} (h : GEw V V' w) : GEw V' V w := ⟨h.1.symm, h.2.1.symm, h.2.2.1.symm, h.2.2.2.1.symm, h.2.2.2.2.1.symm, h.2.2.2.2.2.symm⟩
/-- the class's cells that years change, copied from the reference's -/
def syn (U : St) : St := fun k i => if k = 0 ∧ i = 9 then U 33 6 else if k = 7 ∧ i % 3 = 2 then U 45 (i / 3) else if k = 20 then U 56 i else U k i
theorem syn_at (U : St) (k i : Nat) (h1 : ¬ (k = 0 ∧ i = 9)) (h2 : ¬ (k = 7 ∧ i % 3 = 2)) (h3 : ¬ k = 20) : syn U k i = U k i := by
  unfold syn
  rw [if_neg h1, if_neg h2, if_neg h3]
theorem syn_hi (U : St) (k : Nat) (h : 33 ≤ k) : syn U k = U k := funext fun i => syn_at U k i (by omega) (by omega) (by omega)
theorem syn_hn (U : St) (k i : Nat) (h : 33 ≤ k) : nv (syn U) k i = nv U k i := by unfold nv; rw [syn_hi U k h]
theorem syn_09 (U : St) : syn U 0 9 = U 33 6 := if_pos ⟨rfl, rfl⟩
theorem syn_7 (U : St) (b : Nat) : syn U 7 (b * 3 + 2) = U 45 b := by
  unfold syn
  rw [if_neg (by omega), if_pos ⟨rfl, by omega⟩, show (b * 3 + 2) / 3 = b by omega]
theorem syn_20 (U : St) (i : Nat) : syn U 20 i = U 56 i := by
  unfold syn
  rw [if_neg (by omega), if_neg (by omega), if_pos rfl]
theorem syn_V {V : St} (hR : REL V) : syn V = V := by
  funext k i
  unfold syn
  by_cases h1 : k = 0 ∧ i = 9
  · rw [if_pos h1, h1.1, h1.2, hR.1.2.1]
  · rw [if_neg h1]
    by_cases h2 : k = 7 ∧ i % 3 = 2
    · rw [if_pos h2, h2.1]
      have := (hR.2.2.2.2.1 (i / 3)).2.2.2.2.2
      rw [← this, show i / 3 * 3 + 2 = i by omega]
    · rw [if_neg h2]
      by_cases h3 : k = 20
      · rw [if_pos h3, h3, hR.2.2.2.2.2.2.2.1.2.2.2.2.1]
      · rw [if_neg h3]
theorem syn_GEo (U : St) : GEo U (syn U) := by
  unfold GEo
  refine ⟨?_, ?_, ?_, ?_, ?_, ?_, ?_, ?_, ?_, ?_, ?_, ?_, ?_, ?_, ?_, ?_, ?_, ?_⟩ <;> first | exact syn_hi U _ (by decide) | exact syn_at U _ _ (by decide) (by decide) (by decide)
theorem syn_GEw (U : St) (w : Nat) : GEw U (syn U) w := by
  unfold GEw
  refine ⟨?_, ?_, ?_, ?_, ?_, ?_⟩ <;> exact syn_at U _ _ (by omega) (by omega) (by omega)
theorem syn_fall (U : St) (w : Nat) : fallI (syn U) w = fallI U w := fallI_c (syn_GEo U) (syn_GEw U w) (syn_hi U 38 (by decide))
theorem syn_WF {U : St} (hF : WF U) : WF (syn U) := by
  obtain ⟨hI, hW, hG⟩ := hF
  refine ⟨fun k i hn => ?_, fun w => ?_, fun k => ?_, fun d m hd hm => ?_⟩
  · have key : ∀ k' i', syn U k i = U k' i' → nneg k' i' = true → ub k' i' = ub k i → syn U k i = nI (nv (syn U) k i) ∧ nv (syn U) k i ≤ ub k i := by
      intro k' i' e1 e2 e3
      have := hI k' i' e2
      unfold nv at this ⊢
      rw [e1, ← e3]
      exact this
    by_cases h1 : k = 0 ∧ i = 9
    · obtain ⟨rfl, rfl⟩ := h1
      exact key 33 6 (syn_09 U) rfl rfl
    · by_cases h2 : k = 7 ∧ i % 3 = 2
      · obtain ⟨rfl, h2⟩ := h2
        refine key 45 (i / 3) ?_ rfl rfl
        unfold syn
        rw [if_neg (by omega), if_pos ⟨rfl, h2⟩]
      · by_cases h3 : k = 20
        · subst h3
          cases hn
        · exact key k i (syn_at U k i h1 h2 h3) hn rfl
  · have := hW w
    simp only [cls, syn_hn U 52 w (by decide), syn_hn U 53 w (by decide), syn_hn U 54 w (by decide), syn_hn U 55 w (by decide), syn_hn U 33 19 (by decide)]
    exact this
  · rw [syn_hi U 35 (by decide), syn_hi U 36 (by decide)]
    exact hG.1 k
  · rw [syn_hn U 34 d (by decide)] at hm
    rw [syn_hn U 37 _ (by decide)]
    exact hG.2 d m hd hm
theorem syn_GOOD {V U : St} (hG : GOOD V) (hF : WF U) (hE : ∀ k i, ¬ (k = 33 ∧ i = 6) → ¬ k = 45 → ¬ k = 56 → U k i = V k i) : GOOD (syn U) := by
  refine ⟨syn_WF hF, ?_⟩
  obtain ⟨-, ⟨r1, r2, r3, r4⟩, ⟨r5, r6, r7⟩, r8, ⟨r9, r10, r11⟩, r12, r13, r14, ⟨r15, r16, r17, r18, r19, r20⟩, r21, r22, r23, r24⟩ := hG
  have e : ∀ k i, ¬ (k = 0 ∧ i = 9) → ¬ (k = 7 ∧ i % 3 = 2) → ¬ k = 20 → ¬ (k = 33 ∧ i = 6) → ¬ k = 45 → ¬ k = 56 → syn U k i = V k i := fun k i a1 a2 a3 a4 a5 a6 => (syn_at U k i a1 a2 a3).trans (hE k i a4 a5 a6)
  have er : ∀ k, ¬ k = 0 → ¬ k = 7 → ¬ k = 20 → ¬ k = 33 → ¬ k = 45 → ¬ k = 56 → syn U k = V k := fun k a1 a2 a3 a4 a5 a6 => funext fun i => e k i (fun z => a1 z.1) (fun z => a2 z.1) a3 (fun z => a4 z.1) a5 a6
  have en : ∀ k i, ¬ k = 0 → ¬ k = 7 → ¬ k = 20 → ¬ k = 33 → ¬ k = 45 → ¬ k = 56 → nv (syn U) k i = nv V k i := fun k i a1 a2 a3 a4 a5 a6 => by unfold nv; rw [er k a1 a2 a3 a4 a5 a6]
  have e7 : nv (syn U) 33 7 = nv V 33 7 := by unfold nv; rw [e 33 7 (by decide) (by decide) (by decide) (by decide) (by decide) (by decide)]
  refine ⟨⟨?_, ?_, ?_, ?_⟩, ⟨?_, ?_, ?_⟩, fun i => ?_, ⟨?_, ?_, ?_⟩, fun b => ?_, fun b d hd => ?_, fun b hb => ?_, ⟨?_, ?_, ?_, ?_, ?_, ?_⟩, fun w => ?_, fun b hb => ?_, ?_, ?_⟩
  · rw [e 0 8 (by decide) (by decide) (by decide) (by decide) (by decide) (by decide), e 33 5 (by decide) (by decide) (by decide) (by decide) (by decide) (by decide)]; exact r1
  · rw [syn_09, syn_at U 33 6 (by decide) (by decide) (by decide)]
  · rw [e 4 0 (by decide) (by decide) (by decide) (by decide) (by decide) (by decide), e 33 7 (by decide) (by decide) (by decide) (by decide) (by decide) (by decide)]; exact r3
  · rw [e 12 0 (by decide) (by decide) (by decide) (by decide) (by decide) (by decide), e 33 19 (by decide) (by decide) (by decide) (by decide) (by decide) (by decide)]; exact r4
  · rw [er 2 (by decide) (by decide) (by decide) (by decide) (by decide) (by decide), er 34 (by decide) (by decide) (by decide) (by decide) (by decide) (by decide)]; exact r5
  · rw [er 30 (by decide) (by decide) (by decide) (by decide) (by decide) (by decide), er 38 (by decide) (by decide) (by decide) (by decide) (by decide) (by decide)]; exact r6
  · rw [er 31 (by decide) (by decide) (by decide) (by decide) (by decide) (by decide), er 58 (by decide) (by decide) (by decide) (by decide) (by decide) (by decide)]; exact r7
  · rw [er 3 (by decide) (by decide) (by decide) (by decide) (by decide) (by decide), er 35 (by decide) (by decide) (by decide) (by decide) (by decide) (by decide), er 36 (by decide) (by decide) (by decide) (by decide) (by decide) (by decide), er 37 (by decide) (by decide) (by decide) (by decide) (by decide) (by decide)]; exact r8 i
  · rw [er 5 (by decide) (by decide) (by decide) (by decide) (by decide) (by decide), er 39 (by decide) (by decide) (by decide) (by decide) (by decide) (by decide)]; exact r9
  · rw [er 8 (by decide) (by decide) (by decide) (by decide) (by decide) (by decide), er 46 (by decide) (by decide) (by decide) (by decide) (by decide) (by decide)]; exact r10
  · rw [er 11 (by decide) (by decide) (by decide) (by decide) (by decide) (by decide), er 49 (by decide) (by decide) (by decide) (by decide) (by decide) (by decide)]; exact r11
  · obtain ⟨b1, b2, b3, b4, b5, b6⟩ := r12 b
    rw [er 6 (by decide) (by decide) (by decide) (by decide) (by decide) (by decide), er 40 (by decide) (by decide) (by decide) (by decide) (by decide) (by decide), er 42 (by decide) (by decide) (by decide) (by decide) (by decide) (by decide), er 44 (by decide) (by decide) (by decide) (by decide) (by decide) (by decide), er 41 (by decide) (by decide) (by decide) (by decide) (by decide) (by decide), er 43 (by decide) (by decide) (by decide) (by decide) (by decide) (by decide), syn_7, syn_hi U 45 (by decide), e 7 (b * 3) (by omega) (by omega) (by decide) (by omega) (by decide) (by decide), e 7 (b * 3 + 1) (by omega) (by omega) (by decide) (by omega) (by decide) (by decide)]
    exact ⟨b1, b2, b3, b4, b5, rfl⟩
  · rw [en 9 _ (by decide) (by decide) (by decide) (by decide) (by decide) (by decide), en 39 _ (by decide) (by decide) (by decide) (by decide) (by decide) (by decide), en 47 _ (by decide) (by decide) (by decide) (by decide) (by decide) (by decide)]
    exact r13 b d hd
  · rw [e7] at hb
    rw [en 10 _ (by decide) (by decide) (by decide) (by decide) (by decide) (by decide), en 39 _ (by decide) (by decide) (by decide) (by decide) (by decide) (by decide), en 48 _ (by decide) (by decide) (by decide) (by decide) (by decide) (by decide), en 49 _ (by decide) (by decide) (by decide) (by decide) (by decide) (by decide)]
    exact r14 b hb
  · rw [er 13 (by decide) (by decide) (by decide) (by decide) (by decide) (by decide), er 50 (by decide) (by decide) (by decide) (by decide) (by decide) (by decide)]; exact r15
  · rw [er 15 (by decide) (by decide) (by decide) (by decide) (by decide) (by decide), er 51 (by decide) (by decide) (by decide) (by decide) (by decide) (by decide)]; exact r16
  · rw [er 16 (by decide) (by decide) (by decide) (by decide) (by decide) (by decide), er 52 (by decide) (by decide) (by decide) (by decide) (by decide) (by decide)]; exact r17
  · rw [er 17 (by decide) (by decide) (by decide) (by decide) (by decide) (by decide), er 54 (by decide) (by decide) (by decide) (by decide) (by decide) (by decide)]; exact r18
  · rw [syn_hi U 56 (by decide)]; exact funext fun i => syn_20 U i
  · rw [er 21 (by decide) (by decide) (by decide) (by decide) (by decide) (by decide), er 57 (by decide) (by decide) (by decide) (by decide) (by decide) (by decide)]; exact r20
  · rw [en 14 _ (by decide) (by decide) (by decide) (by decide) (by decide) (by decide), en 50 _ (by decide) (by decide) (by decide) (by decide) (by decide) (by decide), en 18 _ (by decide) (by decide) (by decide) (by decide) (by decide) (by decide), en 53 _ (by decide) (by decide) (by decide) (by decide) (by decide) (by decide), en 52 _ (by decide) (by decide) (by decide) (by decide) (by decide) (by decide), en 19 _ (by decide) (by decide) (by decide) (by decide) (by decide) (by decide), en 55 _ (by decide) (by decide) (by decide) (by decide) (by decide) (by decide), en 54 _ (by decide) (by decide) (by decide) (by decide) (by decide) (by decide)]
    exact r21 w
  · rw [e7] at hb
    rw [en 48 _ (by decide) (by decide) (by decide) (by decide) (by decide) (by decide), en 49 _ (by decide) (by decide) (by decide) (by decide) (by decide) (by decide)]
    refine ⟨(r22 b hb).1, (r22 b hb).2.1, fun d hd => ?_⟩
    rw [en 47 _ (by decide) (by decide) (by decide) (by decide) (by decide) (by decide)]
    exact (r22 b hb).2.2 d hd
  · rw [e 33 29 (by decide) (by decide) (by decide) (by decide) (by decide) (by decide)]; exact r23
  · rw [e 33 30 (by decide) (by decide) (by decide) (by decide) (by decide) (by decide)]; exact r24
theorem syn_w {U : St} {a b c d : Nat} {x : Int32} (h : (a = 0 ∧ b = 9 ∧ c = 33 ∧ d = 6) ∨ (a = 7 ∧ b = d * 3 + 2 ∧ c = 45) ∨ (a = 20 ∧ c = 56 ∧ b = d)) : wr (wr (syn U) a b x) c d x = syn (wr U c d x) := by
  funext k i
  rw [wr_at, wr_at]
  unfold syn
  rw [wr_at, wr_at, wr_at, wr_at]
  by_cases h0 : k = c ∧ i = d
  · rw [if_pos h0, if_neg (by omega), if_neg (by omega), if_neg (by omega), if_pos h0]
  · rw [if_neg h0]
    by_cases h1 : k = a ∧ i = b
    · rw [if_pos h1]
      rcases h with ⟨rfl, rfl, rfl, rfl⟩ | ⟨rfl, rfl, rfl⟩ | ⟨rfl, rfl, rfl⟩
      · rw [if_pos h1, if_pos (by omega)]
      · rw [if_neg (by omega), if_pos (by omega), if_pos (by omega)]
      · rw [if_neg (by omega), if_neg (by omega), if_pos h1.1, if_pos (by omega)]
    · rw [if_neg h1]
      by_cases c1 : k = 0 ∧ i = 9
      · rw [if_pos c1, if_pos c1, if_neg (by omega)]
      · rw [if_neg c1, if_neg c1]
        by_cases c2 : k = 7 ∧ i % 3 = 2
        · rw [if_pos c2, if_pos c2, if_neg (by omega)]
        · rw [if_neg c2, if_neg c2]
          by_cases c3 : k = 20
          · rw [if_pos c3, if_pos c3, if_neg (by omega)]
          · rw [if_neg c3, if_neg c3, if_neg h0]
theorem growR_k {V : St} {n : Nat} (h : ¬ (nv V 39 n = 1 ∧ nv V 45 n < nv V 46 n)) : growR V (n + 1) = growR V n := by
  funext k i
  unfold growR
  by_cases h2 : k = 45 ∧ i < n ∧ nv V 39 i = 1 ∧ nv V 45 i < nv V 46 i
  · rw [if_pos h2, if_pos ⟨h2.1, by omega, h2.2.2.1, h2.2.2.2⟩]
  · rw [if_neg h2, if_neg (fun e => ?_)]
    by_cases hi : i = n
    · subst hi
      exact h e.2.2
    · exact h2 ⟨e.1, by omega, e.2.2⟩
theorem growR_GOOD {V : St} (hG : GOOD V) (n : Nat) : GOOD (syn (growR V n)) := syn_GOOD hG (growR_WF hG.1 n) (fun k i _ h _ => growR_at V n k i h)
theorem rightR_GOOD {V : St} (hG : GOOD V) (n : Nat) : GOOD (syn (rightR V n)) := syn_GOOD hG (rightR_WF hG.1 n) (fun k i _ _ h => rightR_at V n k i h)
theorem yearY_GOOD {V : St} (hG : GOOD V) (h : nv V 33 6 < 60) : GOOD (syn (yearY V)) := syn_GOOD hG (yearY_WF hG.1 h) (fun k i h _ _ => yearY_at V k i h)
set_option maxRecDepth 100000 in
set_option maxHeartbeats 4000000 in
theorem l_X1_growTrees {V : St} (hG : GOOD V) {r : Nat → Int32} : ∀ (n b g : Nat) (σ : St), b + n = nv V 33 7 → vw σ = syn (growR V b) → g ≤ 1 → (g = 0 → growR V b = V ∧ σ 32 = r) → Rn LAYC none RX1 cX1_growTrees 3 1 22 4 [some (.ref 4), some (.int (nI g)), some (.int (nI b))] [] σ (EI (fun v τ => ∃ g, v = nI g ∧ g ≤ 1 ∧ vw τ = syn (growR V (nv V 33 7)) ∧ (g = 0 → growR V (nv V 33 7) = V ∧ τ 32 = r))) := by
  have hnb := bd hG.1.1 33 7 40 rfl rfl
  intro n
  induction n with
  | zero =>
    intro b g σ hb hV hg h0
    have hGb := growR_GOOD hG b
    have hI := hGb.1.1
    obtain ⟨g1, g2, g3⟩ := growR_n V b
    have e4 : nv (syn (growR V b)) 4 0 = nv V 33 7 := by rw [hGb.2.nb, syn_hn _ 33 7 (by decide), growR_nv V b 33 7 (by decide)]
    have e5 : nv (syn (growR V b)) 5 b = nv V 39 b := by rw [hGb.2.kind, syn_hn _ 39 b (by decide), g1]
    have e45 : nv (syn (growR V b)) 45 b = nv V 45 b := by rw [syn_hn _ 45 b (by decide), g2]
    have e8 : nv (syn (growR V b)) 8 b = nv V 46 b := by rw [hGb.2.most, syn_hn _ 46 b (by decide), g3]
    have := bd hG.1.1 39 b 3 rfl rfl
    have := bd hG.1.1 45 b 200 rfl rfl
    have := bd hG.1.1 46 b 200 rfl rfl
    refine r_iload_n (q := 5) dX1_growTrees_4 rfl rfl ?_
    refine r_aload_n (q := 6) dX1_growTrees_5 rfl rfl ?_
    refine gvX1_9 (q := 9) hV hI dX1_growTrees_6 rfl ?_
    refine r_icmp_geN (t := 56) (q := 12) dX1_growTrees_9 (by decide) rfl (by omega) (by omega) (fun c9 => ?_) (fun c9 => absurd (by omega) c9)
    refine r_iload_n (q := 57) dX1_growTrees_56 rfl rfl ?_
    obtain rfl : b = nv V 33 7 := by omega
    exact r_retI dX1_growTrees_57 ⟨g, rfl, hg, hV, h0⟩
  | succ n ih =>
    intro b g σ hb hV hg h0
    have hGb := growR_GOOD hG b
    have hI := hGb.1.1
    obtain ⟨g1, g2, g3⟩ := growR_n V b
    have e4 : nv (syn (growR V b)) 4 0 = nv V 33 7 := by rw [hGb.2.nb, syn_hn _ 33 7 (by decide), growR_nv V b 33 7 (by decide)]
    have e5 : nv (syn (growR V b)) 5 b = nv V 39 b := by rw [hGb.2.kind, syn_hn _ 39 b (by decide), g1]
    have e45 : nv (syn (growR V b)) 45 b = nv V 45 b := by rw [syn_hn _ 45 b (by decide), g2]
    have e8 : nv (syn (growR V b)) 8 b = nv V 46 b := by rw [hGb.2.most, syn_hn _ 46 b (by decide), g3]
    have := bd hG.1.1 39 b 3 rfl rfl
    have := bd hG.1.1 45 b 200 rfl rfl
    have := bd hG.1.1 46 b 200 rfl rfl
    refine r_iload_n (q := 5) dX1_growTrees_4 rfl rfl ?_
    refine r_aload_n (q := 6) dX1_growTrees_5 rfl rfl ?_
    refine gvX1_9 (q := 9) hV hI dX1_growTrees_6 rfl ?_
    refine r_icmp_geN (t := 56) (q := 12) dX1_growTrees_9 (by decide) rfl (by omega) (by omega) (fun c9 => absurd c9 (by omega)) (fun c9 => ?_)
    refine r_aload_n (q := 13) dX1_growTrees_12 rfl rfl ?_
    refine gX1_15 (q := 16) dX1_growTrees_13 rfl ?_
    refine r_iload_n (q := 17) dX1_growTrees_16 rfl rfl ?_
    refine r_ialdV (q := 18) hV hI dX1_growTrees_17 rfl LA5 rfl rfl (by decide) (by omega) ?_
    refine r_iconst (q := 19) (v := nI 1) dX1_growTrees_18 rfl (by decide) ?_
    refine r_icmp_neN (t := 50) (q := 22) dX1_growTrees_19 (by decide) rfl (by omega) (by omega) (fun c19 => ?_) (fun c19 => ?_)
    · refine r_iinc (q := 53) (v := nI (b + 1)) dX1_growTrees_50 rfl rfl (by rw [show Int32.ofInt 1 = nI 1 from rfl]; exact nI_add _ _) ?_
      refine r_goto (q := 4) dX1_growTrees_53 (by decide) ?_
      have hk : growR V (b + 1) = growR V b := growR_k (by omega)
      exact ih (b + 1) g _ (by omega) (by rw [hk]; exact hV) hg (by rw [hk]; exact h0)
    · refine r_aload_n (q := 23) dX1_growTrees_22 rfl rfl ?_
      refine r_iload_n (q := 24) dX1_growTrees_23 rfl rfl ?_
      refine r_cI1 (q := 27) vX1_42 dX1_growTrees_24 rfl LYX1 rfl (Nat.le_of_ble_eq_true rfl) (by decide) (by decide) (c_X1_topOf _ _ hV hGb b (by omega)) ?_
      rintro _ τ0 ⟨rfl, hτ0⟩
      rw [hτ0]
      clear hτ0
      refine r_aload_n (q := 28) dX1_growTrees_27 rfl rfl ?_
      refine gX1_25 (q := 31) dX1_growTrees_28 rfl ?_
      refine r_iload_n (q := 32) dX1_growTrees_31 rfl rfl ?_
      refine r_ialdV (q := 33) hV hI dX1_growTrees_32 rfl LA8 rfl rfl (by decide) (by omega) ?_
      refine r_icmp_geN (t := 50) (q := 36) dX1_growTrees_33 (by decide) rfl (by omega) (by omega) (fun c33 => ?_) (fun c33 => ?_)
      · refine r_iinc (q := 53) (v := nI (b + 1)) dX1_growTrees_50 rfl rfl (by rw [show Int32.ofInt 1 = nI 1 from rfl]; exact nI_add _ _) ?_
        refine r_goto (q := 4) dX1_growTrees_53 (by decide) ?_
        have hk : growR V (b + 1) = growR V b := growR_k (by omega)
        exact ih (b + 1) g _ (by omega) (by rw [hk]; exact hV) hg (by rw [hk]; exact h0)
      · refine r_aload_n (q := 37) dX1_growTrees_36 rfl rfl ?_
        refine r_iload_n (q := 38) dX1_growTrees_37 rfl rfl ?_
        refine r_aload_n (q := 39) dX1_growTrees_38 rfl rfl ?_
        refine r_iload_n (q := 40) dX1_growTrees_39 rfl rfl ?_
        refine r_cI1 (q := 43) vX1_42 dX1_growTrees_40 rfl LYX1 rfl (Nat.le_of_ble_eq_true rfl) (by decide) (by decide) (c_X1_topOf _ _ hV hGb b (by omega)) ?_
        rintro _ τ0 ⟨rfl, hτ0⟩
        rw [hτ0]
        clear hτ0
        refine r_iconst (q := 44) (v := nI 1) dX1_growTrees_43 rfl (by decide) ?_
        refine r_iaddN (q := 45) dX1_growTrees_44 rfl ?_
        refine r_cV2 (q := 48) vX1_46 dX1_growTrees_45 rfl LYX1 rfl (Nat.le_of_ble_eq_true rfl) (by decide) (by decide) (c_X1_setTop _ _ hV b _ (by omega)) ?_
        rintro τ1 hV1
        rw [e45] at hV1
        refine r_ghost (va_up τ1 45 (upd (τ1 45) b (nI (nv V 45 b + 1)))) (up_ghost (by decide)) ?_
        have hVg := vw_w (k := 45) (j := b) (x := nI (nv V 45 b + 1)) hV1 rfl
        rw [syn_w (Or.inr (Or.inl ⟨rfl, rfl, rfl⟩)), growR_s hG.1.1 b (by rw [if_pos (by omega)])] at hVg
        refine r_iconst (q := 49) (v := nI 1) dX1_growTrees_48 rfl (by decide) ?_
        refine r_istore_n (q := 50) dX1_growTrees_49 rfl (Nat.le_of_ble_eq_true rfl) ?_
        refine r_iinc (q := 53) (v := nI (b + 1)) dX1_growTrees_50 rfl rfl (by rw [show Int32.ofInt 1 = nI 1 from rfl]; exact nI_add _ _) ?_
        refine r_goto (q := 4) dX1_growTrees_53 (by decide) ?_
        exact ih (b + 1) 1 _ (by omega) hVg (by omega) (fun h => absurd h (by decide))
set_option maxRecDepth 100000 in
set_option maxHeartbeats 4000000 in
theorem c_X1_growTrees (σ V : St) (hV : vw σ = V) (hG : GOOD V) : Cl LAYC yX1_growTrees cX1_growTrees 3 (some .boolean) 1 22 [.ref 4] σ (EI (fun v τ => ∃ g, v = nI g ∧ g ≤ 1 ∧ vw τ = syn (growR V (nv V 33 7)) ∧ (g = 0 → growR V (nv V 33 7) = V ∧ τ 32 = σ 32))) := by
  refine Cl.of 2 rfl rfl (EI.okZ (by rintro v τ ⟨g, rfl, h, -⟩; rcases (show g = 0 ∨ g = 1 by omega) with rfl | rfl; exact Or.inl rfl; exact Or.inr rfl)) ?_
  show Rn LAYC none RX1 _ _ _ _ 0 [some (.ref 4), none, none] [] _ _
  refine r_iconst (q := 1) (v := nI 0) dX1_growTrees_0 rfl (by decide) ?_
  refine r_istore_n (q := 2) dX1_growTrees_1 rfl (Nat.le_of_ble_eq_true rfl) ?_
  refine r_iconst (q := 3) (v := nI 0) dX1_growTrees_2 rfl (by decide) ?_
  refine r_istore_n (q := 4) dX1_growTrees_3 rfl (Nat.le_of_ble_eq_true rfl) ?_
  refine (l_X1_growTrees hG (nv V 33 7) 0 0 _ (Nat.zero_add _) (by rw [growR_0, syn_V hG.2]; exact hV) (by decide) (fun _ => ⟨growR_0 V, rfl⟩)).mono ?_
  rintro _ τ ⟨_, rfl, g, rfl, h⟩
  exact ⟨_, rfl, g, rfl, h⟩
theorem J_r {G τ : St} {a b : Nat} (h : J (syn (rightR G a)) τ) : J (syn (rightR G b)) τ := by
  have h1 : J (rightR G a) τ := J_c h (syn_GEo _).symm (fun w _ => (syn_GEw _ w).symm) (by rw [syn_hn _ 33 19 (by decide)]; exact Nat.le_refl _)
  have h2 : J G τ := J_c h1 (rightR_GEo G a).symm (fun w _ => (rightR_GEw G a w).symm) (by rw [rightR_nv G a 33 19 (by decide)]; exact Nat.le_refl _)
  have h3 : J (rightR G b) τ := J_c h2 (rightR_GEo G b) (fun w _ => rightR_GEw G b w) (by rw [rightR_nv G b 33 19 (by decide)]; exact Nat.le_refl _)
  exact J_c h3 (syn_GEo _) (fun w _ => syn_GEw _ w) (by rw [syn_hn _ 33 19 (by decide)]; exact Nat.le_refl _)
theorem J_s {G σ τ : St} (h : J G σ) (e : τ 32 = σ 32) : J (syn G) τ := J_c (J.c h e) (syn_GEo _) (fun w _ => syn_GEw _ w) (by rw [syn_hn _ 33 19 (by decide)]; exact Nat.le_refl _)
theorem J_y {V σ τ : St} (h : J V σ) (e : τ 32 = σ 32) : J (syn (yearY V)) τ := by
  have h1 : J (yearY V) τ := by
    refine J_c (J.c h e) ?_ (fun w _ => ?_) (by rw [yearY_nv V 33 19 (by decide)]; exact Nat.le_refl _)
    · unfold GEo
      refine ⟨?_, ?_, ?_, ?_, ?_, ?_, ?_, ?_, ?_, ?_, ?_, ?_, ?_, ?_, ?_, ?_, ?_, ?_⟩ <;> first | exact yearY_at V _ _ (by decide) | exact funext fun i => yearY_at V _ i (by omega)
    · unfold GEw
      refine ⟨?_, ?_, ?_, ?_, ?_, ?_⟩ <;> exact yearY_at V _ _ (by omega)
  exact J_s h1 rfl
def yearB (V : St) : St := syn (rightR (syn (growR (syn (yearY V)) (nv V 33 7))) (nv V 33 19))
set_option maxRecDepth 100000 in
set_option maxHeartbeats 4000000 in
theorem l_X5_passYear {G : St} (hG : GOOD G) : ∀ (n w : Nat) (σ : St) (z2 : Option Value), w + n = nv G 33 19 → vw σ = syn (rightR G w) → J (syn (rightR G w)) σ → Rn LAYC none RX5 cX5_passYear 3 5 138 26 [some (.ref 0), some (.int (nI w)), z2] [] σ (EV (fun τ => vw τ = syn (rightR G (nv G 33 19)) ∧ J (syn (rightR G (nv G 33 19))) τ)) := by
  have hnw := bd hG.1.1 33 19 20 rfl rfl
  intro n
  induction n with
  | zero =>
    intro w σ z2 hb hV hJ
    have hGw := rightR_GOOD hG w
    have hI := hGw.1.1
    have e19 : nv (syn (rightR G w)) 33 19 = nv G 33 19 := by rw [syn_hn _ 33 19 (by decide), rightR_nv G w 33 19 (by decide)]
    have e12 : nv (syn (rightR G w)) 12 0 = nv G 33 19 := by rw [hGw.2.nw, e19]
    refine r_iload_n (q := 27) dX5_passYear_26 rfl rfl ?_
    refine r_aload_n (q := 28) dX5_passYear_27 rfl rfl ?_
    refine gX5_26 (q := 31) dX5_passYear_28 rfl ?_
    refine gvX5_208 (q := 34) hV hI dX5_passYear_31 rfl ?_
    refine r_icmp_geN (t := 87) (q := 37) dX5_passYear_34 (by decide) rfl (by omega) (by omega) (fun c34 => ?_) (fun c34 => absurd (by omega) c34)
    obtain rfl : w = nv G 33 19 := by omega
    exact r_retV dX5_passYear_87 ⟨hV, hJ⟩
  | succ n ih =>
    intro w σ z2 hb hV hJ
    have hGw := rightR_GOOD hG w
    have hI := hGw.1.1
    have e19 : nv (syn (rightR G w)) 33 19 = nv G 33 19 := by rw [syn_hn _ 33 19 (by decide), rightR_nv G w 33 19 (by decide)]
    have e12 : nv (syn (rightR G w)) 12 0 = nv G 33 19 := by rw [hGw.2.nw, e19]
    refine r_iload_n (q := 27) dX5_passYear_26 rfl rfl ?_
    refine r_aload_n (q := 28) dX5_passYear_27 rfl rfl ?_
    refine gX5_26 (q := 31) dX5_passYear_28 rfl ?_
    refine gvX5_208 (q := 34) hV hI dX5_passYear_31 rfl ?_
    refine r_icmp_geN (t := 87) (q := 37) dX5_passYear_34 (by decide) rfl (by omega) (by omega) (fun c34 => absurd c34 (by omega)) (fun c34 => ?_)
    refine r_aload_n (q := 38) dX5_passYear_37 rfl rfl ?_
    refine r_iload_n (q := 39) dX5_passYear_38 rfl rfl ?_
    refine r_cI1 (q := 42) vX5_199 dX5_passYear_39 rfl LYX5 rfl (Nat.le_of_ble_eq_true rfl) (by decide) (by decide) (c_X5_firstFall _ _ hV hGw hJ w (by omega) (by omega)) ?_
    rintro _ τ1 ⟨rfl, hV1, hJ1⟩
    rw [syn_fall, rightR_fall]
    refine r_bipush (q := 44) (v := -9) dX5_passYear_42 rfl (by decide) ?_
    refine r_icmp_ne (t := 51) (q := 47) dX5_passYear_44 (by decide) rfl (fun c44 => ?_) (fun c44 => ?_)
    · refine r_iconst (q := 52) (v := nI 0) dX5_passYear_51 rfl (by decide) ?_
      refine r_istore_n (q := 53) dX5_passYear_52 rfl (Nat.le_of_ble_eq_true rfl) ?_
      refine r_aload_n (q := 54) dX5_passYear_53 rfl rfl ?_
      refine gX5_26 (q := 57) dX5_passYear_54 rfl ?_
      refine gX5_196 (q := 60) dX5_passYear_57 rfl ?_
      refine r_iload_n (q := 61) dX5_passYear_60 rfl rfl ?_
      refine r_iload_n (q := 62) dX5_passYear_61 rfl rfl ?_
      refine r_if_eqN (t := 79) (q := 65) dX5_passYear_62 (by decide) rfl (by decide) (fun c62 => ?_) (fun c62 => absurd rfl c62)
      refine r_iconst (q := 80) (v := nI 0) dX5_passYear_79 rfl (by decide) ?_
      refine r_iast (q := 81) dX5_passYear_80 rfl LA20 (by omega) (by decide) (r_nameQ hV1 rfl rfl (by decide) (fun s80 hV80 q80 => ?_))
      refine r_iinc (q := 84) (v := nI (w + 1)) dX5_passYear_81 rfl rfl (by rw [show Int32.ofInt 1 = nI 1 from rfl]; exact nI_add _ _) ?_
      refine r_goto (q := 26) dX5_passYear_84 (by decide) ?_
      refine r_ghost (va_up s80 56 (upd (s80 56) w (nI 0))) (up_ghost (by decide)) ?_
      have hVg := vw_w (k := 56) (j := w) (x := nI 0) hV80 rfl
      rw [syn_w (Or.inr (Or.inr ⟨rfl, rfl, rfl⟩)), rightR_s G w (by rw [if_neg c44])] at hVg
      exact ih (w + 1) _ _ (by omega) hVg (J_r (J.c hJ1 ((show va_up s80 56 _ 32 = s80 32 from if_neg (by decide)).trans q80)))
    · refine r_iconst (q := 48) (v := nI 1) dX5_passYear_47 rfl (by decide) ?_
      refine r_goto (q := 52) dX5_passYear_48 (by decide) ?_
      refine r_istore_n (q := 53) dX5_passYear_52 rfl (Nat.le_of_ble_eq_true rfl) ?_
      refine r_aload_n (q := 54) dX5_passYear_53 rfl rfl ?_
      refine gX5_26 (q := 57) dX5_passYear_54 rfl ?_
      refine gX5_196 (q := 60) dX5_passYear_57 rfl ?_
      refine r_iload_n (q := 61) dX5_passYear_60 rfl rfl ?_
      refine r_iload_n (q := 62) dX5_passYear_61 rfl rfl ?_
      refine r_if_eqN (t := 79) (q := 65) dX5_passYear_62 (by decide) rfl (by decide) (fun c62 => absurd c62 (by decide)) (fun c62 => ?_)
      refine r_aload_n (q := 66) dX5_passYear_65 rfl rfl ?_
      refine gX5_26 (q := 69) dX5_passYear_66 rfl ?_
      refine gX5_196 (q := 72) dX5_passYear_69 rfl ?_
      refine r_iload_n (q := 73) dX5_passYear_72 rfl rfl ?_
      refine r_ialdW (q := 74) hV1 dX5_passYear_73 rfl LA20 rfl (by decide) (by omega) ?_
      refine r_as (y := G 56 w) (by rw [syn_20, rightR_n]) ?_
      refine r_iconst (q := 75) (v := nI 1) dX5_passYear_74 rfl (by decide) ?_
      refine r_iadd (q := 76) dX5_passYear_75 rfl ?_
      refine r_goto (q := 80) dX5_passYear_76 (by decide) ?_
      refine r_iast (q := 81) dX5_passYear_80 rfl LA20 (by omega) (by decide) (r_nameQ hV1 rfl rfl (by decide) (fun s80 hV80 q80 => ?_))
      refine r_iinc (q := 84) (v := nI (w + 1)) dX5_passYear_81 rfl rfl (by rw [show Int32.ofInt 1 = nI 1 from rfl]; exact nI_add _ _) ?_
      refine r_goto (q := 26) dX5_passYear_84 (by decide) ?_
      refine r_ghost (va_up s80 56 (upd (s80 56) w (G 56 w + nI 1))) (up_ghost (by decide)) ?_
      have hVg := vw_w (k := 56) (j := w) (x := G 56 w + nI 1) hV80 rfl
      rw [syn_w (Or.inr (Or.inr ⟨rfl, rfl, rfl⟩)), rightR_s G w (by rw [if_pos c44])] at hVg
      exact ih (w + 1) _ _ (by omega) hVg (J_r (J.c hJ1 ((show va_up s80 56 _ 32 = s80 32 from if_neg (by decide)).trans q80)))
set_option maxRecDepth 100000 in
set_option maxHeartbeats 4000000 in
theorem c_X5_passYear (σ V : St) (hV : vw σ = V) (hG : GOOD V) (hJ : J V σ) (hy : nv V 33 6 < 60) : Cl LAYC yX5_passYear cX5_passYear 3 (none) 5 138 [.ref 0] σ (EV (fun τ => vw τ = yearB V ∧ J (yearB V) τ)) := by
  have hI := hG.1.1
  have hR := hG.2
  have hnw := bd hI 33 19 20 rfl rfl
  have hnb := bd hI 33 7 40 rfl rfl
  refine Cl.of 2 rfl rfl EV.ok ?_
  show Rn LAYC none RX5 _ _ _ _ 0 [some (.ref 0), none, none] [] _ _
  refine r_aload_n (q := 1) dX5_passYear_0 rfl rfl ?_
  refine r_dup (q := 2) dX5_passYear_1 rfl ?_
  refine gvX5_58 (q := 5) hV hI dX5_passYear_2 rfl ?_
  refine r_iconst (q := 6) (v := nI 1) dX5_passYear_5 rfl (by decide) ?_
  refine r_iaddN (q := 7) dX5_passYear_6 rfl ?_
  refine pX5_58 (q := 10) dX5_passYear_7 rfl (r_nameQ hV rfl rfl (by decide) (fun s7 hV7 q7 => ?_))
  refine r_ghost (va_up s7 33 (upd (s7 33) 6 (nI (nv V 33 6 + 1)))) (up_ghost (by decide)) ?_
  have hVY := vw_w (k := 33) (j := 6) (x := nI (nv V 33 6 + 1)) hV7 rfl
  rw [hR.year, show wr (wr V 0 9 (nI (nv V 33 6 + 1))) 33 6 (nI (nv V 33 6 + 1)) = syn (yearY V) by rw [show yearY V = wr V 33 6 (nI (nv V 33 6 + 1)) from rfl, ← syn_w (Or.inl ⟨rfl, rfl, rfl, rfl⟩), syn_V hR]] at hVY
  have hJY : J (syn (yearY V)) (va_up s7 33 (upd (s7 33) 6 (nI (nv V 33 6 + 1)))) := J_y hJ ((show va_up s7 33 _ 32 = s7 32 from if_neg (by decide)).trans q7)
  have hGY := yearY_GOOD hG hy
  revert hVY hJY
  generalize va_up s7 33 (upd (s7 33) 6 (nI (nv V 33 6 + 1))) = σY
  intro hVY hJY
  refine r_aload_n (q := 11) dX5_passYear_10 rfl rfl ?_
  refine gX5_19 (q := 14) dX5_passYear_11 rfl ?_
  refine r_cI0 (q := 17) vX5_239 dX5_passYear_14 rfl LYX1 rfl (Nat.le_of_ble_eq_true rfl) (by decide) (by decide) (c_X1_growTrees _ _ hVY hGY) ?_
  rintro _ τg ⟨g, rfl, hg, hVg, hg0⟩
  rw [show nv (syn (yearY V)) 33 7 = nv V 33 7 by rw [syn_hn _ 33 7 (by decide), yearY_nv V 33 7 (by decide)]] at hVg hg0
  refine r_if_eqN (t := 24) (q := 20) dX5_passYear_17 (by decide) rfl (by omega) (fun c17 => ?_) (fun c17 => ?_)
  · refine r_iconst (q := 25) (v := nI 0) dX5_passYear_24 rfl (by decide) ?_
    refine r_istore_n (q := 26) dX5_passYear_25 rfl (Nat.le_of_ble_eq_true rfl) ?_
    have hG2 := growR_GOOD hGY (nv V 33 7)
    have e19 : nv (syn (growR (syn (yearY V)) (nv V 33 7))) 33 19 = nv V 33 19 := by rw [syn_hn _ 33 19 (by decide), growR_nv _ _ 33 19 (by decide), syn_hn _ 33 19 (by decide), yearY_nv V 33 19 (by decide)]
    refine (l_X5_passYear hG2 _ 0 _ _ (Nat.zero_add _) (by rw [rightR_0, syn_V hG2.2]; exact hVg) (by rw [rightR_0]; exact J_s (J_s (by rw [(hg0 c17).1]; exact hJY) (hg0 c17).2) rfl)).mono ?_
    rintro _ τ ⟨rfl, h⟩
    rw [e19] at h
    exact ⟨rfl, h⟩
  · refine r_aload_n (q := 21) dX5_passYear_20 rfl rfl ?_
    refine r_cV0 (q := 24) vX5_78 dX5_passYear_21 rfl LYX5 rfl (Nat.le_of_ble_eq_true rfl) (by decide) (by decide) (c_X5_forgetLight _ _ hVg) ?_
    rintro sF ⟨hVF, nF⟩
    refine r_iconst (q := 25) (v := nI 0) dX5_passYear_24 rfl (by decide) ?_
    refine r_istore_n (q := 26) dX5_passYear_25 rfl (Nat.le_of_ble_eq_true rfl) ?_
    have hG2 := growR_GOOD hGY (nv V 33 7)
    have e19 : nv (syn (growR (syn (yearY V)) (nv V 33 7))) 33 19 = nv V 33 19 := by rw [syn_hn _ 33 19 (by decide), growR_nv _ _ 33 19 (by decide), syn_hn _ 33 19 (by decide), yearY_nv V 33 19 (by decide)]
    refine (l_X5_passYear hG2 _ 0 _ _ (Nat.zero_add _) (by rw [rightR_0, syn_V hG2.2]; exact hVF) (by rw [rightR_0]; exact J_s (J_all nF) rfl)).mono ?_
    rintro _ τ ⟨rfl, h⟩
    rw [e19] at h
    exact ⟨rfl, h⟩
def yearsB (V : St) : Nat → St
  | 0 => V
  | n + 1 => yearB (yearsB V n)
theorem yearB_GOOD {V : St} (hG : GOOD V) (h : nv V 33 6 < 60) : GOOD (yearB V) := rightR_GOOD (growR_GOOD (yearY_GOOD hG h) _) _
theorem yearB_6 {V : St} (h : nv V 33 6 < 60) : nv (yearB V) 33 6 = nv V 33 6 + 1 := by
  unfold yearB
  rw [syn_hn _ 33 6 (by decide), rightR_nv _ _ 33 6 (by decide), syn_hn _ 33 6 (by decide), growR_nv _ _ 33 6 (by decide), syn_hn _ 33 6 (by decide), yearY_6 h]
theorem yearsB_all {V : St} (hG : GOOD V) : ∀ n, nv V 33 6 + n ≤ 60 → GOOD (yearsB V n) ∧ nv (yearsB V n) 33 6 = nv V 33 6 + n := by
  intro n
  induction n with
  | zero => intro _; exact ⟨hG, rfl⟩
  | succ n ih =>
    intro h
    obtain ⟨h1, h2⟩ := ih (by omega)
    exact ⟨yearB_GOOD h1 (by omega), by show nv (yearB _) 33 6 = _; rw [yearB_6 (by omega)]; omega⟩
set_option maxRecDepth 100000 in
set_option maxHeartbeats 4000000 in
theorem l_X5_years {V0 : St} (hG : GOOD V0) {nn : Nat} (hnn : nv V0 33 6 + nn ≤ 60) : ∀ (n kk : Nat) (σ : St), vw σ = yearsB V0 kk → J (yearsB V0 kk) σ → kk + n = nn → Rn LAYC none RX5 cX5_years 3 6 160 32 [some (.ref 0), some (.int (nI nn)), some (.int (nI kk))] [] σ (EI (fun v τ => v = nI (nv V0 33 6 + nn) ∧ vw τ = yearsB V0 nn ∧ J (yearsB V0 nn) τ)) := by
  intro n
  induction n with
  | zero =>
    intro kk σ hV hJ hb
    obtain ⟨hGk, h6⟩ := yearsB_all hG kk (by omega)
    have hI := hGk.1.1
    refine r_iload_n (q := 33) dX5_years_32 rfl rfl ?_
    refine r_iload_n (q := 34) dX5_years_33 rfl rfl ?_
    refine r_icmp_geN (t := 47) (q := 37) dX5_years_34 (by decide) rfl (by omega) (by omega) (fun c34 => ?_) (fun c34 => absurd (by omega) c34)
    refine r_aload_n (q := 48) dX5_years_47 rfl rfl ?_
    refine gvX5_58 (q := 51) hV hI dX5_years_48 rfl ?_
    obtain rfl : kk = nn := by omega
    exact r_retI dX5_years_51 ⟨by rw [hGk.2.year, h6], hV, hJ⟩
  | succ n ih =>
    intro kk σ hV hJ hb
    obtain ⟨hGk, h6⟩ := yearsB_all hG kk (by omega)
    have hI := hGk.1.1
    refine r_iload_n (q := 33) dX5_years_32 rfl rfl ?_
    refine r_iload_n (q := 34) dX5_years_33 rfl rfl ?_
    refine r_icmp_geN (t := 47) (q := 37) dX5_years_34 (by decide) rfl (by omega) (by omega) (fun c34 => absurd c34 (by omega)) (fun c34 => ?_)
    refine r_aload_n (q := 38) dX5_years_37 rfl rfl ?_
    refine r_cV0 (q := 41) vX5_181 dX5_years_38 rfl LYX5 rfl (Nat.le_of_ble_eq_true rfl) (by decide) (by decide) (c_X5_passYear _ _ hV hGk hJ (by omega)) ?_
    rintro τ1 ⟨hV1, hJ1⟩
    refine r_iinc (q := 44) (v := nI (kk + 1)) dX5_years_41 rfl rfl (by rw [show Int32.ofInt 1 = nI 1 from rfl]; exact nI_add _ _) ?_
    refine r_goto (q := 32) dX5_years_44 (by decide) ?_
    exact ih (kk + 1) _ hV1 hJ1 (by omega)
set_option maxRecDepth 100000 in
set_option maxHeartbeats 4000000 in
theorem c_X5_years (σ V : St) (hV : vw σ = V) (hG : GOOD V) (hJ : J V σ) (n : Int32) : Cl LAYC yX5_years cX5_years 3 (some .int) 6 160 [.ref 0, .int n] σ (EI (fun v τ => v = resO (cYears V n) (nI (nv V 33 6 + n.toNatClampNeg)) ∧ finO (cYears V n) (vw τ = yearsB V n.toNatClampNeg ∧ J (yearsB V n.toNatClampNeg) τ) V τ)) := by
  have hI := hG.1.1
  have hR := hG.2
  have hnw := bd hI 33 19 20 rfl rfl
  have hnb := bd hI 33 7 40 rfl rfl
  refine Cl.of 1 rfl rfl EI.ok ?_
  show Rn LAYC none RX5 _ _ _ _ 0 [some (.ref 0), some (.int n), none] [] _ _
  refine r_iload_n (q := 1) dX5_years_0 rfl rfl ?_
  refine r_iconst (q := 2) (v := nI 1) dX5_years_1 rfl (by decide) ?_
  refine r_icmp_ge (t := 12) (q := 5) dX5_years_2 (by decide) rfl (fun c2 => ?_) (fun c2 => ?_)
  · refine r_iload_n (q := 13) dX5_years_12 rfl rfl ?_
    refine r_bipush (q := 15) (v := nI 60) dX5_years_13 rfl (by decide) ?_
    refine r_aload_n (q := 16) dX5_years_15 rfl rfl ?_
    refine gvX5_58 (q := 19) hV hI dX5_years_16 rfl ?_
    refine r_isub (q := 20) dX5_years_19 rfl ?_
    rw [hR.year]
    refine r_icmp_le (t := 30) (q := 23) dX5_years_20 (by decide) rfl (fun c20 => ?_) (fun c20 => ?_)
    · obtain ⟨n, hn, rfl⟩ := years_n (bd hI 33 6 60 rfl rfl) c2 c20
      have hnc := nI_clamp (n := n) (by omega)
      refine r_iconst (q := 31) (v := nI 0) dX5_years_30 rfl (by decide) ?_
      refine r_istore_n (q := 32) dX5_years_31 rfl (Nat.le_of_ble_eq_true rfl) ?_
      refine (l_X5_years hG hn n 0 _ hV hJ (by omega)).mono ?_
      rintro r τ ⟨v, rfl, rfl, h⟩
      exact ⟨_, rfl, go_ok (by rw [cYears, if_neg (Int32.not_lt.mpr c2), if_neg (Int32.not_lt.mpr c20)]) (by rw [hnc]) (by rw [hnc]; exact h)⟩
    · refine r_aload_n (q := 24) dX5_years_23 rfl rfl ?_
      refine r_bipush (q := 26) (v := -6) dX5_years_24 rfl (by decide) ?_
      refine r_cI1 (q := 29) vX5_71 dX5_years_26 rfl LYX5 rfl (Nat.le_of_ble_eq_true rfl) (by decide) (by decide) (c_X5_refuse _ V hV _ 6 rfl (by decide) (by decide)) ?_
      rintro _ τR ⟨rfl, hRf, r32⟩
      exact r_retI dX5_years_29 (go_bad (by rw [cYears, if_neg (Int32.not_lt.mpr c2), if_pos (Int32.not_le.mp c20)]) (by decide) hRf (hJ.c r32))
  · refine r_aload_n (q := 6) dX5_years_5 rfl rfl ?_
    refine r_bipush (q := 8) (v := -4) dX5_years_6 rfl (by decide) ?_
    refine r_cI1 (q := 11) vX5_71 dX5_years_8 rfl LYX5 rfl (Nat.le_of_ble_eq_true rfl) (by decide) (by decide) (c_X5_refuse _ V hV _ 4 rfl (by decide) (by decide)) ?_
    rintro _ τR ⟨rfl, hRf, r32⟩
    exact r_retI dX5_years_11 (go_bad (by rw [cYears, if_pos (Int32.not_le.mp c2)]) (by decide) hRf (hJ.c r32))
end
