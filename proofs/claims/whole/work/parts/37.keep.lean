section
/-! ===== what holds between calls is kept ===== -/
theorem nv_wr {V : St} {k j i n : Nat} (hn : n < 2 ^ 31) : nv (wr V k j (nI n)) k i = if i = j then n else nv V k i := by
  unfold nv
  rw [wr_at]
  by_cases h : i = j
  · rw [if_pos ⟨rfl, h⟩, if_pos h]
    exact nI_clamp hn
  · rw [if_neg (fun e => h e.2), if_neg h]
theorem wr_k {V : St} {k j i : Nat} {x : Int32} : wr V k j x k i = if i = j then x else V k i := by
  rw [wr_at]
  by_cases h : i = j
  · rw [if_pos ⟨rfl, h⟩, if_pos h]
  · rw [if_neg (fun e => h e.2), if_neg h]
theorem wr_same {V : St} {a b j : Nat} {x : Int32} (h : V a = V b) : wr V a j x a = wr V b j x b := by
  funext i
  rw [wr_k, wr_k, h]
theorem wr_same2 {V : St} {a b j i : Nat} {x y : Int32} (h : V a = V b) (e : j = i) (e2 : x = y) : wr V a j x a = wr V b i y b := by
  subst e e2
  exact wr_same h
theorem rg {x : Int32} {lo hi : Nat} (hl : lo ≤ hi) (hh : hi < 2 ^ 31) (h1 : ¬ x < nI lo) (h2 : ¬ nI hi < x) : ∃ n, lo ≤ n ∧ n ≤ hi ∧ x = nI n := by
  rw [Int32.lt_iff_toInt_lt, nI_toInt (by omega)] at h1 h2
  refine ⟨x.toInt.toNat, by omega, by omega, ?_⟩
  apply Int32.toInt_inj.mp
  rw [nI_toInt (by omega)]
  omega
theorem rg0 {x : Int32} {hi : Nat} (hh : hi < 2 ^ 31) (h1 : ¬ x < 0) (h2 : ¬ nI hi < x) : ∃ n, n ≤ hi ∧ x = nI n := by
  obtain ⟨n, -, h, e⟩ := rg (lo := 0) (Nat.zero_le _) hh (by rw [nI_0]; exact h1) h2
  exact ⟨n, h, e⟩
theorem InvN_wn {V : St} {k j n : Nat} (M : Nat) (hI : InvN V) (hu : ub k j = M) (h : n ≤ M) (hM : M < 2 ^ 31 := by decide) : InvN (wr V k j (nI n)) := InvN_wr hI (fun _ => by rw [hu]; exact nI_ok h hM)
section KEEP
variable {V : St}
theorem G_rfB (hG : GOOD V) (c : Int32) : GOOD (rfB V c) := by
  obtain ⟨hF, g1, g2, g3, g4, g5, g6, g7, g8, g9, g10, g11⟩ := hG
  refine ⟨⟨InvN_wr (InvN_wr hF.1 (fun h => by cases h)) (fun h => by cases h), hF.2.1, hF.2.2⟩, g1, ⟨g2.1, g2.2.1, ?_⟩, g3, g4, g5, g6, g7, g8, g9, g10, g11⟩
  show wr V 31 (-c).toNatClampNeg (V 31 (-c).toNatClampNeg + 1) 31 = wr V 58 (-c).toNatClampNeg (V 58 (-c).toNatClampNeg + 1) 58
  exact wr_same2 g2.2.2 rfl (by rw [g2.2.2])
theorem G_law (hG : GOOD V) {d e : Nat} (he : e ≤ 24) : GOOD (mx (wr V 30 d (nI e)) (wr V 38 d (nI e))) := by
  obtain ⟨hF, g1, g2, g3, g4, g5, g6, g7, g8, g9, g10, g11⟩ := hG
  exact ⟨⟨InvN_mx (InvN_wn 24 hF.1 rfl he) (InvN_wn 24 hF.1 rfl he), hF.2.1, hF.2.2⟩, g1, ⟨g2.1, wr_same g2.2.1, g2.2.2⟩, g3, g4, g5, g6, g7, g8, g9, g10, g11⟩
theorem G_part (hG : GOOD V) {e : Nat} (he : e ≤ 8) : GOOD (mx (wr V 0 8 (nI e)) (wr V 33 5 (nI e))) := by
  obtain ⟨hF, g1, g2, g3, g4, g5, g6, g7, g8, g9, g10, g11⟩ := hG
  exact ⟨⟨InvN_mx (InvN_wn 8 hF.1 rfl he) (InvN_wn 8 hF.1 rfl he), hF.2.1, hF.2.2⟩, ⟨rfl, g1.2⟩, g2, g3, g4, g5, g6, g7, g8, g9, g10, g11⟩
theorem G_most (hG : GOOD V) {b x : Nat} (hx : x ≤ 200) : GOOD (mx (wr V 8 b (nI x)) (wr V 46 b (nI x))) := by
  obtain ⟨hF, g1, g2, g3, g4, g5, g6, g7, g8, g9, g10, g11⟩ := hG
  exact ⟨⟨InvN_mx (InvN_wn 200 hF.1 rfl hx) (InvN_wn 200 hF.1 rfl hx), hF.2.1, hF.2.2⟩, g1, g2, g3, ⟨g4.1, wr_same g4.2.1, g4.2.2⟩, g5, g6, g7, g8, g9, g10, g11⟩
theorem G_cut (hG : GOOD V) {b x : Nat} (hx : x ≤ 200) : GOOD (mx (wr V 7 (b * 3 + 2) (nI x)) (wr V 45 b (nI x))) := by
  obtain ⟨hF, g1, g2, g3, g4, g5, g6, g7, g8, g9, g10, g11⟩ := hG
  refine ⟨⟨InvN_mx (InvN_wn 200 hF.1 rfl hx) (InvN_wn 200 hF.1 rfl hx), hF.2.1, hF.2.2⟩, g1, g2, g3, g4, fun a => ?_, g6, g7, g8, g9, g10, g11⟩
  obtain ⟨q1, q2, q3, q4, q5, q6⟩ := g5 a
  refine ⟨q1, q2, q3, ?_, ?_, ?_⟩
  · show wr V 7 (b * 3 + 2) (nI x) 7 (a * 3) = V 41 a
    rw [wr_k, if_neg (by omega), q4]
  · show wr V 7 (b * 3 + 2) (nI x) 7 (a * 3 + 1) = V 43 a
    rw [wr_k, if_neg (by omega), q5]
  · show wr V 7 (b * 3 + 2) (nI x) 7 (a * 3 + 2) = wr V 45 b (nI x) 45 a
    rw [wr_k, wr_k, q6]
    by_cases h : a = b
    · rw [if_pos (by omega), if_pos h]
    · rw [if_neg (by omega), if_neg h]
theorem G_share (hG : GOOD V) {b d e : Nat} (hb : b < nv V 33 7) (hd : d < 8) (h1 : nv V 39 b = 1) (he : e ≤ 8) : GOOD (mx (wr V 9 (b * 8 + d) (nI e)) (wr V 47 (8 * b + d) (nI e))) := by
  obtain ⟨hF, g1, g2, g3, g4, g5, g6, g7, g8, g9, g10, g11⟩ := hG
  refine ⟨⟨InvN_mx (InvN_wn 8 hF.1 rfl he) (InvN_wn 8 hF.1 rfl he), hF.2.1, hF.2.2⟩, g1, g2, g3, g4, g5, fun a c hc => ?_, g7, g8, g9, fun a ha => ⟨(g10 a ha).1, (g10 a ha).2.1, fun c hc => ?_⟩, g11⟩
  · show nv (wr V 9 (b * 8 + d) (nI e)) 9 (a * 8 + c) = if nv V 39 a = 1 then nv (wr V 47 (8 * b + d) (nI e)) 47 (8 * a + c) else if nv V 39 a = 2 then 8 else 0
    rw [nv_wr (by omega), nv_wr (by omega), g6 a c hc]
    by_cases h : a = b ∧ c = d
    · obtain ⟨rfl, rfl⟩ := h
      rw [if_pos rfl, if_pos rfl, if_pos h1]
    · rw [if_neg (show ¬ a * 8 + c = b * 8 + d by omega), if_neg (show ¬ 8 * a + c = 8 * b + d by omega)]
  · show nv (wr V 47 (8 * b + d) (nI e)) 47 (8 * a + c) = 0
    have ha : nv V 33 7 ≤ a := ha
    rw [nv_wr (by omega), if_neg (by omega)]
    exact (g10 a ha).2.2 c hc
theorem G_build (hG : GOOD V) {b : Nat} (hb : b < nv V 33 7) (h3 : nv V 39 b = 3) (h49 : nv V 49 b = 0) : GOOD (mx (wr V 10 b (nI 1)) (wr V 48 b (nI 1))) := by
  obtain ⟨hF, g1, g2, g3, g4, g5, g6, g7, g8, g9, g10, g11⟩ := hG
  refine ⟨⟨InvN_mx (InvN_wn 1 hF.1 rfl (by decide)) (InvN_wn 1 hF.1 rfl (by decide)), hF.2.1, hF.2.2⟩, g1, g2, g3, g4, g5, g6, fun a ha => ?_, g8, g9, fun a ha => ⟨?_, (g10 a ha).2⟩, g11⟩
  · show nv (wr V 10 b (nI 1)) 10 a = if nv V 49 a = 0 then (if nv V 39 a = 3 then nv (wr V 48 b (nI 1)) 48 a else 1) else 0
    rw [nv_wr (by omega), nv_wr (by omega), g7 a ha]
    by_cases h : a = b
    · subst h
      rw [if_pos rfl, if_pos rfl, if_pos h49, if_pos h3]
    · rw [if_neg h, if_neg h]
  · show nv (wr V 48 b (nI 1)) 48 a = 0
    have ha : nv V 33 7 ≤ a := ha
    rw [nv_wr (by omega), if_neg (by omega)]
    exact (g10 a ha).1
theorem G_go (hG : GOOD V) {b : Nat} (hb : b < nv V 33 7) : GOOD (mx (wr (wr V 11 b (nI 1)) 10 b (nI 0)) (wr V 49 b (nI 1))) := by
  obtain ⟨hF, g1, g2, g3, g4, g5, g6, g7, g8, g9, g10, g11⟩ := hG
  refine ⟨⟨InvN_mx (InvN_wn 1 (InvN_wn 1 hF.1 rfl (by decide)) rfl (by decide)) (InvN_wn 1 hF.1 rfl (by decide)), hF.2.1, hF.2.2⟩, g1, g2, g3, ⟨g4.1, g4.2.1, wr_same g4.2.2⟩, g5, g6, fun a ha => ?_, g8, g9, fun a ha => ⟨(g10 a ha).1, ?_, (g10 a ha).2.2⟩, g11⟩
  · show nv (wr V 10 b (nI 0)) 10 a = if nv (wr V 49 b (nI 1)) 49 a = 0 then (if nv V 39 a = 3 then nv V 48 a else 1) else 0
    rw [nv_wr (by omega), nv_wr (by omega), g7 a ha]
    by_cases h : a = b
    · subst h
      rw [if_pos rfl, if_pos rfl, if_neg (by decide)]
    · rw [if_neg h, if_neg h]
  · show nv (wr V 49 b (nI 1)) 49 a = 0
    have ha : nv V 33 7 ≤ a := ha
    rw [nv_wr (by omega), if_neg (by omega)]
    exact (g10 a ha).2.1
theorem G_rel (hG : GOOD V) (b : Nat) : GOOD (mx (wr V 21 b (nI 1)) (wr V 57 b (nI 1))) := by
  obtain ⟨hF, g1, g2, g3, g4, g5, g6, g7, g8, g9, g10, g11⟩ := hG
  exact ⟨⟨InvN_mx (InvN_wn 1 hF.1 rfl (by decide)) (InvN_wn 1 hF.1 rfl (by decide)), hF.2.1, hF.2.2⟩, g1, g2, g3, g4, g5, g6, g7, ⟨g8.1, g8.2.1, g8.2.2.1, g8.2.2.2.1, g8.2.2.2.2.1, wr_same g8.2.2.2.2.2⟩, g9, g10, g11⟩
theorem G_ask (hG : GOOD V) : GOOD (mx V (askV V)) := by
  have hF' := askW_WF hG.1 (nv V 33 19)
  obtain ⟨hF, g1, g2, g3, g4, g5, g6, g7, g8, g9, g10, g11⟩ := hG
  exact ⟨⟨InvN_mx hF.1 hF'.1, hF.2.1, hF.2.2⟩, g1, g2, g3, g4, g5, g6, g7, g8, g9, g10, g11⟩
theorem G_minute (hG : GOOD V) {d : Nat} {x y : Int32} {z : Nat} (hd : d < 8) (hm : nv V 34 d < 24) (hx1 : -50 ≤ x.toInt) (hx2 : x.toInt ≤ 50) (hy1 : -50 ≤ y.toInt) (hy2 : y.toInt ≤ 50) (hz1 : 1 ≤ z) (hz2 : z ≤ 50) : GOOD (mx (wr (wr (wr (wr V 3 ((d * 24 + nv V 2 d) * 3 + 0) x) 3 ((d * 24 + nv V 2 d) * 3 + 1) y) 3 ((d * 24 + nv V 2 d) * 3 + 2) (nI z)) 2 d (nI (nv V 2 d + 1))) (wr (wr (wr (wr V 35 (24 * d + nv V 34 d) x) 36 (24 * d + nv V 34 d) y) 37 (24 * d + nv V 34 d) (nI z)) 34 d (nI (nv V 34 d + 1)))) := by
  have em := hG.2.mn d
  obtain ⟨hF, g1, g2, g3, g4, g5, g6, g7, g8, g9, g10, g11⟩ := hG
  refine ⟨⟨InvN_mx (InvN_wn 24 (InvN_wr (InvN_wr (InvN_wr hF.1 (fun h => by cases h)) (fun h => by cases h)) (fun h => by cases h)) rfl (by omega)) (InvN_wn 24 (InvN_wn 50 (InvN_wr (InvN_wr hF.1 (fun h => by cases h)) (fun h => by cases h)) rfl hz2) rfl (by omega)), hF.2.1, fun k => ?_, fun a m ha h => ?_⟩, g1, ⟨wr_same2 g2.1 rfl (by rw [em]), g2.2⟩, fun i => ?_, g4, g5, g6, g7, g8, g9, g10, g11⟩
  · show -50 ≤ (wr V 35 (24 * d + nv V 34 d) x 35 k).toInt ∧ (wr V 35 (24 * d + nv V 34 d) x 35 k).toInt ≤ 50 ∧ -50 ≤ (wr V 36 (24 * d + nv V 34 d) y 36 k).toInt ∧ (wr V 36 (24 * d + nv V 34 d) y 36 k).toInt ≤ 50
    rw [wr_k, wr_k]
    by_cases e : k = 24 * d + nv V 34 d
    · rw [if_pos e, if_pos e]
      exact ⟨hx1, hx2, hy1, hy2⟩
    · rw [if_neg e, if_neg e]
      exact hF.2.2.1 k
  · have h : m < nv (wr V 34 d (nI (nv V 34 d + 1))) 34 a := h
    show 1 ≤ nv (wr V 37 (24 * d + nv V 34 d) (nI z)) 37 (24 * a + m)
    rw [nv_wr (by omega)] at h ⊢
    by_cases e : 24 * a + m = 24 * d + nv V 34 d
    · rw [if_pos e]
      exact hz1
    · rw [if_neg e]
      refine hF.2.2.2 a m ha ?_
      by_cases e2 : a = d
      · subst e2
        rw [if_pos rfl] at h
        omega
      · rw [if_neg e2] at h
        exact h
  · show wr (wr (wr V 3 ((d * 24 + nv V 2 d) * 3 + 0) x) 3 ((d * 24 + nv V 2 d) * 3 + 1) y) 3 ((d * 24 + nv V 2 d) * 3 + 2) (nI z) 3 (i * 3) = wr V 35 (24 * d + nv V 34 d) x 35 i ∧ wr (wr (wr V 3 ((d * 24 + nv V 2 d) * 3 + 0) x) 3 ((d * 24 + nv V 2 d) * 3 + 1) y) 3 ((d * 24 + nv V 2 d) * 3 + 2) (nI z) 3 (i * 3 + 1) = wr V 36 (24 * d + nv V 34 d) y 36 i ∧ wr (wr (wr V 3 ((d * 24 + nv V 2 d) * 3 + 0) x) 3 ((d * 24 + nv V 2 d) * 3 + 1) y) 3 ((d * 24 + nv V 2 d) * 3 + 2) (nI z) 3 (i * 3 + 2) = wr V 37 (24 * d + nv V 34 d) (nI z) 37 i
    obtain ⟨q1, q2, q3⟩ := g3 i
    rw [em]
    simp only [wr_k]
    generalize nv V 34 d = n at *
    by_cases e : i = 24 * d + n
    · refine ⟨?_, ?_, ?_⟩
      · rw [if_neg (by omega), if_neg (by omega), if_pos (by omega), if_pos e]
      · rw [if_neg (by omega), if_pos (by omega), if_pos e]
      · rw [if_pos (by omega), if_pos e]
    · refine ⟨?_, ?_, ?_⟩
      · rw [if_neg (by omega), if_neg (by omega), if_neg (by omega), if_neg e]
        exact q1
      · rw [if_neg (by omega), if_neg (by omega), if_neg (by omega), if_neg e]
        exact q2
      · rw [if_neg (by omega), if_neg (by omega), if_neg (by omega), if_neg e]
        exact q3
theorem InvN_thr {V : St} (hI : InvN V) {b n e : Nat} (he : e ≤ 8) : InvN (thrW V b (nI e) n) := by
  intro k i hn
  unfold nv thrW
  by_cases h : k = 9 ∧ b * 8 ≤ i ∧ i < b * 8 + n
  · rw [if_pos h, h.1]
    exact nI_ok (M := 8) he (by decide)
  · rw [if_neg h]
    exact hI k i hn
theorem nI_if {c : Prop} [Decidable c] {a b : Nat} : (if c then nI a else nI b) = nI (if c then a else b) := by split <;> rfl
theorem G_block (hG : GOOD V) {kk x0 x1 y0 y1 f t : Nat} (hk : kk ≤ 3) (hb : nv V 33 7 < 40) (h1 : x0 ≤ 200) (h2 : x1 ≤ 200) (h3 : y0 ≤ 200) (h4 : y1 ≤ 200) (h5 : f ≤ 200) (h6 : t ≤ 200) : GOOD (mx (blkC V (nI kk) (nI x0) (nI x1) (nI y0) (nI y1) (nI f) (nI t)) (wr (wr (wr (wr (wr (wr (wr (wr (wr V 39 (nv V 33 7) (nI kk)) 40 (nv V 33 7) (nI x0)) 41 (nv V 33 7) (nI x1)) 42 (nv V 33 7) (nI y0)) 43 (nv V 33 7) (nI y1)) 44 (nv V 33 7) (nI f)) 45 (nv V 33 7) (nI t)) 46 (nv V 33 7) (nI 200)) 33 7 (nI (nv V 33 7 + 1)))) := by
  have em := hG.2.nb
  obtain ⟨hF, g1, g2, g3, g4, g5, g6, g7, g8, g9, g10, g11⟩ := hG
  unfold blkC
  rw [em]
  rw [nI_if, nI_if, show (if nI kk = nI 3 then 0 else 1) = (if kk = 3 then 0 else 1) by simp only [nI_eq (show kk < 2 ^ 31 by omega) (show 3 < 2 ^ 31 by decide)], show (if nI kk = nI 2 then 8 else 0) = (if kk = 2 then 8 else 0) by simp only [nI_eq (show kk < 2 ^ 31 by omega) (show 2 < 2 ^ 31 by decide)]]
  generalize hn : nv V 33 7 = n at *
  have e8 : (if kk = 2 then 8 else 0) ≤ 8 := by split <;> omega
  have e1 : (if kk = 3 then 0 else 1) ≤ 1 := by split <;> omega
  refine ⟨⟨InvN_mx (InvN_wn 40 (InvN_thr (InvN_wn 1 (InvN_wn 200 (InvN_wn 200 (InvN_wn 200 (InvN_wn 200 (InvN_wn 200 (InvN_wn 200 (InvN_wn 200 (InvN_wn 3 hF.1 rfl hk) rfl h1) rfl h2) rfl h3) rfl h4) rfl h5) rfl h6) rfl (by decide)) rfl e1) e8) rfl (by omega)) (InvN_wn 40 (InvN_wn 200 (InvN_wn 200 (InvN_wn 200 (InvN_wn 200 (InvN_wn 200 (InvN_wn 200 (InvN_wn 200 (InvN_wn 3 hF.1 rfl hk) rfl h1) rfl h2) rfl h3) rfl h4) rfl h5) rfl h6) rfl (by decide)) rfl (by omega)), hF.2.1, hF.2.2⟩, ⟨g1.1, g1.2.1, rfl, g1.2.2.2⟩, g2, g3, ⟨wr_same g4.1, wr_same g4.2.1, g4.2.2⟩, fun a => ?_, fun a c hc => ?_, fun a ha => ?_, g8, g9, fun a ha => ?_, g11⟩
  · show wr (wr (wr V 6 (n * 3 + 0) (nI x0)) 6 (n * 3 + 1) (nI y0)) 6 (n * 3 + 2) (nI f) 6 (a * 3) = wr V 40 n (nI x0) 40 a ∧ wr (wr (wr V 6 (n * 3 + 0) (nI x0)) 6 (n * 3 + 1) (nI y0)) 6 (n * 3 + 2) (nI f) 6 (a * 3 + 1) = wr V 42 n (nI y0) 42 a ∧ wr (wr (wr V 6 (n * 3 + 0) (nI x0)) 6 (n * 3 + 1) (nI y0)) 6 (n * 3 + 2) (nI f) 6 (a * 3 + 2) = wr V 44 n (nI f) 44 a ∧ wr (wr (wr V 7 (n * 3 + 0) (nI x1)) 7 (n * 3 + 1) (nI y1)) 7 (n * 3 + 2) (nI t) 7 (a * 3) = wr V 41 n (nI x1) 41 a ∧ wr (wr (wr V 7 (n * 3 + 0) (nI x1)) 7 (n * 3 + 1) (nI y1)) 7 (n * 3 + 2) (nI t) 7 (a * 3 + 1) = wr V 43 n (nI y1) 43 a ∧ wr (wr (wr V 7 (n * 3 + 0) (nI x1)) 7 (n * 3 + 1) (nI y1)) 7 (n * 3 + 2) (nI t) 7 (a * 3 + 2) = wr V 45 n (nI t) 45 a
    obtain ⟨q1, q2, q3, q4, q5, q6⟩ := g5 a
    simp only [wr_k]
    by_cases e : a = n
    · refine ⟨?_, ?_, ?_, ?_, ?_, ?_⟩
      · rw [if_neg (by omega), if_neg (by omega), if_pos (by omega), if_pos e]
      · rw [if_neg (by omega), if_pos (by omega), if_pos e]
      · rw [if_pos (by omega), if_pos e]
      · rw [if_neg (by omega), if_neg (by omega), if_pos (by omega), if_pos e]
      · rw [if_neg (by omega), if_pos (by omega), if_pos e]
      · rw [if_pos (by omega), if_pos e]
    · refine ⟨?_, ?_, ?_, ?_, ?_, ?_⟩
      · rw [if_neg (by omega), if_neg (by omega), if_neg (by omega), if_neg e]; exact q1
      · rw [if_neg (by omega), if_neg (by omega), if_neg (by omega), if_neg e]; exact q2
      · rw [if_neg (by omega), if_neg (by omega), if_neg (by omega), if_neg e]; exact q3
      · rw [if_neg (by omega), if_neg (by omega), if_neg (by omega), if_neg e]; exact q4
      · rw [if_neg (by omega), if_neg (by omega), if_neg (by omega), if_neg e]; exact q5
      · rw [if_neg (by omega), if_neg (by omega), if_neg (by omega), if_neg e]; exact q6
  · show nv (thrW V n (nI (if kk = 2 then 8 else 0)) 8) 9 (a * 8 + c) = if nv (wr V 39 n (nI kk)) 39 a = 1 then nv V 47 (8 * a + c) else if nv (wr V 39 n (nI kk)) 39 a = 2 then 8 else 0
    rw [nv_wr (by omega)]
    by_cases e : a = n
    · subst e
      have e3 : nv (thrW V a (nI (if kk = 2 then 8 else 0)) 8) 9 (a * 8 + c) = (if kk = 2 then 8 else 0) := by
        show (thrW V a (nI (if kk = 2 then 8 else 0)) 8 9 (a * 8 + c)).toNatClampNeg = _
        unfold thrW
        rw [if_pos ⟨rfl, by omega, by omega⟩]
        exact nI_clamp (by omega)
      rw [e3, if_pos rfl, (g10 a (Nat.le_refl _)).2.2 c hc]
      by_cases e4 : kk = 1
      · rw [if_pos e4, if_neg (by omega)]
      · rw [if_neg e4]
    · have e3 : nv (thrW V n (nI (if kk = 2 then 8 else 0)) 8) 9 (a * 8 + c) = nv V 9 (a * 8 + c) := by
        show (thrW V n (nI (if kk = 2 then 8 else 0)) 8 9 (a * 8 + c)).toNatClampNeg = _
        unfold thrW
        rw [if_neg (by omega)]
        rfl
      rw [e3, if_neg e]
      exact g6 a c hc
  · have ha : a < nv (wr V 33 7 (nI (n + 1))) 33 7 := ha
    rw [nv_wr (by omega), if_pos rfl] at ha
    show nv (wr V 10 n (nI (if kk = 3 then 0 else 1))) 10 a = if nv V 49 a = 0 then (if nv (wr V 39 n (nI kk)) 39 a = 3 then nv V 48 a else 1) else 0
    rw [nv_wr (by omega), nv_wr (by omega)]
    by_cases e : a = n
    · subst e
      rw [if_pos rfl, if_pos rfl, if_pos (g10 a (Nat.le_refl _)).2.1, (g10 a (Nat.le_refl _)).1]
    · rw [if_neg e, if_neg e]
      exact g7 a (by omega)
  · have ha : nv (wr V 33 7 (nI (n + 1))) 33 7 ≤ a := ha
    rw [nv_wr (by omega), if_pos rfl] at ha
    exact g10 a (by omega)
theorem G_window (hG : GOOD V) {s a ua ub za zb : Nat} (hs : s ≤ 3) (hn : nv V 33 19 < 20) (h1 : a ≤ 200) (h2 : ua < ub) (h3 : ub ≤ 200) (h4 : za < zb) (h5 : zb ≤ 200) (h6 : (ub - ua) * (zb - za) ≤ 64) : GOOD (mx (winC V (nI s) (nI a) (nI ua) (nI ub) (nI za) (nI zb)) (wr (wr (wr (wr (wr (wr (wr V 50 (nv V 33 19) (nI s)) 51 (nv V 33 19) (nI a)) 52 (nv V 33 19) (nI ua)) 53 (nv V 33 19) (nI ub)) 54 (nv V 33 19) (nI za)) 55 (nv V 33 19) (nI zb)) 33 19 (nI (nv V 33 19 + 1)))) := by
  have em := hG.2.nw
  obtain ⟨hF, g1, g2, g3, g4, g5, g6, g7, g8, g9, g10, g11⟩ := hG
  unfold winC
  rw [em, nI_if, show (if nI 2 ≤ nI s then 1 else 0) = (if 2 ≤ s then 1 else 0) by simp only [nI_leI (show 2 < 2 ^ 31 by decide) (show s < 2 ^ 31 by omega)], pk_sub (by omega), pk_sub (by omega)]
  have hW := hF.2.1
  unfold InvW at hW
  generalize hnn : nv V 33 19 = n at *
  have e1 : (if 2 ≤ s then 1 else 0) ≤ 1 := by split <;> omega
  refine ⟨⟨InvN_mx (InvN_wn 20 (InvN_wn 200 (InvN_wn 200 (InvN_wn 200 (InvN_wn 200 (InvN_wn 200 (InvN_wn 1 (InvN_wn 3 hF.1 rfl hs) rfl e1) rfl h1) rfl (by omega)) rfl (by omega)) rfl (by omega)) rfl (by omega)) rfl (by omega)) (InvN_wn 20 (InvN_wn 200 (InvN_wn 200 (InvN_wn 200 (InvN_wn 200 (InvN_wn 200 (InvN_wn 3 hF.1 rfl hs) rfl h1) rfl (by omega)) rfl (by omega)) rfl (by omega)) rfl (by omega)) rfl (by omega)), fun w => ?_, hF.2.2⟩, ⟨g1.1, g1.2.1, g1.2.2.1, rfl⟩, g2, g3, g4, g5, g6, g7, ⟨wr_same g8.1, wr_same g8.2.1, wr_same g8.2.2.1, wr_same g8.2.2.2.1, g8.2.2.2.2.1, g8.2.2.2.2.2⟩, fun w => ?_, g10, g11⟩
  · show nv (wr V 52 n (nI ua)) 52 w ≤ nv (wr V 53 n (nI ub)) 53 w ∧ nv (wr V 54 n (nI za)) 54 w ≤ nv (wr V 55 n (nI zb)) 55 w ∧ (nv (wr V 53 n (nI ub)) 53 w - nv (wr V 52 n (nI ua)) 52 w) * (nv (wr V 55 n (nI zb)) 55 w - nv (wr V 54 n (nI za)) 54 w) ≤ 64 ∧ (w < nv (wr V 33 19 (nI (n + 1))) 33 19 → nv (wr V 52 n (nI ua)) 52 w < nv (wr V 53 n (nI ub)) 53 w ∧ nv (wr V 54 n (nI za)) 54 w < nv (wr V 55 n (nI zb)) 55 w)
    rw [nv_wr (by omega), nv_wr (by omega), nv_wr (by omega), nv_wr (by omega), nv_wr (by omega)]
    by_cases e : w = n
    · rw [if_pos e, if_pos e, if_pos e, if_pos e]
      exact ⟨by omega, by omega, h6, fun _ => ⟨h2, h4⟩⟩
    · rw [if_neg e, if_neg e, if_neg e, if_neg e, if_pos rfl]
      obtain ⟨w1, w2, w3, w4⟩ := hW w
      exact ⟨w1, w2, w3, fun h => w4 (by omega)⟩
  · show nv (wr V 14 n (nI (if 2 ≤ s then 1 else 0))) 14 w = (if nv (wr V 50 n (nI s)) 50 w < 2 then 0 else 1) ∧ nv (wr V 18 n (nI (ub - ua))) 18 w = nv (wr V 53 n (nI ub)) 53 w - nv (wr V 52 n (nI ua)) 52 w ∧ nv (wr V 19 n (nI (zb - za))) 19 w = nv (wr V 55 n (nI zb)) 55 w - nv (wr V 54 n (nI za)) 54 w
    rw [nv_wr (by omega), nv_wr (by omega), nv_wr (by omega), nv_wr (by omega), nv_wr (by omega), nv_wr (by omega), nv_wr (by omega), nv_wr (by omega)]
    by_cases e : w = n
    · rw [if_pos e, if_pos e, if_pos e, if_pos e, if_pos e, if_pos e, if_pos e, if_pos e]
      refine ⟨?_, rfl, rfl⟩
      by_cases e2 : 2 ≤ s
      · rw [if_pos e2, if_neg (by omega)]
      · rw [if_neg e2, if_pos (by omega)]
    · rw [if_neg e, if_neg e, if_neg e, if_neg e, if_neg e, if_neg e, if_neg e, if_neg e]
      exact g9 w
end KEEP
end
