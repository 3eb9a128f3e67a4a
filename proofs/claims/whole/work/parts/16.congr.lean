/-! ===== what light depends on ===== -/
def GEo (V V' : St) : Prop := V' 33 5 = V 33 5 ∧ V' 33 7 = V 33 7 ∧ V' 33 29 = V 33 29 ∧ V' 33 30 = V 33 30 ∧ V' 34 = V 34 ∧ V' 35 = V 35 ∧ V' 36 = V 36 ∧ V' 37 = V 37 ∧ V' 39 = V 39 ∧ V' 40 = V 40 ∧ V' 41 = V 41 ∧ V' 42 = V 42 ∧ V' 43 = V 43 ∧ V' 44 = V 44 ∧ V' 45 = V 45 ∧ V' 47 = V 47 ∧ V' 48 = V 48 ∧ V' 49 = V 49
def GEw (V V' : St) (w : Nat) : Prop := V' 50 w = V 50 w ∧ V' 51 w = V 51 w ∧ V' 52 w = V 52 w ∧ V' 53 w = V 53 w ∧ V' 54 w = V 54 w ∧ V' 55 w = V 55 w
theorem GEo.rf (V : St) : GEo V V := by
  unfold GEo
  simp
theorem GEw.rf (V : St) (w : Nat) : GEw V V w := by
  unfold GEw
  simp
section CONGR
variable {V V' : St} {w : Nat}
theorem cls_c (h : GEw V V' w) : cls V' w = cls V w := by
  obtain ⟨h1, h2, h3, h4, h5, h6⟩ := h
  simp only [cls, nv, h3, h4, h5, h6]
theorem front_c (ho : GEo V V') (h : GEw V V' w) (k : Nat) : front V' w k = front V w k := by
  obtain ⟨o1, o2, o3, o4, o5, o6, o7, o8, o9, o10, o11, o12, o13, o14, o15, o16, o17, o18⟩ := ho
  obtain ⟨h1, h2, h3, h4, h5, h6⟩ := h
  unfold front nv
  rw [h1, o6, o7]
theorem topT_c (ho : GEo V V') (b : Nat) : topT V' b = topT V b := by
  obtain ⟨o1, o2, o3, o4, o5, o6, o7, o8, o9, o10, o11, o12, o13, o14, o15, o16, o17, o18⟩ := ho
  unfold topT nv
  rw [o3, o4, o15]
theorem pt_c (h : GEw V V' w) (c : Nat) : ptX V' w c = ptX V w c ∧ ptY V' w c = ptY V w c ∧ ptZ V' w c = ptZ V w c := by
  obtain ⟨h1, h2, h3, h4, h5, h6⟩ := h
  unfold ptX ptY ptZ ptU nv
  rw [h1, h2, h3, h4, h5]
  exact ⟨rfl, rfl, rfl⟩
theorem lowP_c (ho : GEo V V') (h : GEw V V' w) (c k b t : Nat) : lowP V' w c k b t = lowP V w c k b t := by
  obtain ⟨p1, p2, p3⟩ := pt_c h c
  obtain ⟨o1, o2, o3, o4, o5, o6, o7, o8, o9, o10, o11, o12, o13, o14, o15, o16, o17, o18⟩ := ho
  simp only [lowP, p1, p2, p3, nv, o6, o7, o8, o10, o11, o12, o13, o14]
theorem highP_c (ho : GEo V V') (h : GEw V V' w) (c k b t : Nat) : highP V' w c k b t = highP V w c k b t := by
  obtain ⟨p1, p2, p3⟩ := pt_c h c
  obtain ⟨o1, o2, o3, o4, o5, o6, o7, o8, o9, o10, o11, o12, o13, o14, o15, o16, o17, o18⟩ := ho
  simp only [highP, p1, p2, p3, nv, o6, o7, o8, o10, o11, o12, o13, o14]
theorem outP_c (ho : GEo V V') (h : GEw V V' w) (c k b t : Nat) : outP V' w c k b t = outP V w c k b t := by
  obtain ⟨p1, p2, p3⟩ := pt_c h c
  obtain ⟨o1, o2, o3, o4, o5, o6, o7, o8, o9, o10, o11, o12, o13, o14, o15, o16, o17, o18⟩ := ho
  simp only [outP, p1, p2, p3, nv, o6, o7, o8, o10, o11, o12, o13, o14]
theorem hitn_c (ho : GEo V V') (h : GEw V V' w) (c k b t : Nat) : hitn V' w c k b t = hitn V w c k b t := by
  unfold hitn
  rw [lowP_c ho h, highP_c ho h, outP_c ho h]
theorem opq_c (ho : GEo V V') (d b : Nat) : opq V' d b = opq V d b := by
  obtain ⟨o1, o2, o3, o4, o5, o6, o7, o8, o9, o10, o11, o12, o13, o14, o15, o16, o17, o18⟩ := ho
  unfold opq there nv
  rw [o3, o9, o16, o17, o18]
theorem lightR_c (ho : GEo V V') (h : GEw V V' w) (c d k b : Nat) : lightR V' w c d k b = lightR V w c d k b := by
  induction b with
  | zero => rfl
  | succ b ih =>
    have o := ho
    obtain ⟨o1, o2, o3, o4, o5, o6, o7, o8, o9, o10, o11, o12, o13, o14, o15, o16, o17, o18⟩ := o
    show lightS V' w c d k b (lightR V' w c d k b) = lightS V w c d k b (lightR V w c d k b)
    rw [ih]
    unfold lightS
    rw [opq_c ho, topT_c ho, hitn_c ho h]
    unfold nv
    rw [o9, o16]
theorem lightN_c (ho : GEo V V') (h : GEw V V' w) (c d m : Nat) : lightN V' w c d m = lightN V w c d m := by
  unfold lightN nv
  rw [front_c ho h, lightR_c ho h, ho.2.1]
theorem sunR_c (ho : GEo V V') (h : GEw V V' w) (d m c : Nat) : sunR V' w d m c = sunR V w d m c := by
  induction c with
  | zero => rfl
  | succ c ih =>
    show sunR V' w d m c + lightN V' w c d m = sunR V w d m c + lightN V w c d m
    rw [ih, lightN_c ho h]
theorem litN_c (ho : GEo V V') (h : GEw V V' w) (d m : Nat) : litN V' w d m = litN V w d m := by
  unfold litN sunN nv
  rw [cls_c h, sunR_c ho h, ho.1]
theorem hoursR_c (ho : GEo V V') (h : GEw V V' w) (d m : Nat) : hoursR V' w d m = hoursR V w d m := by
  induction m with
  | zero => rfl
  | succ m ih =>
    show hoursR V' w d m + litN V' w d m = hoursR V w d m + litN V w d m
    rw [ih, litN_c ho h]
theorem hoursN_c (ho : GEo V V') (h : GEw V V' w) (d : Nat) : hoursN V' w d = hoursN V w d := by
  unfold hoursN nv
  rw [hoursR_c ho h, ho.2.2.2.2.1]
theorem fallR_c (ho : GEo V V') (h : GEw V V' w) (hl : V' 38 = V 38) (n d : Nat) : fallR V' w d n = fallR V w d n := by
  induction n generalizing d with
  | zero => rfl
  | succ n ih =>
    rw [fallR, fallR, hoursN_c ho h, ih]
    unfold nv
    rw [hl]
theorem fallI_c (ho : GEo V V') (h : GEw V V' w) (hl : V' 38 = V 38) : fallI V' w = fallI V w := fallR_c ho h hl 8 0
end CONGR
theorem fallR_cases (V : St) (w : Nat) : ∀ n d, fallR V w d n = -9 ∨ ∃ e, e < d + n ∧ fallR V w d n = nI e := by
  intro n
  induction n with
  | zero => intro d; exact Or.inl rfl
  | succ n ih =>
    intro d
    rw [fallR]
    split
    · rcases ih (d + 1) with h | ⟨e, h1, h2⟩
      · exact Or.inl h
      · exact Or.inr ⟨e, by omega, h2⟩
    · split
      · exact Or.inr ⟨d, by omega, rfl⟩
      · rcases ih (d + 1) with h | ⟨e, h1, h2⟩
        · exact Or.inl h
        · exact Or.inr ⟨e, by omega, h2⟩
theorem fallI_cases (V : St) (w : Nat) : fallI V w = -9 ∨ ∃ e, e < 8 ∧ fallI V w = nI e := by
  rcases fallR_cases V w 8 0 with h | ⟨e, h1, h2⟩
  · exact Or.inl h
  · exact Or.inr ⟨e, by omega, h2⟩
/-! ===== thought ===== -/
def thk (V : St) (b : Int32) (t : Int32) : St := wr (wr V 33 29 b) 33 30 t
theorem thk_at (V : St) (b t : Int32) (k i : Nat) (h : ¬ (k = 33 ∧ (i = 29 ∨ i = 30))) : thk V b t k i = V k i := by
  unfold thk
  rw [wr_at, wr_at, if_neg (by omega), if_neg (by omega)]
theorem thk_nv (V : St) (b t : Int32) (k i : Nat) (h : ¬ (k = 33 ∧ (i = 29 ∨ i = 30))) : nv (thk V b t) k i = nv V k i := by
  unfold nv
  rw [thk_at V b t k i h]
theorem thk_WF {V : St} (hF : WF V) (b : Int32) {t : Nat} (ht : t ≤ 200) : WF (thk V b (nI t)) := by
  obtain ⟨hI, hW, hG⟩ := hF
  refine ⟨fun k i hn => ?_, fun w => ?_, fun k => ?_, fun d m hd hm => ?_⟩
  · by_cases h : k = 33 ∧ (i = 29 ∨ i = 30)
    · obtain ⟨rfl, rfl | rfl⟩ := h
      · cases hn
      · have e : thk V b (nI t) 33 30 = nI t := by unfold thk; rw [wr_at, if_pos ⟨rfl, rfl⟩]
        have e2 : nv (thk V b (nI t)) 33 30 = t := by unfold nv; rw [e]; exact nI_clamp (by omega)
        rw [e, e2]
        exact ⟨rfl, ht⟩
    · rw [thk_nv V b _ k i h, thk_at V b _ k i h]
      exact hI k i hn
  · have := hW w
    simp only [cls, thk_nv V b (nI t) 52 w (by omega), thk_nv V b (nI t) 53 w (by omega), thk_nv V b (nI t) 54 w (by omega), thk_nv V b (nI t) 55 w (by omega), thk_nv V b (nI t) 33 19 (by omega)]
    exact this
  · rw [thk_at V b _ 35 k (by omega), thk_at V b _ 36 k (by omega)]
    exact hG.1 k
  · rw [thk_nv V b _ 34 d (by omega)] at hm
    rw [thk_nv V b _ 37 _ (by omega)]
    exact hG.2 d m hd hm
theorem thk_back {V : St} (h1 : V 33 29 = -1) (h2 : V 33 30 = nI 0) (b t : Int32) : thk (thk V b t) (-1) (nI 0) = V := by
  funext k i
  unfold thk
  rw [wr_at, wr_at, wr_at, wr_at]
  by_cases e1 : k = 33 ∧ i = 30
  · rw [if_pos e1, e1.1, e1.2, h2]
  · rw [if_neg e1]
    by_cases e2 : k = 33 ∧ i = 29
    · rw [if_pos e2, e2.1, e2.2, h1]
    · rw [if_neg e2, if_neg e1, if_neg e2]
