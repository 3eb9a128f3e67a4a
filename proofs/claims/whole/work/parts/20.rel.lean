/-! ===== the class's rows beside the reference's ===== -/
def REL (V : St) : Prop :=
  (V 0 8 = V 33 5 ∧ V 0 9 = V 33 6 ∧ V 4 0 = V 33 7 ∧ V 12 0 = V 33 19) ∧
  (V 2 = V 34 ∧ V 30 = V 38 ∧ V 31 = V 58) ∧
  (∀ i, V 3 (i * 3) = V 35 i ∧ V 3 (i * 3 + 1) = V 36 i ∧ V 3 (i * 3 + 2) = V 37 i) ∧
  (V 5 = V 39 ∧ V 8 = V 46 ∧ V 11 = V 49) ∧
  (∀ b, V 6 (b * 3) = V 40 b ∧ V 6 (b * 3 + 1) = V 42 b ∧ V 6 (b * 3 + 2) = V 44 b ∧ V 7 (b * 3) = V 41 b ∧ V 7 (b * 3 + 1) = V 43 b ∧ V 7 (b * 3 + 2) = V 45 b) ∧
  (∀ b d, d < 8 → nv V 9 (b * 8 + d) = if nv V 39 b = 1 then nv V 47 (8 * b + d) else if nv V 39 b = 2 then 8 else 0) ∧
  (∀ b, b < nv V 33 7 → nv V 10 b = if nv V 49 b = 0 then (if nv V 39 b = 3 then nv V 48 b else 1) else 0) ∧
  (V 13 = V 50 ∧ V 15 = V 51 ∧ V 16 = V 52 ∧ V 17 = V 54 ∧ V 20 = V 56 ∧ V 21 = V 57) ∧
  (∀ w, nv V 14 w = (if nv V 50 w < 2 then 0 else 1) ∧ nv V 18 w = nv V 53 w - nv V 52 w ∧ nv V 19 w = nv V 55 w - nv V 54 w) ∧
  (∀ b, nv V 33 7 ≤ b → nv V 48 b = 0 ∧ nv V 49 b = 0 ∧ ∀ d, d < 8 → nv V 47 (8 * b + d) = 0) ∧
  (V 33 29 = -1 ∧ V 33 30 = nI 0)
section REL
variable {V : St}
theorem REL.part (h : REL V) : nv V 0 8 = nv V 33 5 := congrArg Int32.toNatClampNeg h.1.1
theorem REL.year (h : REL V) : nv V 0 9 = nv V 33 6 := congrArg Int32.toNatClampNeg h.1.2.1
theorem REL.nb (h : REL V) : nv V 4 0 = nv V 33 7 := congrArg Int32.toNatClampNeg h.1.2.2.1
theorem REL.nw (h : REL V) : nv V 12 0 = nv V 33 19 := congrArg Int32.toNatClampNeg h.1.2.2.2
theorem REL.mn (h : REL V) (d : Nat) : nv V 2 d = nv V 34 d := by unfold nv; rw [h.2.1.1]
theorem REL.law (h : REL V) (d : Nat) : nv V 30 d = nv V 38 d := by unfold nv; rw [h.2.1.2.1]
theorem REL.rfs (h : REL V) : V 31 = V 58 := h.2.1.2.2
theorem REL.way (h : REL V) (i : Nat) : V 3 (i * 3) = V 35 i ∧ V 3 (i * 3 + 1) = V 36 i ∧ V 3 (i * 3 + 2) = V 37 i := h.2.2.1 i
theorem REL.kind (h : REL V) (b : Nat) : nv V 5 b = nv V 39 b := by unfold nv; rw [h.2.2.2.1.1]
theorem REL.most (h : REL V) (b : Nat) : nv V 8 b = nv V 46 b := by unfold nv; rw [h.2.2.2.1.2.1]
theorem REL.gone (h : REL V) (b : Nat) : nv V 11 b = nv V 49 b := by unfold nv; rw [h.2.2.2.1.2.2]
theorem REL.box (h : REL V) (b : Nat) : nv V 6 (b * 3) = nv V 40 b ∧ nv V 6 (b * 3 + 1) = nv V 42 b ∧ nv V 6 (b * 3 + 2) = nv V 44 b ∧ nv V 7 (b * 3) = nv V 41 b ∧ nv V 7 (b * 3 + 1) = nv V 43 b ∧ nv V 7 (b * 3 + 2) = nv V 45 b := by
  obtain ⟨h1, h2, h3, h4, h5, h6⟩ := h.2.2.2.2.1 b
  unfold nv
  rw [h1, h2, h3, h4, h5, h6]
  simp
theorem REL.thr (h : REL V) (b d : Nat) (hd : d < 8) : nv V 9 (b * 8 + d) = if nv V 39 b = 1 then nv V 47 (8 * b + d) else if nv V 39 b = 2 then 8 else 0 := h.2.2.2.2.2.1 b d hd
theorem REL.ther (h : REL V) (b : Nat) (hb : b < nv V 33 7) : nv V 10 b = if nv V 49 b = 0 then (if nv V 39 b = 3 then nv V 48 b else 1) else 0 := h.2.2.2.2.2.2.1 b hb
theorem REL.win (h : REL V) (w : Nat) : nv V 13 w = nv V 50 w ∧ nv V 15 w = nv V 51 w ∧ nv V 16 w = nv V 52 w ∧ nv V 17 w = nv V 54 w ∧ V 20 w = V 56 w ∧ nv V 21 w = nv V 57 w := by
  obtain ⟨h1, h2, h3, h4, h5, h6⟩ := h.2.2.2.2.2.2.2.1
  unfold nv
  rw [h1, h2, h3, h4, h5, h6]
  simp
theorem REL.wall (h : REL V) (w : Nat) : nv V 14 w = (if nv V 50 w < 2 then 0 else 1) ∧ nv V 18 w = nv V 53 w - nv V 52 w ∧ nv V 19 w = nv V 55 w - nv V 54 w := h.2.2.2.2.2.2.2.2.1 w
theorem REL.free (h : REL V) (b : Nat) (hb : nv V 33 7 ≤ b) : nv V 48 b = 0 ∧ nv V 49 b = 0 ∧ ∀ d, d < 8 → nv V 47 (8 * b + d) = 0 := h.2.2.2.2.2.2.2.2.2.1 b hb
theorem REL.th (h : REL V) : V 33 29 = -1 ∧ V 33 30 = nI 0 := h.2.2.2.2.2.2.2.2.2.2
end REL
def GOOD (V : St) : Prop := WF V ∧ REL V
