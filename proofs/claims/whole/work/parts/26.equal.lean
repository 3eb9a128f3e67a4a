/-! ===== what is gathered gives what the reference counts ===== -/
def PL (V : St) (p : Int32) (t : Nat) (U : St) : Prop := (p = -9 ∧ t = 0 ∧ U = V) ∨ ∃ b0, b0 < nv V 33 7 ∧ p = nI b0 ∧ nv V 39 b0 = 3 ∧ nv V 49 b0 = 0 ∧ nv V 48 b0 = 0 ∧ t ≤ 200 ∧ U = thk V (nI b0) (nI t)
theorem nI_inj {a b : Nat} (ha : a < 2 ^ 31) (hb : b < 2 ^ 31) : nI a = nI b ↔ a = b := nI_eq ha hb
theorem nI_ne_neg {b : Nat} (hb : b < 2 ^ 31) : ¬ nI b = -1 ∧ ¬ nI b = -9 := by
  constructor
  · intro h
    have : (nI b).toInt = (-1 : Int32).toInt := by rw [h]
    rw [nI_toInt hb] at this
    have e : (-1 : Int32).toInt = -1 := rfl
    omega
  · intro h
    have : (nI b).toInt = (-9 : Int32).toInt := by rw [h]
    rw [nI_toInt hb] at this
    have e : (-9 : Int32).toInt = -9 := rfl
    omega
theorem pl_t200 {V U : St} {p : Int32} {t : Nat} (h : PL V p t U) : t ≤ 200 := by
  rcases h with ⟨-, h, -⟩ | ⟨b0, -, -, -, -, -, h, -⟩ <;> omega
theorem pl_nv {V U : St} {p : Int32} {t : Nat} (h : PL V p t U) (k i : Nat) (hk : ¬ k = 33) : nv U k i = nv V k i := by
  rcases h with ⟨-, -, rfl⟩ | ⟨b0, -, -, -, -, -, -, rfl⟩
  · rfl
  · exact thk_nv V _ _ k i (by omega)
theorem pl_at {V U : St} {p : Int32} {t : Nat} (h : PL V p t U) (k i : Nat) (hk : ¬ k = 33) : U k i = V k i := by
  rcases h with ⟨-, -, rfl⟩ | ⟨b0, -, -, -, -, -, -, rfl⟩
  · rfl
  · exact thk_at V _ _ k i (by omega)
theorem pl_f {V U : St} {p : Int32} {t : Nat} (h : PL V p t U) (i : Nat) (hi : ¬ i = 29) (hi2 : ¬ i = 30) : U 33 i = V 33 i := by
  rcases h with ⟨-, -, rfl⟩ | ⟨b0, -, -, -, -, -, -, rfl⟩
  · rfl
  · exact thk_at V _ _ 33 i (by omega)
theorem pl_geo {V U : St} {p : Int32} {t : Nat} (h : PL V p t U) (w c k b x : Nat) : hitn U w c k b x = hitn V w c k b x ∧ lowP U w c k b x = lowP V w c k b x ∧ front U w k = front V w k ∧ cls U w = cls V w := by
  rcases h with ⟨-, -, rfl⟩ | ⟨b0, -, -, -, -, -, -, rfl⟩ <;> exact ⟨rfl, rfl, rfl, rfl⟩
theorem pl_top {V U : St} {p : Int32} {t : Nat} (hG : GOOD V) (h : PL V p t U) (b : Nat) (hb : b < nv V 33 7) : topT U b = topP V p t b := by
  have hnb := bd hG.1.1 33 7 40 rfl rfl
  obtain ⟨n1, n2⟩ := nI_ne_neg (b := b) (by omega)
  rcases h with ⟨rfl, rfl, rfl⟩ | ⟨b0, h1, rfl, -, -, -, ht, rfl⟩
  · unfold topT topP
    rw [hG.2.th.1, if_neg n1, if_neg n2]
  · unfold topT topP
    have e1 : thk V (nI b0) (nI t) 33 29 = nI b0 := by unfold thk; rw [wr_at, if_neg (by omega), wr_at, if_pos ⟨rfl, rfl⟩]
    have e2 : nv (thk V (nI b0) (nI t)) 33 30 = t := by
      show (thk V (nI b0) (nI t) 33 30).toNatClampNeg = t
      unfold thk
      rw [wr_at, if_pos ⟨rfl, rfl⟩]
      exact nI_clamp (by omega)
    rw [e1, e2, thk_nv V _ _ 45 b (by omega)]
theorem pl_opq {V U : St} {p : Int32} {t : Nat} (hG : GOOD V) (h : PL V p t U) (d b : Nat) (hd : d < 8) (hb : b < nv V 33 7) : opq U d b = opqP V p d b := by
  have hnb := bd hG.1.1 33 7 40 rfl rfl
  obtain ⟨n1, n2⟩ := nI_ne_neg (b := b) (by omega)
  have ht := hG.2.thr b d hd
  have hr := hG.2.ther b hb
  have b48 := bd hG.1.1 48 b 1 rfl rfl
  have b47 := bd hG.1.1 47 (8 * b + d) 8 rfl rfl
  have key : ∀ x : Nat, opqP V p d b = (if nI b = p then (if nv V 9 (b * 8 + d) < 8 then 1 else 0) else if nv V 10 b = 0 then 0 else if nv V 9 (b * 8 + d) < 8 then 1 else 0) := fun _ => rfl
  rw [key 0, ht, hr]
  have hx : opq U d b = if nv V 39 b = 2 then 0 else if (if nv V 49 b = 0 then (if nv V 39 b = 3 then (if nv V 48 b = 0 then (if nI b = U 33 29 then 1 else 0) else 1) else 1) else 0) = 0 then 0 else if nv V 39 b = 1 then (if nv V 47 (8 * b + d) < 8 then 1 else 0) else 1 := by
    unfold opq there
    rw [pl_nv h 39 b (by decide), pl_nv h 47 _ (by decide), pl_nv h 48 b (by decide), pl_nv h 49 b (by decide)]
  rw [hx]
  rcases h with ⟨rfl, rfl, rfl⟩ | ⟨b0, h1, rfl, h2, h3, h4, ht2, rfl⟩
  · rw [hG.2.th.1, if_neg n2]
    simp only [n1, if_false]
    (repeat' split)
    all_goals first | rfl | omega | contradiction
  · have e1 : thk V (nI b0) (nI t) 33 29 = nI b0 := by unfold thk; rw [wr_at, if_neg (by omega), wr_at, if_pos ⟨rfl, rfl⟩]
    rw [e1]
    by_cases hbb : b = b0
    · subst hbb
      simp [h2, h3, h4]
    · have hne : ¬ nI b = nI b0 := fun e => hbb ((nI_inj (by omega) (by omega)).mp e)
      rw [if_neg hne]
      simp only [hne, if_false]
      (repeat' split)
      all_goals first | rfl | omega | contradiction
theorem la_eq {V U : St} {p : Int32} {t : Nat} (hG : GOOD V) (h : PL V p t U) {w c d k : Nat} (hd : d < 8) {A : Nat → Nat} (hA : ∀ b, b < nv V 33 7 → hitn V w c k b (topP V p t b) = 1 → A b = 1) : ∀ b, b ≤ nv V 33 7 → (sel V p d A b).foldl (laf V p t w c d k) 4096 = lightR U w c d k b := by
  intro b
  induction b with
  | zero => intro _; rfl
  | succ b ih =>
    intro hb
    have ih := ih (by omega)
    have hop := pl_opq hG h d b hd (by omega)
    have htp := pl_top hG h b (by omega)
    have hh := hA b (by omega)
    have hle := hitn_le V w c k b (topP V p t b)
    show _ = lightS U w c d k b (lightR U w c d k b)
    unfold lightS
    rw [hop, htp, (pl_geo h w c k b _).1, pl_nv h 39 b (by decide), pl_nv h 47 _ (by decide), ← ih, sel]
    by_cases h0 : opqP V p d b = 0
    · rw [if_pos h0, if_pos h0]
    · rw [if_neg h0, if_neg h0]
      by_cases h1 : A b = 0
      · rw [if_pos h1, if_pos (by omega)]
      · rw [if_neg h1, List.foldl_append]
        show laf V p t w c d k _ b = _
        unfold laf
        by_cases h2 : hitn V w c k b (topP V p t b) = 0
        · rw [if_pos h2, if_pos h2]
        · rw [if_neg h2, if_neg h2, hG.2.thr b d hd]
          by_cases h3 : nv V 39 b = 1
          · rw [if_pos h3, if_pos h3]
          · rw [if_neg h3, if_neg h3]
            have h4 : ¬ nv V 39 b = 2 := by
              intro e
              have : opq U d b = 0 := by unfold opq; rw [pl_nv h 39 b (by decide), if_pos e]
              omega
            rw [if_neg h4, Nat.mul_zero]
theorem ne_eq {V U : St} {p : Int32} {t : Nat} (hG : GOOD V) (h : PL V p t U) {w c d k : Nat} (hd : d < 8) {A : Nat → Nat} (hA : ∀ b, b < nv V 33 7 → hitn V w c k b (topP V p t b) = 1 → A b = 1) : ∀ b, b ≤ nv V 33 7 → (sel V p d A b).foldl (nef V p t w c k) none = takR U w c d k b := by
  intro b
  induction b with
  | zero => intro _; rfl
  | succ b ih =>
    intro hb
    have ih := ih (by omega)
    have hop := pl_opq hG h d b hd (by omega)
    have htp := pl_top hG h b (by omega)
    have hh := hA b (by omega)
    have hle := hitn_le V w c k b (topP V p t b)
    have e1 : takR U w c d k (b + 1) = takS U w c d k b (takR U w c d k b) := rfl
    rw [e1, sel]
    by_cases h0 : opqP V p d b = 0
    · rw [if_pos h0, ih]
      exact (if_pos (by rw [hop]; exact h0)).symm
    · rw [if_neg h0]
      by_cases h1 : A b = 0
      · rw [if_pos h1, ih]
        exact ((if_neg (by rw [hop]; exact h0)).trans (if_pos (by rw [htp, (pl_geo h w c k b _).1]; omega))).symm
      · rw [if_neg h1, List.foldl_append, ih]
        show nef V p t w c k (takR U w c d k b) b = _
        by_cases h2 : hitn V w c k b (topP V p t b) = 0
        · rw [nef_0 h2]
          exact ((if_neg (by rw [hop]; exact h0)).trans (if_pos (by rw [htp, (pl_geo h w c k b _).1]; exact h2))).symm
        · have h3 : takS U w c d k b (takR U w c d k b) = match takR U w c d k b with
              | none => some b
              | some a => if near U w c k b a = 0 then some a else some b := (if_neg (by rw [hop]; exact h0)).trans (if_neg (by rw [htp, (pl_geo h w c k b _).1]; exact h2))
          rw [h3]
          cases ho : takR U w c d k b with
          | none => exact nef_n h2
          | some a =>
            have hab := takR_lt ho
            rw [nef_s h2]
            have : nearP V p t w c k b a = near U w c k b a := by
              unfold nearP near
              rw [htp, pl_top hG h a (by omega), (pl_geo h w c k b _).2.1, (pl_geo h w c k a _).2.1]
            rw [this]
theorem laI_all {V : St} {p : Int32} {t w c d k : Nat} (l : List Nat) : laI V p t w c d k l l.length = l.foldl (laf V p t w c d k) 4096 := by
  unfold laI
  rw [List.take_length]
theorem neI_all {V : St} {p : Int32} {t w c k : Nat} (l : List Nat) : neI V p t w c k l l.length = l.foldl (nef V p t w c k) none := by
  unfold neI
  rw [List.take_length]
theorem pl_WF {V U : St} {p : Int32} {t : Nat} (hG : GOOD V) (h : PL V p t U) : WF U := by
  rcases h with ⟨-, -, rfl⟩ | ⟨b0, -, -, -, -, -, ht, rfl⟩
  · exact hG.1
  · exact thk_WF hG.1 _ ht
