/-! ===== meets in whole numbers ===== -/
def eF (y lo hi sl sm : Int) : Int := if y ≤ 0 then sl - hi else lo - sm
def lF (y lo hi sl sm : Int) : Int := if y ≤ 0 then sm - lo else hi - sl
def oF (y lo hi sl sm : Int) : Nat := if y = 0 then (if sm ≤ lo then 1 else if sl < hi then 0 else 1) else 0
def qL (y e : Nat → Int) : Nat → Int × Int
  | 0 => (0, 1)
  | n + 1 => if y n = 0 then qL y e n else if e n * (qL y e n).2 ≤ (qL y e n).1 * zUn (y n) then qL y e n else (e n, zUn (y n))
def qH (y l : Nat → Int) : Nat → Int × Int
  | 0 => (1, 0)
  | n + 1 => if y n = 0 then qH y l n else if (qH y l n).2 = 0 then (l n, zUn (y n)) else if (qH y l n).1 * zUn (y n) ≤ l n * (qH y l n).2 then qH y l n else (l n, zUn (y n))
theorem zUn_pos {y : Int} (h : y ≠ 0) : 0 < zUn y := by
  unfold zUn
  split <;> omega
theorem fr1 {p1 p2 e u q1 q2 : Int} (hp : 0 < p2) (hu : 0 < u) (hq : 0 < q2) (h1 : e * p2 ≤ p1 * u) (h2 : p1 * q2 < q1 * p2) : e * q2 < q1 * u := by
  have a1 := Int.mul_le_mul_of_nonneg_right h1 (Int.le_of_lt hq)
  have a2 := Int.mul_lt_mul_of_pos_right h2 hu
  refine Int.lt_of_mul_lt_mul_right (a := p2) ?_ (Int.le_of_lt hp)
  have e1 : e * q2 * p2 = e * p2 * q2 := by ac_rfl
  have e2 : q1 * u * p2 = q1 * p2 * u := by ac_rfl
  have e3 : p1 * u * q2 = p1 * q2 * u := by ac_rfl
  rw [e1, e2]
  omega
theorem fr2 {p1 p2 e u q1 q2 : Int} (hp : 0 < p2) (hu : 0 < u) (hq : 0 < q2) (h1 : ¬ e * p2 ≤ p1 * u) (h2 : e * q2 < q1 * u) : p1 * q2 < q1 * p2 := by
  have a1 := Int.mul_lt_mul_of_pos_right (Int.not_le.mp h1) hq
  have a2 := Int.mul_lt_mul_of_pos_right h2 hp
  refine Int.lt_of_mul_lt_mul_right (a := u) ?_ (Int.le_of_lt hu)
  have e1 : p1 * q2 * u = p1 * u * q2 := by ac_rfl
  have e2 : q1 * p2 * u = q1 * u * p2 := by ac_rfl
  have e3 : e * p2 * q2 = e * q2 * p2 := by ac_rfl
  rw [e1, e2]
  omega
theorem fr3 {p1 p2 l v h1 h2 : Int} (hp : 0 < p2) (hv : 0 < v) (hh : 0 < h2) (a : h1 * v ≤ l * h2) (b : p1 * h2 < h1 * p2) : p1 * v < l * p2 := by
  have a1 := Int.mul_le_mul_of_nonneg_right a (Int.le_of_lt hp)
  have a2 := Int.mul_lt_mul_of_pos_right b hv
  refine Int.lt_of_mul_lt_mul_right (a := h2) ?_ (Int.le_of_lt hh)
  have e1 : p1 * v * h2 = p1 * h2 * v := by ac_rfl
  have e2 : l * p2 * h2 = l * h2 * p2 := by ac_rfl
  have e3 : h1 * v * p2 = h1 * p2 * v := by ac_rfl
  rw [e1, e2]
  omega
theorem fr4 {p1 p2 l v h1 h2 : Int} (hp : 0 < p2) (hv : 0 < v) (hh : 0 < h2) (a : ¬ h1 * v ≤ l * h2) (b : p1 * v < l * p2) : p1 * h2 < h1 * p2 := by
  have a1 := Int.mul_lt_mul_of_pos_right (Int.not_le.mp a) hp
  have a2 := Int.mul_lt_mul_of_pos_right b hh
  refine Int.lt_of_mul_lt_mul_right (a := v) ?_ (Int.le_of_lt hv)
  have e1 : p1 * h2 * v = p1 * v * h2 := by ac_rfl
  have e2 : h1 * p2 * v = h1 * v * p2 := by ac_rfl
  have e3 : l * h2 * p2 = l * p2 * h2 := by ac_rfl
  rw [e1, e2]
  omega
theorem qL_pos (y e : Nat → Int) : ∀ n, 0 < (qL y e n).2 := by
  intro n
  induction n with
  | zero =>
    show (0 : Int) < 1
    decide
  | succ n ih =>
    rw [qL]
    split
    · exact ih
    · rename_i hy
      split
      · exact ih
      · exact zUn_pos hy
theorem qL_lt (y e : Nat → Int) {q1 q2 : Int} (hq : 0 < q2) : ∀ n, (qL y e n).1 * q2 < q1 * (qL y e n).2 ↔ 0 < q1 ∧ ∀ a, a < n → y a ≠ 0 → e a * q2 < q1 * zUn (y a) := by
  intro n
  induction n with
  | zero =>
    show 0 * q2 < q1 * 1 ↔ _
    rw [Int.zero_mul, Int.mul_one]
    exact ⟨fun h => ⟨h, fun a ha => by omega⟩, fun h => h.1⟩
  | succ n ih =>
    have hp := qL_pos y e n
    have step : ∀ P : Prop, (P ↔ ((qL y e n).1 * q2 < q1 * (qL y e n).2 ∧ (y n ≠ 0 → e n * q2 < q1 * zUn (y n)))) → (P ↔ 0 < q1 ∧ ∀ a, a < n + 1 → y a ≠ 0 → e a * q2 < q1 * zUn (y a)) := by
      intro P hP
      rw [hP, ih]
      constructor
      · rintro ⟨⟨h0, h1⟩, h2⟩
        refine ⟨h0, fun a ha => ?_⟩
        by_cases e0 : a = n
        · subst e0; exact h2
        · exact h1 a (by omega)
      · rintro ⟨h0, h1⟩
        exact ⟨⟨h0, fun a ha => h1 a (by omega)⟩, h1 n (by omega)⟩
    apply step
    rw [qL]
    by_cases hy : y n = 0
    · rw [if_pos hy]
      exact ⟨fun h => ⟨h, fun h2 => absurd hy h2⟩, fun h => h.1⟩
    · rw [if_neg hy]
      have hu := zUn_pos hy
      by_cases hc : e n * (qL y e n).2 ≤ (qL y e n).1 * zUn (y n)
      · rw [if_pos hc]
        exact ⟨fun h => ⟨h, fun _ => fr1 hp hu hq hc h⟩, fun h => h.1⟩
      · rw [if_neg hc]
        exact ⟨fun h => ⟨fr2 hp hu hq hc h, fun _ => h⟩, fun h => h.2 hy⟩
theorem qH_pos (y l : Nat → Int) : ∀ n, 0 ≤ (qH y l n).2 := by
  intro n
  induction n with
  | zero =>
    show (0 : Int) ≤ 0
    decide
  | succ n ih =>
    rw [qH]
    split
    · exact ih
    · rename_i hy
      split
      · exact Int.le_of_lt (zUn_pos hy)
      · split
        · exact ih
        · exact Int.le_of_lt (zUn_pos hy)
theorem qH_0 (y l : Nat → Int) : ∀ n, (qH y l n).2 = 0 → (qH y l n) = (1, 0) ∧ ∀ a, a < n → y a = 0 := by
  intro n
  induction n with
  | zero => intro _; exact ⟨rfl, fun a ha => by omega⟩
  | succ n ih =>
    intro h
    rw [qH] at h ⊢
    by_cases hy : y n = 0
    · rw [if_pos hy] at h ⊢
      obtain ⟨h1, h2⟩ := ih h
      refine ⟨h1, fun a ha => ?_⟩
      by_cases e0 : a = n
      · subst e0; exact hy
      · exact h2 a (by omega)
    · exfalso
      have hu := zUn_pos hy
      rw [if_neg hy] at h
      by_cases h2 : (qH y l n).2 = 0
      · rw [if_pos h2] at h
        have h' : zUn (y n) = 0 := h
        omega
      · rw [if_neg h2] at h
        split at h
        · exact h2 h
        · have h' : zUn (y n) = 0 := h
          omega
theorem qH_lt (y l : Nat → Int) {p1 p2 : Int} (hp : 0 < p2) : ∀ n, p1 * (qH y l n).2 < (qH y l n).1 * p2 ↔ ∀ a, a < n → y a ≠ 0 → p1 * zUn (y a) < l a * p2 := by
  intro n
  induction n with
  | zero =>
    show p1 * 0 < 1 * p2 ↔ _
    rw [Int.mul_zero, Int.one_mul]
    exact ⟨fun _ a ha => by omega, fun _ => hp⟩
  | succ n ih =>
    have step : ∀ P : Prop, (P ↔ (p1 * (qH y l n).2 < (qH y l n).1 * p2 ∧ (y n ≠ 0 → p1 * zUn (y n) < l n * p2))) → (P ↔ ∀ a, a < n + 1 → y a ≠ 0 → p1 * zUn (y a) < l a * p2) := by
      intro P hP
      rw [hP, ih]
      constructor
      · rintro ⟨h1, h2⟩ a ha
        by_cases e0 : a = n
        · subst e0; exact h2
        · exact h1 a (by omega)
      · intro h1
        exact ⟨fun a ha => h1 a (by omega), h1 n (by omega)⟩
    apply step
    rw [qH]
    by_cases hy : y n = 0
    · rw [if_pos hy]
      exact ⟨fun h => ⟨h, fun h2 => absurd hy h2⟩, fun h => h.1⟩
    · rw [if_neg hy]
      have hu := zUn_pos hy
      by_cases h2 : (qH y l n).2 = 0
      · rw [if_pos h2]
        obtain ⟨h3, -⟩ := qH_0 y l n h2
        rw [h3]
        show p1 * zUn (y n) < l n * p2 ↔ p1 * 0 < 1 * p2 ∧ _
        rw [Int.mul_zero, Int.one_mul]
        exact ⟨fun h => ⟨hp, fun _ => h⟩, fun h => h.2 hy⟩
      · rw [if_neg h2]
        have hh : 0 < (qH y l n).2 := by have := qH_pos y l n; omega
        by_cases hc : (qH y l n).1 * zUn (y n) ≤ l n * (qH y l n).2
        · rw [if_pos hc]
          exact ⟨fun h => ⟨h, fun _ => fr3 hp hu hh hc h⟩, fun h => h.1⟩
        · rw [if_neg hc]
          exact ⟨fun h => ⟨fr4 hp hu hh hc h, fun _ => h⟩, fun h => h.2 hy⟩
/-- each entering is before each leaving -/
def CH (y e l : Nat → Int) : Prop := ∀ a, a < 3 → y a ≠ 0 → 0 < l a ∧ ∀ b, b < 3 → y b ≠ 0 → e b * zUn (y a) < l a * zUn (y b)
theorem ch_iff (y e l : Nat → Int) : (qL y e 3).1 * (qH y l 3).2 < (qH y l 3).1 * (qL y e 3).2 ↔ CH y e l := by
  rw [qH_lt y l (qL_pos y e 3) 3]
  unfold CH
  constructor
  · intro h a ha hy
    exact (qL_lt y e (zUn_pos hy) 3).mp (h a ha hy)
  · intro h a ha hy
    exact (qL_lt y e (zUn_pos hy) 3).mpr (h a ha hy)
theorem CH.mono {y e l e' l' : Nat → Int} (h : CH y e l) (he : ∀ a, a < 3 → y a ≠ 0 → e' a ≤ e a) (hl : ∀ a, a < 3 → y a ≠ 0 → l a ≤ l' a) : CH y e' l' := by
  intro a ha hy
  obtain ⟨h1, h2⟩ := h a ha hy
  have hla := hl a ha hy
  refine ⟨by omega, fun b hb hyb => ?_⟩
  have a1 := Int.mul_le_mul_of_nonneg_right (he b hb hyb) (Int.le_of_lt (zUn_pos hy))
  have a2 := Int.mul_le_mul_of_nonneg_right hla (Int.le_of_lt (zUn_pos hyb))
  have a3 := h2 b hb hyb
  omega
/-- the axes of a POINT, a WINDOW, a BLOCK, a way -/
def axS (V : St) (w c a : Nat) : Nat := if a = 0 then ptX V w c else if a = 1 then ptY V w c else ptZ V w c
def axLo (V : St) (b a : Nat) : Nat := 2 * (if a = 0 then nv V 40 b else if a = 1 then nv V 42 b else nv V 44 b)
def axHi (V : St) (b t a : Nat) : Nat := 2 * (if a = 0 then nv V 41 b else if a = 1 then nv V 43 b else t)
def axY (V : St) (k a : Nat) : Int := if a = 0 then (V 35 k).toInt else if a = 1 then (V 36 k).toInt else nv V 37 k
def axE (V : St) (k b t : Nat) (sl sm : Nat → Nat) (a : Nat) : Int := eF (axY V k a) (axLo V b a) (axHi V b t a) (sl a) (sm a)
def axL (V : St) (k b t : Nat) (sl sm : Nat → Nat) (a : Nat) : Int := lF (axY V k a) (axLo V b a) (axHi V b t a) (sl a) (sm a)
def axO (V : St) (k b t : Nat) (sl sm : Nat → Nat) (a : Nat) : Nat := oF (axY V k a) (axLo V b a) (axHi V b t a) (sl a) (sm a)
theorem qL_z (F1 Y1 A1 B1 F2 Y2 A2 B2 F3 Y3 A3 B3 : Int) (y e : Nat → Int) (h1 : y 0 = Y1) (h2 : y 1 = Y2) (h3 : y 2 = Y3) (e1 : e 0 = zFi F1 Y1 A1 B1) (e2 : e 1 = zFi F2 Y2 A2 B2) (e3 : e 2 = zFi F3 Y3 A3 B3) : zL3 1 F1 Y1 A1 B1 F2 Y2 A2 B2 F3 Y3 A3 B3 = qL y e 3 := by
  unfold zL3
  have s : ∀ F Y A B p, zLow 1 F Y A B p = if Y = 0 then p else if zFi F Y A B * p.2 ≤ p.1 * zUn Y then p else (zFi F Y A B, zUn Y) := by
    intro F Y A B p
    rw [zLow, Int.one_mul]
  rw [s, s, s, qL, qL, qL, h1, h2, h3, e1, e2, e3]
  rfl
theorem qH_z (F1 Y1 A1 B1 F2 Y2 A2 B2 F3 Y3 A3 B3 : Int) (y l : Nat → Int) (h1 : y 0 = Y1) (h2 : y 1 = Y2) (h3 : y 2 = Y3) (e1 : l 0 = zLa F1 Y1 A1 B1) (e2 : l 1 = zLa F2 Y2 A2 B2) (e3 : l 2 = zLa F3 Y3 A3 B3) : zH3 1 F1 Y1 A1 B1 F2 Y2 A2 B2 F3 Y3 A3 B3 = qH y l 3 := by
  unfold zH3
  have s : ∀ F Y A B p, zHigh 1 F Y A B p = if Y = 0 then p else if p.2 = 0 then (zLa F Y A B, zUn Y) else if p.1 * zUn Y ≤ zLa F Y A B * p.2 then p else (zLa F Y A B, zUn Y) := by
    intro F Y A B p
    rw [zHigh, Int.one_mul]
  rw [s, s, s, qH, qH, qH, h1, h2, h3, e1, e2, e3]
  rfl
theorem lowP_q (V : St) (w c k b t : Nat) : lowP V w c k b t = qL (axY V k) (axE V k b t (axS V w c) (axS V w c)) 3 := qL_z _ _ _ _ _ _ _ _ _ _ _ _ _ _ rfl rfl rfl rfl rfl rfl
theorem highP_q (V : St) (w c k b t : Nat) : highP V w c k b t = qH (axY V k) (axL V k b t (axS V w c) (axS V w c)) 3 := qH_z _ _ _ _ _ _ _ _ _ _ _ _ _ _ rfl rfl rfl rfl rfl rfl
theorem outn_o (f y a b : Int) : outn f y a b = oF y a b f f := by
  unfold outn oF
  by_cases h : y = 0
  · rw [if_pos h, if_pos h]
    by_cases h1 : f ≤ a
    · rw [if_pos h1, if_pos h1]
    · rw [if_neg h1, if_neg h1]
      by_cases h2 : b ≤ f
      · rw [if_pos h2, if_neg (by omega)]
      · rw [if_neg h2, if_pos (by omega)]
  · rw [if_neg h, if_neg h]
theorem hitn_iff (V : St) (w c k b t : Nat) : hitn V w c k b t = 1 ↔ (∀ a, a < 3 → axO V k b t (axS V w c) (axS V w c) a = 0) ∧ CH (axY V k) (axE V k b t (axS V w c) (axS V w c)) (axL V k b t (axS V w c) (axS V w c)) := by
  rw [← ch_iff, ← lowP_q, ← highP_q]
  have eo : outP V w c k b t = 0 ↔ ∀ a, a < 3 → axO V k b t (axS V w c) (axS V w c) a = 0 := by
    unfold outP
    rw [outn_o, outn_o, outn_o]
    constructor
    · intro h a ha
      have g0 : oF (V 35 k).toInt ((2 * nv V 40 b : Nat) : Int) ((2 * nv V 41 b : Nat) : Int) (ptX V w c) (ptX V w c) = 0 := by omega
      have g1 : oF (V 36 k).toInt ((2 * nv V 42 b : Nat) : Int) ((2 * nv V 43 b : Nat) : Int) (ptY V w c) (ptY V w c) = 0 := by omega
      have g2 : oF (nv V 37 k) ((2 * nv V 44 b : Nat) : Int) ((2 * t : Nat) : Int) (ptZ V w c) (ptZ V w c) = 0 := by omega
      rcases (show a = 0 ∨ a = 1 ∨ a = 2 by omega) with rfl | rfl | rfl
      · exact g0
      · exact g1
      · exact g2
    · intro h
      have h0 : oF _ _ _ _ _ = 0 := h 0 (by omega)
      have h1 : oF _ _ _ _ _ = 0 := h 1 (by omega)
      have h2 : oF _ _ _ _ _ = 0 := h 2 (by omega)
      have g0 : oF (V 35 k).toInt ((2 * nv V 40 b : Nat) : Int) ((2 * nv V 41 b : Nat) : Int) (ptX V w c) (ptX V w c) = 0 := h0
      have g1 : oF (V 36 k).toInt ((2 * nv V 42 b : Nat) : Int) ((2 * nv V 43 b : Nat) : Int) (ptY V w c) (ptY V w c) = 0 := h1
      have g2 : oF (nv V 37 k) ((2 * nv V 44 b : Nat) : Int) ((2 * t : Nat) : Int) (ptZ V w c) (ptZ V w c) = 0 := h2
      omega
  rw [← eo]
  unfold hitn
  by_cases h1 : outP V w c k b t = 0
  · rw [if_pos h1]
    by_cases h2 : (lowP V w c k b t).1 * (highP V w c k b t).2 < (highP V w c k b t).1 * (lowP V w c k b t).2
    · rw [if_pos h2]
      exact ⟨fun _ => ⟨h1, h2⟩, fun _ => rfl⟩
    · rw [if_neg h2]
      exact ⟨fun h => by omega, fun h => absurd h.2 h2⟩
  · rw [if_neg h1]
    exact ⟨fun h => by omega, fun h => absurd h.1 h1⟩
/-- numbers of an axis of the beam -/
def AxK (y lo hi sl sm : Int32) (Y LO HI SL SM : Int) : Prop := y.toInt = Y ∧ lo.toInt = LO ∧ hi.toInt = HI ∧ sl.toInt = SL ∧ sm.toInt = SM ∧ -50 ≤ Y ∧ Y ≤ 50 ∧ 0 ≤ LO ∧ LO ≤ 500 ∧ 0 ≤ HI ∧ HI ≤ 500 ∧ 0 ≤ SL ∧ SL ≤ 500 ∧ 0 ≤ SM ∧ SM ≤ 500
section AXK
variable {y lo hi sl sm : Int32} {Y LO HI SL SM : Int}
theorem kFi_t (h : AxK y lo hi sl sm Y LO HI SL SM) : (kFi y lo hi sl sm).toInt = eF Y LO HI SL SM ∧ -1000 ≤ eF Y LO HI SL SM ∧ eF Y LO HI SL SM ≤ 1000 := by
  obtain ⟨h1, h2, h3, h4, h5, h6⟩ := h
  unfold kFi eF
  by_cases hy : Y ≤ 0
  · rw [if_pos hy, if_pos ((t_le h1 (by rfl : (0 : Int32).toInt = 0)).mpr hy), t_sub h4 h3 (by omega) (by omega)]
    omega
  · rw [if_neg hy, if_neg (fun h => hy ((t_le h1 (by rfl : (0 : Int32).toInt = 0)).mp h)), t_sub h2 h5 (by omega) (by omega)]
    omega
theorem kLa_t (h : AxK y lo hi sl sm Y LO HI SL SM) : (kLa y lo hi sl sm).toInt = lF Y LO HI SL SM ∧ -1000 ≤ lF Y LO HI SL SM ∧ lF Y LO HI SL SM ≤ 1000 := by
  obtain ⟨h1, h2, h3, h4, h5, h6⟩ := h
  unfold kLa lF
  by_cases hy : Y ≤ 0
  · rw [if_pos hy, if_pos ((t_le h1 (by rfl : (0 : Int32).toInt = 0)).mpr hy), t_sub h5 h2 (by omega) (by omega)]
    omega
  · rw [if_neg hy, if_neg (fun h => hy ((t_le h1 (by rfl : (0 : Int32).toInt = 0)).mp h)), t_sub h3 h4 (by omega) (by omega)]
    omega
theorem kUn_t (h1 : y.toInt = Y) (h6 : -50 ≤ Y) : (kUn y).toInt = zUn Y := by
  unfold kUn zUn
  by_cases hy : Y ≤ 0
  · rw [if_pos hy, if_pos ((t_le h1 (by rfl : (0 : Int32).toInt = 0)).mpr hy), t_neg h1 (by omega)]
  · rw [if_neg hy, if_neg (fun h => hy ((t_le h1 (by rfl : (0 : Int32).toInt = 0)).mp h)), h1]
theorem kOut_t (h : AxK y lo hi sl sm Y LO HI SL SM) : kOut y lo hi sl sm = oF Y LO HI SL SM := by
  obtain ⟨h1, h2, h3, h4, h5, h6⟩ := h
  unfold kOut oF
  have c0 := t_0 h1
  have c1 := t_le h5 h2
  have c2 := t_lt h4 h3
  by_cases q : Y = 0
  · rw [if_pos q, if_pos (c0.mpr q)]
    by_cases q1 : SM ≤ LO
    · rw [if_pos q1, if_pos (c1.mpr q1)]
    · rw [if_neg q1, if_neg (fun e => q1 (c1.mp e))]
      by_cases q2 : SL < HI
      · rw [if_pos q2, if_pos (c2.mpr q2)]
      · rw [if_neg q2, if_neg (fun e => q2 (c2.mp e))]
  · rw [if_neg q, if_neg (fun e => q (c0.mp e))]
theorem kLow_t {p : Int32 × Int32} {z : Int × Int} (h : AxK y lo hi sl sm Y LO HI SL SM) (hp : LR p z) : LR (kLow y lo hi sl sm p) (if Y = 0 then z else if eF Y LO HI SL SM * z.2 ≤ z.1 * zUn Y then z else (eF Y LO HI SL SM, zUn Y)) := by
  obtain ⟨e1, e2, e3⟩ := kFi_t h
  obtain ⟨h1, h2, h3, h4, h5, h6, h7, h8⟩ := h
  have hu := kUn_t h1 h6
  have hp' := hp
  obtain ⟨p1, p2, p3, p4, p5, p6⟩ := hp'
  unfold kLow
  by_cases hy : Y = 0
  · rw [if_pos hy, if_pos ((t_0 h1).mpr hy)]
    exact hp
  · rw [if_neg hy, if_neg (fun q => hy ((t_0 h1).mp q))]
    have ub := zUn_b h6 h7 hy
    have m1 := mulB (A := 1000) (B := 100) (a := eF Y LO HI SL SM) (b := z.2) (by omega) (by omega) (by omega) (by omega)
    have m2 := mulB (A := 1000) (B := 100) (a := z.1) (b := zUn Y) (by omega) (by omega) (by omega) (by omega)
    have q1 := t_mul e1 p2 (by omega) (by omega)
    have q2 := t_mul p1 hu (by omega) (by omega)
    by_cases hc : eF Y LO HI SL SM * z.2 ≤ z.1 * zUn Y
    · rw [if_pos hc, if_pos ((t_le q1 q2).mpr hc)]
      exact hp
    · rw [if_neg hc, if_neg (fun q => hc ((t_le q1 q2).mp q))]
      exact ⟨e1, hu, e2, e3, ub.1, by show zUn Y ≤ 100; omega⟩
def HK (p : Int32 × Int32) (z : Int × Int) : Prop := (p = (nI 1, nI 0) ∧ z = (1, 0)) ∨ LR p z
theorem kHigh_t {p : Int32 × Int32} {z : Int × Int} (h : AxK y lo hi sl sm Y LO HI SL SM) (hp : HK p z) : HK (kHigh y lo hi sl sm p) (if Y = 0 then z else if z.2 = 0 then (lF Y LO HI SL SM, zUn Y) else if z.1 * zUn Y ≤ lF Y LO HI SL SM * z.2 then z else (lF Y LO HI SL SM, zUn Y)) := by
  obtain ⟨e1, e2, e3⟩ := kLa_t h
  obtain ⟨h1, h2, h3, h4, h5, h6, h7, h8⟩ := h
  have hu := kUn_t h1 h6
  unfold kHigh
  by_cases hy : Y = 0
  · rw [if_pos hy, if_pos ((t_0 h1).mpr hy)]
    exact hp
  · rw [if_neg hy, if_neg (fun q => hy ((t_0 h1).mp q))]
    have ub := zUn_b h6 h7 hy
    have new : LR (kLa y lo hi sl sm, kUn y) (lF Y LO HI SL SM, zUn Y) := ⟨e1, hu, e2, e3, ub.1, by show zUn Y ≤ 100; omega⟩
    rcases hp with ⟨rfl, rfl⟩ | hp
    · rw [if_pos rfl, if_neg]
      · exact Or.inr new
      · have q1 := t_mul (show (nI 1).toInt = 1 from rfl) hu (by omega) (by omega)
        have q2 := t_mul e1 (show (nI 0).toInt = 0 from rfl) (by omega) (by omega)
        intro q
        have := (t_le q1 q2).mp q
        omega
    · have hp' := hp
      obtain ⟨p1, p2, p3, p4, p5, p6⟩ := hp'
      rw [if_neg (by omega : ¬ z.2 = 0)]
      have m1 := mulB (A := 1000) (B := 100) (a := lF Y LO HI SL SM) (b := z.2) (by omega) (by omega) (by omega) (by omega)
      have m2 := mulB (A := 1000) (B := 100) (a := z.1) (b := zUn Y) (by omega) (by omega) (by omega) (by omega)
      have q1 := t_mul e1 p2 (by omega) (by omega)
      have q2 := t_mul p1 hu (by omega) (by omega)
      by_cases hc : z.1 * zUn Y ≤ lF Y LO HI SL SM * z.2
      · rw [if_pos hc, if_pos ((t_le q2 q1).mpr hc)]
        exact Or.inr hp
      · rw [if_neg hc, if_neg (fun q => hc ((t_le q2 q1).mp q))]
        exact Or.inr new
end AXK
/-- the beam stands so -/
def BeamK (σ V : St) (k b t : Nat) (sl sm : Nat → Nat) : Prop := ∀ a, a < 3 → AxK (σ 23 a) (nI (mLo V b a)) (nI (mHi V b t a)) (σ 24 a) (σ 25 a) (axY V k a) (axLo V b a) (axHi V b t a) (sl a) (sm a)
section BEAMK
variable {σ V : St} {k b t : Nat} {sl sm : Nat → Nat}
theorem mL_t (h : BeamK σ V k b t sl sm) : ∀ n, n ≤ 3 → LR (mL σ V b t n) (qL (axY V k) (axE V k b t sl sm) n) := by
  intro n
  induction n with
  | zero => intro _; exact LR01
  | succ n ih =>
    intro hn
    rw [qL]
    exact kLow_t (h n (by omega)) (ih (by omega))
theorem mH_t (h : BeamK σ V k b t sl sm) : ∀ n, n ≤ 3 → HK (mH σ V b t n) (qH (axY V k) (axL V k b t sl sm) n) := by
  intro n
  induction n with
  | zero => intro _; exact Or.inl ⟨rfl, rfl⟩
  | succ n ih =>
    intro hn
    rw [qH]
    exact kHigh_t (h n (by omega)) (ih (by omega))
theorem mO_t (h : BeamK σ V k b t sl sm) : ∀ n, n ≤ 3 → (mO σ V b t n = 0 ↔ ∀ a, a < n → axO V k b t sl sm a = 0) := by
  intro n
  induction n with
  | zero => intro _; exact ⟨fun _ a ha => by omega, fun _ => rfl⟩
  | succ n ih =>
    intro hn
    have hk := kOut_t (h n (by omega))
    have e : mO σ V b t (n + 1) = if mO σ V b t n = 0 then axO V k b t sl sm n else 1 := by
      rw [mO, hk]
      rfl
    rw [e]
    by_cases h0 : mO σ V b t n = 0
    · rw [if_pos h0]
      have hh := (ih (by omega)).mp h0
      constructor
      · intro h1 a ha
        by_cases e0 : a = n
        · subst e0; exact h1
        · exact hh a (by omega)
      · intro h1
        exact h1 n (by omega)
    · rw [if_neg h0]
      exact ⟨fun q => by omega, fun q => absurd ((ih (by omega)).mpr (fun a ha => q a (by omega))) h0⟩
theorem mHit_iff (h : BeamK σ V k b t sl sm) (hz : axY V k 2 ≠ 0) : mHit σ V b t = 1 ↔ (∀ a, a < 3 → axO V k b t sl sm a = 0) ∧ CH (axY V k) (axE V k b t sl sm) (axL V k b t sl sm) := by
  rw [← mO_t h 3 (Nat.le_refl _), ← ch_iff]
  have hL := mL_t h 3 (Nat.le_refl _)
  have hH : LR (mH σ V b t 3) (qH (axY V k) (axL V k b t sl sm) 3) := by
    rcases mH_t h 3 (Nat.le_refl _) with ⟨-, h2⟩ | h2
    · exact absurd ((qH_0 _ _ 3 (by rw [h2])).2 2 (by omega)) hz
    · exact h2
  obtain ⟨l1, l2, l3, l4, l5, l6⟩ := hL
  obtain ⟨r1, r2, r3, r4, r5, r6⟩ := hH
  have m1 := mulB (A := 1000) (B := 100) (a := (qH (axY V k) (axL V k b t sl sm) 3).1) (b := (qL (axY V k) (axE V k b t sl sm) 3).2) (by omega) (by omega) (by omega) (by omega)
  have m2 := mulB (A := 1000) (B := 100) (a := (qL (axY V k) (axE V k b t sl sm) 3).1) (b := (qH (axY V k) (axL V k b t sl sm) 3).2) (by omega) (by omega) (by omega) (by omega)
  have c := t_le (t_mul r1 l2 (by omega) (by omega)) (t_mul l1 r2 (by omega) (by omega))
  unfold mHit
  by_cases h0 : mO σ V b t 3 = 0
  · rw [if_pos h0]
    by_cases h1 : (mH σ V b t 3).1 * (mL σ V b t 3).2 ≤ (mL σ V b t 3).1 * (mH σ V b t 3).2
    · rw [if_pos h1]
      have := c.mp h1
      exact ⟨fun q => by omega, fun q => by omega⟩
    · rw [if_neg h1]
      have : ¬ _ := fun q => h1 (c.mpr q)
      exact ⟨fun _ => ⟨h0, by omega⟩, fun _ => rfl⟩
  · rw [if_neg h0]
    exact ⟨fun q => by omega, fun q => absurd q.1 h0⟩
end BEAMK
theorem box_ax {V : St} (hR : REL V) (b t a : Nat) (ha : a < 3) : mLo V b a = axLo V b a ∧ mHi V b t a = axHi V b t a := by
  obtain ⟨h1, h2, h3, h4, h5, h6⟩ := hR.box b
  unfold mLo mHi axLo axHi
  rcases (show a = 0 ∨ a = 1 ∨ a = 2 by omega) with rfl | rfl | rfl
  · exact ⟨by rw [Nat.add_zero, h1]; rfl, by rw [if_neg (by decide), Nat.add_zero, h4]; rfl⟩
  · exact ⟨by rw [h2]; rfl, by rw [if_neg (by decide), h5]; rfl⟩
  · exact ⟨by rw [h3]; rfl, by rw [if_pos rfl]; rfl⟩
theorem beamK {V σ : St} (hG : GOOD V) {k b t : Nat} {sl sm : Nat → Nat} (ht : t ≤ 200) (hw : wayIs V k σ) (hs : ∀ a, a < 3 → σ 24 a = nI (sl a) ∧ σ 25 a = nI (sm a) ∧ sl a ≤ 400 ∧ sm a ≤ 400) : BeamK σ V k b t sl sm := by
  intro a ha
  obtain ⟨e1, e2⟩ := box_ax hG.2 b t a ha
  obtain ⟨s1, s2, s3, s4⟩ := hs a ha
  obtain ⟨q1, q2, q3⟩ := hw
  have hI := hG.1.1
  obtain ⟨g1, g2, g3, g4⟩ := hG.1.2.2.1 k
  have b0 := bd hI 40 b 200 rfl rfl
  have b1 := bd hI 41 b 200 rfl rfl
  have b2 := bd hI 42 b 200 rfl rfl
  have b3 := bd hI 43 b 200 rfl rfl
  have b4 := bd hI 44 b 200 rfl rfl
  have b5 := bd hI 37 k 50 rfl rfl
  have hlo : axLo V b a ≤ 400 := by unfold axLo; (repeat' split); all_goals omega
  have hhi : axHi V b t a ≤ 400 := by unfold axHi; (repeat' split); all_goals omega
  have hy : (σ 23 a).toInt = axY V k a ∧ -50 ≤ axY V k a ∧ axY V k a ≤ 50 := by
    unfold axY
    rcases (show a = 0 ∨ a = 1 ∨ a = 2 by omega) with rfl | rfl | rfl
    · rw [q1]; exact ⟨rfl, g1, g2⟩
    · rw [q2]; exact ⟨rfl, g3, g4⟩
    · rw [q3, nI_toInt (by omega)]
      refine ⟨rfl, ?_, ?_⟩
      · show -50 ≤ (nv V 37 k : Int); omega
      · show (nv V 37 k : Int) ≤ 50; omega
  rw [e1, e2, s1, s2]
  refine ⟨hy.1, nI_toInt (by omega), nI_toInt (by omega), nI_toInt (by omega), nI_toInt (by omega), hy.2.1, hy.2.2, ?_⟩
  omega
theorem meet_pt {V σ : St} (hG : GOOD V) {w c k b t : Nat} (hn : w < nv V 33 19) (hc : c < cls V w) (ht : t ≤ 200) (hz : 1 ≤ nv V 37 k) (hw : wayIs V k σ) (hp : pointIs V w c σ) : mHit σ V b t = hitn V w c k b t ∧ LR (mL σ V b t 3) (lowP V w c k b t) := by
  obtain ⟨p1, p2, p3⟩ := pt_b hG.1 hn hc
  have hB : BeamK σ V k b t (axS V w c) (axS V w c) := beamK hG ht hw (fun a ha => by
    obtain ⟨⟨x0, x1, x2⟩, y0, y1, y2⟩ := hp
    unfold axS
    rcases (show a = 0 ∨ a = 1 ∨ a = 2 by omega) with rfl | rfl | rfl
    · exact ⟨x0, y0, p1, p1⟩
    · exact ⟨x1, y1, p2, p2⟩
    · exact ⟨x2, y2, p3, p3⟩)
  have hz2 : axY V k 2 ≠ 0 := by
    show (nv V 37 k : Int) ≠ 0
    omega
  refine ⟨?_, by rw [lowP_q]; exact mL_t hB 3 (Nat.le_refl _)⟩
  have i1 := mHit_iff hB hz2
  have i2 := hitn_iff V w c k b t
  have h1 := mHit_le σ V b t
  have h2 := hitn_le V w c k b t
  by_cases h : hitn V w c k b t = 1
  · rw [h, i1.mpr (i2.mp h)]
  · have : ¬ mHit σ V b t = 1 := fun q => h (i2.mpr (i1.mp q))
    omega
def wlo (V : St) (w a : Nat) : Nat := if a = 0 then (if nv V 50 w < 2 then 2 * nv V 51 w else loU V w) else if a = 1 then (if nv V 50 w < 2 then loU V w else 2 * nv V 51 w) else loZ V w
def whi (V : St) (w a : Nat) : Nat := if a = 0 then (if nv V 50 w < 2 then 2 * nv V 51 w else hiU V w) else if a = 1 then (if nv V 50 w < 2 then hiU V w else 2 * nv V 51 w) else hiZ V w
theorem w_range {V : St} (hF : WF V) {w c : Nat} (hn : w < nv V 33 19) (hc : c < cls V w) (a : Nat) (ha : a < 3) : wlo V w a ≤ axS V w c a ∧ axS V w c a ≤ whi V w a ∧ whi V w a ≤ 400 := by
  obtain ⟨hI, hW, hG⟩ := hF
  obtain ⟨h1, h2, h3, h4⟩ := hW w
  obtain ⟨h5, h6⟩ := h4 hn
  have b1 := bd hI 53 w 200 rfl rfl
  have b2 := bd hI 55 w 200 rfl rfl
  have b3 := bd hI 51 w 200 rfl rfl
  have m1 := Nat.mod_lt c (y := nv V 53 w - nv V 52 w) (by omega)
  have m2 : c / (nv V 53 w - nv V 52 w) < nv V 55 w - nv V 54 w := Nat.div_lt_of_lt_mul hc
  rcases (show a = 0 ∨ a = 1 ∨ a = 2 by omega) with rfl | rfl | rfl
  · unfold wlo whi axS ptX ptU loU hiU
    by_cases hs : nv V 50 w < 2
    · simp only [hs, if_true]; omega
    · simp only [hs, if_true, if_false]; omega
  · unfold wlo whi axS ptY ptU loU hiU
    by_cases hs : nv V 50 w < 2
    · simp [hs]; omega
    · simp [hs]; omega
  · unfold wlo whi axS ptZ loZ hiZ
    generalize c / (nv V 53 w - nv V 52 w) = z at m2 ⊢
    simp
    omega
theorem wind_at {V σ : St} {w : Nat} (hp : windIs V w σ) (a : Nat) (ha : a < 3) : σ 24 a = nI (wlo V w a) ∧ σ 25 a = nI (whi V w a) := by
  obtain ⟨⟨x0, x1, x2⟩, y0, y1, y2⟩ := hp
  rcases (show a = 0 ∨ a = 1 ∨ a = 2 by omega) with rfl | rfl | rfl
  · have e1 : wlo V w 0 = if nv V 50 w < 2 then 2 * nv V 51 w else loU V w := by unfold wlo; exact if_pos rfl
    have e2 : whi V w 0 = if nv V 50 w < 2 then 2 * nv V 51 w else hiU V w := by unfold whi; exact if_pos rfl
    rw [e1, e2]
    exact ⟨x0, y0⟩
  · have e1 : wlo V w 1 = if nv V 50 w < 2 then loU V w else 2 * nv V 51 w := by unfold wlo; exact (if_neg (by decide)).trans (if_pos rfl)
    have e2 : whi V w 1 = if nv V 50 w < 2 then hiU V w else 2 * nv V 51 w := by unfold whi; exact (if_neg (by decide)).trans (if_pos rfl)
    rw [e1, e2]
    exact ⟨x1, y1⟩
  · have e1 : wlo V w 2 = loZ V w := by unfold wlo; exact (if_neg (by decide)).trans (if_neg (by decide))
    have e2 : whi V w 2 = hiZ V w := by unfold whi; exact (if_neg (by decide)).trans (if_neg (by decide))
    rw [e1, e2]
    exact ⟨x2, y2⟩
theorem wind_K {V σ : St} (hG : GOOD V) {w c k b t : Nat} (hn : w < nv V 33 19) (hc : c < cls V w) (ht : t ≤ 200) (hw : wayIs V k σ) (hp : windIs V w σ) : BeamK σ V k b t (wlo V w) (whi V w) := by
  refine beamK hG ht hw (fun a ha => ?_)
  have hr := w_range hG.1 hn hc a ha
  obtain ⟨h1, h2⟩ := wind_at hp a ha
  exact ⟨h1, h2, by omega, by omega⟩
theorem oF_mono {y lo hi s sl sm : Int} (h1 : sl ≤ s) (h2 : s ≤ sm) (q : oF y lo hi s s = 0) : oF y lo hi sl sm = 0 := by
  unfold oF at q ⊢
  by_cases hy : y = 0
  · rw [if_pos hy] at q ⊢
    by_cases q1 : s ≤ lo
    · rw [if_pos q1] at q; omega
    · rw [if_neg q1] at q
      by_cases q2 : s < hi
      · rw [if_neg (by omega), if_pos (by omega)]
      · rw [if_neg q2] at q; omega
  · rw [if_neg hy]
theorem eF_mono {y lo hi s sl sm : Int} (h1 : sl ≤ s) (h2 : s ≤ sm) : eF y lo hi sl sm ≤ eF y lo hi s s := by
  unfold eF
  split <;> omega
theorem lF_mono {y lo hi s sl sm : Int} (h1 : sl ≤ s) (h2 : s ≤ sm) : lF y lo hi s s ≤ lF y lo hi sl sm := by
  unfold lF
  split <;> omega
theorem meet_all {V σ : St} (hG : GOOD V) {w c k b t : Nat} (hn : w < nv V 33 19) (hc : c < cls V w) (ht : t ≤ 200) (hz : 1 ≤ nv V 37 k) (hw : wayIs V k σ) (hp : windIs V w σ) (h : hitn V w c k b t = 1) : mHit σ V b t = 1 := by
  have hB := wind_K (b := b) hG hn hc ht hw hp
  have hz2 : axY V k 2 ≠ 0 := by
    show (nv V 37 k : Int) ≠ 0
    omega
  obtain ⟨h1, h2⟩ := (hitn_iff V w c k b t).mp h
  have hr : ∀ a, a < 3 → ((wlo V w a : Nat) : Int) ≤ (axS V w c a : Nat) ∧ ((axS V w c a : Nat) : Int) ≤ (whi V w a : Nat) := fun a ha => by
    have := w_range hG.1 hn hc a ha
    omega
  exact (mHit_iff hB hz2).mpr ⟨fun a ha => oF_mono (hr a ha).1 (hr a ha).2 (h1 a ha), h2.mono (fun a ha _ => eF_mono (hr a ha).1 (hr a ha).2) (fun a ha _ => lF_mono (hr a ha).1 (hr a ha).2)⟩
/-- a higher TOP hides no less -/
theorem hitn_up {V : St} {w c k b t t' : Nat} (hz : 1 ≤ nv V 37 k) (ht : t ≤ t') (h : hitn V w c k b t = 1) : hitn V w c k b t' = 1 := by
  obtain ⟨h1, h2⟩ := (hitn_iff V w c k b t).mp h
  have e3 : axY V k 2 = (nv V 37 k : Int) := rfl
  have hx : ∀ a, a < 2 → axHi V b t' a = axHi V b t a := by
    intro a ha
    rcases (show a = 0 ∨ a = 1 by omega) with rfl | rfl <;> rfl
  have h22 : axHi V b t 2 ≤ axHi V b t' 2 := by
    show 2 * t ≤ 2 * t'
    omega
  have hle : ∀ a, a < 3 → axHi V b t a ≤ axHi V b t' a := by
    intro a ha
    by_cases e : a = 2
    · subst e; exact h22
    · rw [hx a (by omega)]; exact Nat.le_refl _
  refine (hitn_iff V w c k b t').mpr ⟨fun a ha => ?_, h2.mono (fun a ha hy => ?_) (fun a ha hy => ?_)⟩
  · have q := h1 a ha
    by_cases e : a = 2
    · subst e
      show oF (axY V k 2) _ _ _ _ = 0
      unfold oF
      rw [if_neg (by omega)]
    · unfold axO at q ⊢
      rw [hx a (by omega)]
      exact q
  · unfold axE eF
    have := hle a ha
    split
    · rename_i hy0
      by_cases e : a = 2
      · subst e; omega
      · rw [hx a (by omega)]; exact Int.le_refl _
    · exact Int.le_refl _
  · unfold axL lF
    have := hle a ha
    split <;> omega
