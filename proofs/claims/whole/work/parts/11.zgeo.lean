/-! ===== the geometry in whole numbers ===== -/
def zFi (f y a b : Int) : Int := if y ≤ 0 then f - b else a - f
def zLa (f y a b : Int) : Int := if y ≤ 0 then f - a else b - f
def zUn (y : Int) : Int := if y ≤ 0 then -y else y
def zLow (c f y a b : Int) (p : Int × Int) : Int × Int := if y = 0 then p else if zFi f y a b * p.2 ≤ p.1 * (c * zUn y) then p else (zFi f y a b, c * zUn y)
def zHigh (c f y a b : Int) (p : Int × Int) : Int × Int := if y = 0 then p else if p.2 = 0 then (zLa f y a b, c * zUn y) else if p.1 * (c * zUn y) ≤ zLa f y a b * p.2 then p else (zLa f y a b, c * zUn y)
def zOut (f y a b : Int) : Prop := y = 0 ∧ (f ≤ a ∨ b ≤ f)
theorem bmid {z : Int} (h1 : -2147483648 ≤ z) (h2 : z < 2147483648) : z.bmod (2 ^ 32) = z := by
  unfold Int.bmod
  have e : ((2 ^ 32 : Nat) : Int) = 4294967296 := rfl
  simp only [e]
  split <;> omega
theorem mulB {a b : Int} {A B : Nat} (h1 : -(A : Int) ≤ a) (h2 : a ≤ A) (h3 : -(B : Int) ≤ b) (h4 : b ≤ B) : -((A * B : Nat) : Int) ≤ a * b ∧ a * b ≤ ((A * B : Nat) : Int) := by
  have ha : a.natAbs ≤ A := by omega
  have hb : b.natAbs ≤ B := by omega
  have hm := Nat.mul_le_mul ha hb
  rw [← Int.natAbs_mul] at hm
  omega
theorem t_sub {x y : Int32} {a b : Int} (hx : x.toInt = a) (hy : y.toInt = b) (h1 : -2147483648 ≤ a - b) (h2 : a - b < 2147483648) : (x - y).toInt = a - b := by
  rw [Int32.toInt_sub, hx, hy, bmid h1 h2]
theorem t_mul {x y : Int32} {a b : Int} (hx : x.toInt = a) (hy : y.toInt = b) (h1 : -2147483648 ≤ a * b) (h2 : a * b < 2147483648) : (x * y).toInt = a * b := by
  rw [Int32.toInt_mul, hx, hy, bmid h1 h2]
theorem t_neg {x : Int32} {a : Int} (hx : x.toInt = a) (h1 : -2147483648 < a) : (-x).toInt = -a := by
  have h2 := Int32.toInt_lt x
  rw [Int32.toInt_neg, hx, bmid (by omega) (by omega)]
theorem t_le {x y : Int32} {a b : Int} (hx : x.toInt = a) (hy : y.toInt = b) : x ≤ y ↔ a ≤ b := by rw [Int32.le_iff_toInt_le, hx, hy]
theorem t_lt {x y : Int32} {a b : Int} (hx : x.toInt = a) (hy : y.toInt = b) : x < y ↔ a < b := by rw [Int32.lt_iff_toInt_lt, hx, hy]
theorem t_0 {x : Int32} {a : Int} (hx : x.toInt = a) : x = 0 ↔ a = 0 := by
  rw [← Int32.toInt_inj, hx]
  rfl
def LR (p : Int32 × Int32) (z : Int × Int) : Prop := p.1.toInt = z.1 ∧ p.2.toInt = z.2 ∧ -1000 ≤ z.1 ∧ z.1 ≤ 1000 ∧ 1 ≤ z.2 ∧ z.2 ≤ 100
def HR (p : Int32 × Int32) (z : Int × Int) : Prop := (p.2 = 0 ∧ z.2 = 0) ∨ LR p z
/-- numbers of an axis within bounds -/
def AxB (f y a b : Int32) (F Y A B : Int) : Prop := f.toInt = F ∧ y.toInt = Y ∧ a.toInt = A ∧ b.toInt = B ∧ -500 ≤ F ∧ F ≤ 500 ∧ -50 ≤ Y ∧ Y ≤ 50 ∧ -500 ≤ A ∧ A ≤ 500 ∧ -500 ≤ B ∧ B ≤ 500
theorem zUn_b {Y : Int} (h1 : -50 ≤ Y) (h2 : Y ≤ 50) (h0 : Y ≠ 0) : 1 ≤ zUn Y ∧ zUn Y ≤ 50 := by
  unfold zUn
  split <;> omega
theorem gFi_t {f y a b : Int32} {F Y A B : Int} (h : AxB f y a b F Y A B) : (gFi f y a b).toInt = zFi F Y A B ∧ -1000 ≤ zFi F Y A B ∧ zFi F Y A B ≤ 1000 := by
  obtain ⟨h1, h2, h3, h4, h5, h6, h7, h8, h9, h10, h11, h12⟩ := h
  unfold gFi zFi
  by_cases hy : Y ≤ 0
  · rw [if_pos hy, if_pos ((t_le h2 (by rfl : (0 : Int32).toInt = 0)).mpr hy), t_sub h1 h4 (by omega) (by omega)]
    omega
  · rw [if_neg hy, if_neg (fun h => hy ((t_le h2 (by rfl : (0 : Int32).toInt = 0)).mp h)), t_sub h3 h1 (by omega) (by omega)]
    omega
theorem gLa_t {f y a b : Int32} {F Y A B : Int} (h : AxB f y a b F Y A B) : (gLa f y a b).toInt = zLa F Y A B ∧ -1000 ≤ zLa F Y A B ∧ zLa F Y A B ≤ 1000 := by
  obtain ⟨h1, h2, h3, h4, h5, h6, h7, h8, h9, h10, h11, h12⟩ := h
  unfold gLa zLa
  by_cases hy : Y ≤ 0
  · rw [if_pos hy, if_pos ((t_le h2 (by rfl : (0 : Int32).toInt = 0)).mpr hy), t_sub h1 h3 (by omega) (by omega)]
    omega
  · rw [if_neg hy, if_neg (fun h => hy ((t_le h2 (by rfl : (0 : Int32).toInt = 0)).mp h)), t_sub h4 h1 (by omega) (by omega)]
    omega
theorem gUn_t {y : Int32} {Y : Int} (h2 : y.toInt = Y) (h7 : -50 ≤ Y) (h8 : Y ≤ 50) : (gUn y).toInt = 2 * zUn Y := by
  unfold gUn zUn
  have e2 : (nI 2).toInt = 2 := rfl
  by_cases hy : Y ≤ 0
  · rw [if_pos hy, if_pos ((t_le h2 (by rfl : (0 : Int32).toInt = 0)).mpr hy), t_mul e2 (t_neg h2 (by omega)) (by omega) (by omega)]
  · rw [if_neg hy, if_neg (fun h => hy ((t_le h2 (by rfl : (0 : Int32).toInt = 0)).mp h)), t_mul e2 h2 (by omega) (by omega)]
theorem gLow_t {f y a b : Int32} {F Y A B : Int} {p : Int32 × Int32} {z : Int × Int} (h : AxB f y a b F Y A B) (hp : LR p z) : LR (gLow f y a b p) (zLow 2 F Y A B z) := by
  obtain ⟨e1, e2, e3⟩ := gFi_t h
  have hB := h
  obtain ⟨h1, h2, h3, h4, h5, h6, h7, h8, h9, h10, h11, h12⟩ := h
  have hu := gUn_t h2 h7 h8
  have hp' := hp
  obtain ⟨p1, p2, p3, p4, p5, p6⟩ := hp'
  unfold gLow zLow
  by_cases hy : Y = 0
  · rw [if_pos hy, if_pos ((t_0 h2).mpr hy)]
    exact hp
  · rw [if_neg hy, if_neg (fun q => hy ((t_0 h2).mp q))]
    have ub := zUn_b h7 h8 hy
    have m1 := mulB (A := 1000) (B := 100) (a := zFi F Y A B) (b := z.2) (by omega) (by omega) (by omega) (by omega)
    have m2 := mulB (A := 1000) (B := 100) (a := z.1) (b := 2 * zUn Y) (by omega) (by omega) (by omega) (by omega)
    have q1 := t_mul e1 p2 (by omega) (by omega)
    have q2 := t_mul p1 hu (by omega) (by omega)
    by_cases hc : zFi F Y A B * z.2 ≤ z.1 * (2 * zUn Y)
    · rw [if_pos hc, if_pos ((t_le q1 q2).mpr hc)]
      exact hp
    · rw [if_neg hc, if_neg (fun q => hc ((t_le q1 q2).mp q))]
      exact ⟨e1, hu, e2, e3, by show 1 ≤ 2 * zUn Y; omega, by show 2 * zUn Y ≤ 100; omega⟩
theorem gHigh_t {f y a b : Int32} {F Y A B : Int} {p : Int32 × Int32} {z : Int × Int} (h : AxB f y a b F Y A B) (hp : HR p z) : HR (gHigh f y a b p) (zHigh 2 F Y A B z) ∧ (Y ≠ 0 → LR (gHigh f y a b p) (zHigh 2 F Y A B z)) := by
  obtain ⟨e1, e2, e3⟩ := gLa_t h
  have hB := h
  obtain ⟨h1, h2, h3, h4, h5, h6, h7, h8, h9, h10, h11, h12⟩ := h
  have hu := gUn_t h2 h7 h8
  unfold gHigh zHigh
  by_cases hy : Y = 0
  · rw [if_pos hy, if_pos ((t_0 h2).mpr hy)]
    exact ⟨hp, fun q => absurd hy q⟩
  · rw [if_neg hy, if_neg (fun q => hy ((t_0 h2).mp q))]
    have ub := zUn_b h7 h8 hy
    have new : LR (gLa f y a b, gUn y) (zLa F Y A B, 2 * zUn Y) := ⟨e1, hu, e2, e3, by show 1 ≤ 2 * zUn Y; omega, by show 2 * zUn Y ≤ 100; omega⟩
    rcases hp with ⟨p0, z0⟩ | hp
    · rw [if_pos p0, if_pos z0]
      exact ⟨Or.inr new, fun _ => new⟩
    · have hp' := hp
      obtain ⟨p1, p2, p3, p4, p5, p6⟩ := hp'
      have n0 : ¬ z.2 = 0 := by omega
      rw [if_neg n0, if_neg (fun q => n0 ((t_0 p2).mp q))]
      have m1 := mulB (A := 1000) (B := 100) (a := zLa F Y A B) (b := z.2) (by omega) (by omega) (by omega) (by omega)
      have m2 := mulB (A := 1000) (B := 100) (a := z.1) (b := 2 * zUn Y) (by omega) (by omega) (by omega) (by omega)
      have q1 := t_mul e1 p2 (by omega) (by omega)
      have q2 := t_mul p1 hu (by omega) (by omega)
      by_cases hc : z.1 * (2 * zUn Y) ≤ zLa F Y A B * z.2
      · rw [if_pos hc, if_pos ((t_le q2 q1).mpr hc)]
        exact ⟨Or.inr hp, fun _ => hp⟩
      · rw [if_neg hc, if_neg (fun q => hc ((t_le q2 q1).mp q))]
        exact ⟨Or.inr new, fun _ => new⟩
theorem gOut_t {f y a b o : Int32} {F Y A B : Int} (h : AxB f y a b F Y A B) : gOut f y a b o = 0 ↔ o = 0 ∧ ¬ zOut F Y A B := by
  obtain ⟨h1, h2, h3, h4, h5⟩ := h
  unfold gOut zOut
  have hy := t_0 h2
  have c1 := t_le h1 h3
  have c2 := t_lt h1 h4
  have n10 : ¬ (1 : Int32) = 0 := by decide
  by_cases q : Y = 0
  · rw [if_pos (hy.mpr q)]
    by_cases q0 : o = 0
    · rw [if_pos q0]
      by_cases q1 : F ≤ A
      · rw [if_pos (c1.mpr q1)]
        exact ⟨fun e => absurd e n10, fun e => absurd ⟨q, Or.inl q1⟩ e.2⟩
      · rw [if_neg (fun e => q1 (c1.mp e))]
        by_cases q2 : F < B
        · rw [if_pos (c2.mpr q2)]
          exact ⟨fun _ => ⟨q0, fun e => by omega⟩, fun _ => rfl⟩
        · rw [if_neg (fun e => q2 (c2.mp e))]
          exact ⟨fun e => absurd e n10, fun e => absurd ⟨q, Or.inr (by omega)⟩ e.2⟩
    · rw [if_neg q0]
      exact ⟨fun e => absurd e n10, fun e => absurd e.1 q0⟩
  · rw [if_neg (fun e => q (hy.mp e))]
    exact ⟨fun e => ⟨e, fun z => q z.1⟩, fun e => e.1⟩
/-- scale -/
def SL (p q : Int × Int) : Prop := (p = (0, 1) ∧ q = (0, 1)) ∨ (q.1 = p.1 ∧ q.2 = 2 * p.2)
def SH (p q : Int × Int) : Prop := (p.2 = 0 ∧ q.2 = 0) ∨ (q.1 = p.1 ∧ q.2 = 2 * p.2 ∧ p.2 ≠ 0)
theorem sc_le (x y u v : Int) : x * (2 * u) ≤ y * (2 * v) ↔ x * u ≤ y * v := by
  rw [Int.mul_left_comm x 2 u, Int.mul_left_comm y 2 v]
  omega
theorem sc_lt (x y u v : Int) : x * (2 * u) < y * (2 * v) ↔ x * u < y * v := by
  rw [Int.mul_left_comm x 2 u, Int.mul_left_comm y 2 v]
  omega
theorem zLow_s {F Y A B : Int} {p q : Int × Int} (h : SL p q) : SL (zLow 1 F Y A B p) (zLow 2 F Y A B q) := by
  unfold zLow
  by_cases hy : Y = 0
  · rw [if_pos hy, if_pos hy]
    exact h
  · rw [if_neg hy, if_neg hy]
    have new : SL (zFi F Y A B, 1 * zUn Y) (zFi F Y A B, 2 * zUn Y) := Or.inr ⟨rfl, by show 2 * zUn Y = 2 * (1 * zUn Y); omega⟩
    rcases h with ⟨rfl, rfl⟩ | ⟨h1, h2⟩
    · have c1 : zFi F Y A B * (0, (1 : Int)).2 ≤ ((0 : Int), (1 : Int)).1 * (1 * zUn Y) ↔ zFi F Y A B ≤ 0 := by
        show zFi F Y A B * 1 ≤ 0 * (1 * zUn Y) ↔ _
        rw [Int.mul_one, Int.zero_mul]
      have c2 : zFi F Y A B * (0, (1 : Int)).2 ≤ ((0 : Int), (1 : Int)).1 * (2 * zUn Y) ↔ zFi F Y A B ≤ 0 := by
        show zFi F Y A B * 1 ≤ 0 * (2 * zUn Y) ↔ _
        rw [Int.mul_one, Int.zero_mul]
      by_cases hc : zFi F Y A B ≤ 0
      · rw [if_pos (c1.mpr hc), if_pos (c2.mpr hc)]
        exact Or.inl ⟨rfl, rfl⟩
      · rw [if_neg (fun e => hc (c1.mp e)), if_neg (fun e => hc (c2.mp e))]
        exact new
    · rw [h1, h2, Int.one_mul]
      have c := sc_le (zFi F Y A B) p.1 p.2 (zUn Y)
      by_cases hc : zFi F Y A B * p.2 ≤ p.1 * zUn Y
      · rw [if_pos hc, if_pos (c.mpr hc)]
        exact Or.inr ⟨h1, h2⟩
      · rw [if_neg hc, if_neg (fun e => hc (c.mp e))]
        exact Or.inr ⟨rfl, rfl⟩
theorem zHigh_s {F Y A B : Int} {p q : Int × Int} (h : SH p q) : SH (zHigh 1 F Y A B p) (zHigh 2 F Y A B q) ∧ (Y ≠ 0 → (zHigh 2 F Y A B q).1 = (zHigh 1 F Y A B p).1 ∧ (zHigh 2 F Y A B q).2 = 2 * (zHigh 1 F Y A B p).2) := by
  unfold zHigh
  by_cases hy : Y = 0
  · rw [if_pos hy, if_pos hy]
    exact ⟨h, fun q => absurd hy q⟩
  · rw [if_neg hy, if_neg hy]
    have un : zUn Y ≠ 0 := by unfold zUn; split <;> omega
    have new : SH (zLa F Y A B, 1 * zUn Y) (zLa F Y A B, 2 * zUn Y) := Or.inr ⟨rfl, by show 2 * zUn Y = 2 * (1 * zUn Y); omega, by show 1 * zUn Y ≠ 0; omega⟩
    rcases h with ⟨h1, h2⟩ | ⟨h1, h2, h3⟩
    · rw [if_pos h1, if_pos h2]
      exact ⟨new, fun _ => ⟨rfl, by show 2 * zUn Y = 2 * (1 * zUn Y); omega⟩⟩
    · rw [if_neg h3, if_neg (by omega : ¬ q.2 = 0), h1, h2, Int.one_mul]
      have c := sc_le p.1 (zLa F Y A B) (zUn Y) p.2
      by_cases hc : p.1 * zUn Y ≤ zLa F Y A B * p.2
      · rw [if_pos hc, if_pos (c.mpr hc)]
        exact ⟨Or.inr ⟨h1, h2, h3⟩, fun _ => ⟨h1, h2⟩⟩
      · rw [if_neg hc, if_neg (fun e => hc (c.mp e))]
        exact ⟨Or.inr ⟨rfl, rfl, un⟩, fun _ => ⟨rfl, rfl⟩⟩
/-- which of two is nearer, in either scale -/
theorem SL_lt {p q p' q' : Int × Int} (h : SL p q) (h' : SL p' q') : q.1 * q'.2 < q'.1 * q.2 ↔ p.1 * p'.2 < p'.1 * p.2 := by
  rcases h with ⟨rfl, rfl⟩ | ⟨h1, h2⟩ <;> rcases h' with ⟨rfl, rfl⟩ | ⟨h3, h4⟩
  · exact Iff.rfl
  · show 0 * q'.2 < q'.1 * 1 ↔ 0 * p'.2 < p'.1 * 1
    rw [h3, Int.zero_mul, Int.zero_mul]
  · show q.1 * 1 < 0 * q.2 ↔ p.1 * 1 < 0 * p.2
    rw [h1, Int.zero_mul, Int.zero_mul]
  · rw [h1, h2, h3, h4]
    exact sc_lt _ _ _ _
/-- a block before a start: starts from f to f' on each axis, the way, the block's bounds; 3 axes -/
def zHit (L H : Int × Int) (o : Prop) : Prop := ¬ o ∧ L.1 * H.2 < H.1 * L.2
