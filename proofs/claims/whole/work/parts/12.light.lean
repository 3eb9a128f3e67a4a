/-! ===== light, sun, hours, takers: what they are ===== -/
def outn (f y a b : Int) : Nat := if y = 0 then (if f ≤ a then 1 else if b ≤ f then 1 else 0) else 0
theorem outn_z {f y a b : Int} : outn f y a b = 0 ↔ ¬ zOut f y a b := by
  unfold outn zOut
  by_cases h : y = 0
  · rw [if_pos h]
    by_cases h1 : f ≤ a
    · rw [if_pos h1]
      exact ⟨fun e => by omega, fun e => absurd ⟨h, Or.inl h1⟩ e⟩
    · rw [if_neg h1]
      by_cases h2 : b ≤ f
      · rw [if_pos h2]
        exact ⟨fun e => by omega, fun e => absurd ⟨h, Or.inr h2⟩ e⟩
      · rw [if_neg h2]
        exact ⟨fun _ e => by omega, fun _ => rfl⟩
  · rw [if_neg h]
    exact ⟨fun _ e => h e.1, fun _ => rfl⟩
def zL3 (c : Int) (f1 y1 a1 b1 f2 y2 a2 b2 f3 y3 a3 b3 : Int) : Int × Int := zLow c f3 y3 a3 b3 (zLow c f2 y2 a2 b2 (zLow c f1 y1 a1 b1 (0, 1)))
def zH3 (c : Int) (f1 y1 a1 b1 f2 y2 a2 b2 f3 y3 a3 b3 : Int) : Int × Int := zHigh c f3 y3 a3 b3 (zHigh c f2 y2 a2 b2 (zHigh c f1 y1 a1 b1 (1, 0)))
def lowP (V : St) (w c k b t : Nat) : Int × Int := zL3 1 (ptX V w c) (V 35 k).toInt (2 * nv V 40 b : Nat) (2 * nv V 41 b : Nat) (ptY V w c) (V 36 k).toInt (2 * nv V 42 b : Nat) (2 * nv V 43 b : Nat) (ptZ V w c) (nv V 37 k) (2 * nv V 44 b : Nat) (2 * t : Nat)
def highP (V : St) (w c k b t : Nat) : Int × Int := zH3 1 (ptX V w c) (V 35 k).toInt (2 * nv V 40 b : Nat) (2 * nv V 41 b : Nat) (ptY V w c) (V 36 k).toInt (2 * nv V 42 b : Nat) (2 * nv V 43 b : Nat) (ptZ V w c) (nv V 37 k) (2 * nv V 44 b : Nat) (2 * t : Nat)
def outP (V : St) (w c k b t : Nat) : Nat := outn (ptX V w c) (V 35 k).toInt (2 * nv V 40 b : Nat) (2 * nv V 41 b : Nat) + outn (ptY V w c) (V 36 k).toInt (2 * nv V 42 b : Nat) (2 * nv V 43 b : Nat) + outn (ptZ V w c) (nv V 37 k) (2 * nv V 44 b : Nat) (2 * t : Nat)
/-- 1 if the BLOCK b, of TOP t, stands before the POINT of the CELL c of w at the way k -/
def hitn (V : St) (w c k b t : Nat) : Nat := if outP V w c k b t = 0 then (if (lowP V w c k b t).1 * (highP V w c k b t).2 < (highP V w c k b t).1 * (lowP V w c k b t).2 then 1 else 0) else 0
theorem hitn_le (V : St) (w c k b t : Nat) : hitn V w c k b t ≤ 1 := by
  unfold hitn
  (repeat' split)
  all_goals omega
def InvG (V : St) : Prop := (∀ k, -50 ≤ (V 35 k).toInt ∧ (V 35 k).toInt ≤ 50 ∧ -50 ≤ (V 36 k).toInt ∧ (V 36 k).toInt ≤ 50) ∧ ∀ d m, d < 8 → m < nv V 34 d → 1 ≤ nv V 37 (24 * d + m)
def WF (V : St) : Prop := InvN V ∧ InvW V ∧ InvG V
theorem pt_b {V : St} (hF : WF V) {w c : Nat} (hn : w < nv V 33 19) (hc : c < cls V w) : ptX V w c ≤ 400 ∧ ptY V w c ≤ 400 ∧ ptZ V w c ≤ 400 := by
  obtain ⟨hI, hW, hG⟩ := hF
  obtain ⟨h1, h2, h3, h4⟩ := hW w
  obtain ⟨h5, h6⟩ := h4 hn
  have b1 := bd hI 53 w 200 rfl rfl
  have b2 := bd hI 55 w 200 rfl rfl
  have b3 := bd hI 51 w 200 rfl rfl
  have m1 := Nat.mod_lt c (y := nv V 53 w - nv V 52 w) (by omega)
  have m2 : c / (nv V 53 w - nv V 52 w) < nv V 55 w - nv V 54 w := Nat.div_lt_of_lt_mul hc
  have hu : ptU V w c ≤ 400 := by unfold ptU; omega
  refine ⟨?_, ?_, ?_⟩
  · unfold ptX; split <;> omega
  · unfold ptY; split <;> omega
  · unfold ptZ; omega
theorem ax_n {f y a b : Nat} (hf : f ≤ 400) (hy : y ≤ 50) (ha : a ≤ 200) (hb : b ≤ 200) : AxB (nI f) (nI y) (nI (2 * a)) (nI (2 * b)) f y (2 * a : Nat) (2 * b : Nat) := by
  refine ⟨nI_toInt (by omega), nI_toInt (by omega), nI_toInt (by omega), nI_toInt (by omega), ?_⟩
  omega
theorem ax_i {f a b : Nat} {y : Int32} (hf : f ≤ 400) (hy1 : -50 ≤ y.toInt) (hy2 : y.toInt ≤ 50) (ha : a ≤ 200) (hb : b ≤ 200) : AxB (nI f) y (nI (2 * a)) (nI (2 * b)) f y.toInt (2 * a : Nat) (2 * b : Nat) := by
  refine ⟨nI_toInt (by omega), rfl, nI_toInt (by omega), nI_toInt (by omega), ?_⟩
  omega
theorem LR01 : LR (nI 0, nI 1) (0, 1) := by refine ⟨rfl, rfl, ?_, ?_, ?_, ?_⟩ <;> decide
theorem sLow_t {V : St} (hF : WF V) {w c k b : Nat} (hn : w < nv V 33 19) (hc : c < cls V w) : ∃ q, LR (sLow V w c k b) q ∧ SL (lowP V w c k b (topT V b)) q := by
  obtain ⟨p1, p2, p3⟩ := pt_b hF hn hc
  have hI := hF.1
  obtain ⟨g1, g2, g3, g4⟩ := hF.2.2.1 k
  have A1 := ax_i p1 g1 g2 (bd hI 40 b 200 rfl rfl) (bd hI 41 b 200 rfl rfl)
  have A2 := ax_i p2 g3 g4 (bd hI 42 b 200 rfl rfl) (bd hI 43 b 200 rfl rfl)
  have A3 := ax_n p3 (bd hI 37 k 50 rfl rfl) (bd hI 44 b 200 rfl rfl) (topT_le hI b)
  exact ⟨_, gLow_t A3 (gLow_t A2 (gLow_t A1 LR01)), zLow_s (zLow_s (zLow_s (Or.inl ⟨rfl, rfl⟩)))⟩
theorem hit_key {l h : Int32 × Int32} {zl zh p q : Int × Int} (hl : LR l zl) (hh : LR h zh) (h1 : SL p zl) (h2 : zh.1 = q.1) (h3 : zh.2 = 2 * q.2) : (h.1 * l.2 ≤ l.1 * h.2) ↔ ¬ (p.1 * q.2 < q.1 * p.2) := by
  obtain ⟨l1, l2, l3, l4, l5, l6⟩ := hl
  obtain ⟨r1, r2, r3, r4, r5, r6⟩ := hh
  have m1 := mulB (A := 1000) (B := 100) (a := zh.1) (b := zl.2) (by omega) (by omega) (by omega) (by omega)
  have m2 := mulB (A := 1000) (B := 100) (a := zl.1) (b := zh.2) (by omega) (by omega) (by omega) (by omega)
  rw [t_le (t_mul r1 l2 (by omega) (by omega)) (t_mul l1 r2 (by omega) (by omega)), Int.not_lt, h2, h3]
  rcases h1 with ⟨e1, e2⟩ | ⟨e1, e2⟩
  · rw [e1, e2]
    show _ * 1 ≤ 0 * _ ↔ _ * 1 ≤ 0 * _
    rw [Int.zero_mul, Int.zero_mul]
  · rw [e1, e2]
    exact sc_le _ _ _ _
theorem sHit_eq {V : St} (hF : WF V) {w c k b : Nat} (h0 : Int32) (hn : w < nv V 33 19) (hc : c < cls V w) (hk : 1 ≤ nv V 37 k) : sHit h0 V w c k b = hitn V w c k b (topT V b) := by
  obtain ⟨p1, p2, p3⟩ := pt_b hF hn hc
  have hI := hF.1
  obtain ⟨g1, g2, g3, g4⟩ := hF.2.2.1 k
  have A1 := ax_i p1 g1 g2 (bd hI 40 b 200 rfl rfl) (bd hI 41 b 200 rfl rfl)
  have A2 := ax_i p2 g3 g4 (bd hI 42 b 200 rfl rfl) (bd hI 43 b 200 rfl rfl)
  have A3 := ax_n p3 (bd hI 37 k 50 rfl rfl) (bd hI 44 b 200 rfl rfl) (topT_le hI b)
  have eo : sOut V w c k b = 0 ↔ outP V w c k b (topT V b) = 0 := by
    unfold sOut outP
    rw [gOut_t A3, gOut_t A2, gOut_t A1, ← outn_z, ← outn_z, ← outn_z]
    constructor
    · rintro ⟨⟨⟨-, h1⟩, h2⟩, h3⟩
      omega
    · intro h
      exact ⟨⟨⟨rfl, by omega⟩, by omega⟩, by omega⟩
  have hL := gLow_t A3 (gLow_t A2 (gLow_t A1 LR01))
  have hSL : SL (lowP V w c k b (topT V b)) _ := zLow_s (zLow_s (zLow_s (Or.inl ⟨rfl, rfl⟩)))
  have h00 : HR (h0, nI 0) (1, 0) := Or.inl ⟨rfl, rfl⟩
  have kz : (nv V 37 k : Int) ≠ 0 := by omega
  have hH := (gHigh_t A3 (gHigh_t A2 (gHigh_t A1 h00).1).1).2 kz
  have hSH := (zHigh_s (F := ptZ V w c) (Y := nv V 37 k) (A := (2 * nv V 44 b : Nat)) (B := (2 * topT V b : Nat)) (zHigh_s (F := ptY V w c) (Y := (V 36 k).toInt) (A := (2 * nv V 42 b : Nat)) (B := (2 * nv V 43 b : Nat)) (zHigh_s (F := ptX V w c) (Y := (V 35 k).toInt) (A := (2 * nv V 40 b : Nat)) (B := (2 * nv V 41 b : Nat)) (p := (1, 0)) (q := (1, 0)) (Or.inl ⟨rfl, rfl⟩)).1).1).2 kz
  unfold sHit hitn
  by_cases ho : outP V w c k b (topT V b) = 0
  · rw [if_pos ho, if_pos (eo.mpr ho)]
    have key := hit_key hL hH hSL hSH.1 hSH.2
    by_cases hc : (lowP V w c k b (topT V b)).1 * (highP V w c k b (topT V b)).2 < (highP V w c k b (topT V b)).1 * (lowP V w c k b (topT V b)).2
    · rw [if_pos hc]
      exact if_neg (fun e => key.mp e hc)
    · rw [if_neg hc]
      exact if_pos (key.mpr hc)
  · rw [if_neg ho, if_neg (fun e => ho (eo.mp e))]
/-- a BLOCK that takes light on the DAY d -/
def opq (V : St) (d b : Nat) : Nat := if nv V 39 b = 2 then 0 else if there V b = 0 then 0 else if nv V 39 b = 1 then (if nv V 47 (8 * b + d) < 8 then 1 else 0) else 1
def lightS (V : St) (w c d k b lt : Nat) : Nat := if opq V d b = 0 then lt else if hitn V w c k b (topT V b) = 0 then lt else if nv V 39 b = 1 then lt * nv V 47 (8 * b + d) / 8 else 0
def lightR (V : St) (w c d k : Nat) : Nat → Nat
  | 0 => 4096
  | b + 1 => lightS V w c d k b (lightR V w c d k b)
theorem lightS_le {V : St} (hI : InvN V) (w c d k b lt : Nat) : lightS V w c d k b lt ≤ lt := by
  unfold lightS
  have h := bd hI 47 (8 * b + d) 8 rfl rfl
  (repeat' split)
  · omega
  · omega
  · have := Nat.mul_le_mul_left lt h
    omega
  · omega
theorem lightR_le {V : St} (hI : InvN V) (w c d k b : Nat) : lightR V w c d k b ≤ 4096 := by
  induction b with
  | zero => exact Nat.le_refl _
  | succ b ih => exact Nat.le_trans (lightS_le hI w c d k b _) ih
theorem lightR_0 {V : St} (hI : InvN V) {w c d k b : Nat} (h : lightR V w c d k b = 0) : ∀ n, lightR V w c d k (b + n) = 0 := by
  intro n
  induction n with
  | zero => exact h
  | succ n ih =>
    have := lightS_le hI w c d k (b + n) (lightR V w c d k (b + n))
    show lightS V w c d k (b + n) (lightR V w c d k (b + n)) = 0
    omega
def lightN (V : St) (w c d m : Nat) : Nat := if front V w (24 * d + m) = 0 then 0 else lightR V w c d (24 * d + m) (nv V 33 7)
theorem lightN_le {V : St} (hI : InvN V) (w c d m : Nat) : lightN V w c d m ≤ 4096 := by
  unfold lightN
  split
  · omega
  · exact lightR_le hI w c d _ _
def sunR (V : St) (w d m : Nat) : Nat → Nat
  | 0 => 0
  | c + 1 => sunR V w d m c + lightN V w c d m
theorem sunR_le {V : St} (hI : InvN V) (w d m c : Nat) : sunR V w d m c ≤ 4096 * c := by
  induction c with
  | zero => exact Nat.le_refl _
  | succ c ih =>
    have := lightN_le hI w c d m
    show sunR V w d m c + lightN V w c d m ≤ _
    omega
theorem sunR_0 {V : St} {w d m : Nat} (h : front V w (24 * d + m) = 0) (c : Nat) : sunR V w d m c = 0 := by
  induction c with
  | zero => rfl
  | succ c ih =>
    show sunR V w d m c + lightN V w c d m = 0
    rw [ih, lightN, if_pos h]
def sunN (V : St) (w d m : Nat) : Nat := sunR V w d m (cls V w)
theorem sunN_le {V : St} (hF : WF V) (w d m : Nat) : sunN V w d m ≤ 262144 := by
  have h1 := sunR_le hF.1 w d m (cls V w)
  have h2 := (hF.2.1 w).2.2.1
  unfold sunN
  omega
def litN (V : St) (w d m : Nat) : Nat := if 8 * sunN V w d m < nv V 33 5 * 4096 * cls V w then 0 else 1
def hoursR (V : St) (w d : Nat) : Nat → Nat
  | 0 => 0
  | m + 1 => hoursR V w d m + litN V w d m
theorem hoursR_le (V : St) (w d m : Nat) : hoursR V w d m ≤ m := by
  induction m with
  | zero => exact Nat.le_refl _
  | succ m ih =>
    have : litN V w d m ≤ 1 := by unfold litN; split <;> omega
    show hoursR V w d m + litN V w d m ≤ _
    omega
def hoursN (V : St) (w d : Nat) : Nat := hoursR V w d (nv V 34 d)
def fallR (V : St) (w : Nat) : Nat → Nat → Int32
  | _, 0 => -9
  | d, n + 1 => if nv V 38 d = 0 then fallR V w (d + 1) n else if hoursN V w d < nv V 38 d then nI d else fallR V w (d + 1) n
/-- the first DAY on which a WINDOW falls -/
def fallI (V : St) (w : Nat) : Int32 := fallR V w 0 8
def near (V : St) (w c k b a : Nat) : Nat := if (lowP V w c k b (topT V b)).1 * (lowP V w c k a (topT V a)).2 < (lowP V w c k a (topT V a)).1 * (lowP V w c k b (topT V b)).2 then 1 else 0
def takS (V : St) (w c d k b : Nat) (o : Option Nat) : Option Nat := if opq V d b = 0 then o else if hitn V w c k b (topT V b) = 0 then o else match o with
  | none => some b
  | some a => if near V w c k b a = 0 then some a else some b
def takR (V : St) (w c d k : Nat) : Nat → Option Nat
  | 0 => none
  | b + 1 => takS V w c d k b (takR V w c d k b)
def takV : Option Nat → Int32
  | none => -9
  | some b => nI b
def takN (V : St) (w c d m : Nat) : Int32 := if front V w (24 * d + m) = 0 then -8 else takV (takR V w c d (24 * d + m) (nv V 33 7))
