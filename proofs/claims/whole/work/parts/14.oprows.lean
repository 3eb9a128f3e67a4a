/-! ===== writes to the lasting state ===== -/
def wr (V : St) (k j : Nat) (x : Int32) : St := va_up V k (upd (V k) j x)
theorem wr_at (V : St) (k j : Nat) (x : Int32) (a b : Nat) : wr V k j x a b = if a = k ∧ b = j then x else V a b := u2 V k j x a b
theorem vw_w {σ V : St} {k j : Nat} {x : Int32} (hV : vw σ = V) (hs : scr k j = false) : vw (va_up σ k (upd (σ k) j x)) = wr V k j x := by
  subst hV
  funext a b
  rw [wr_at]
  unfold vw
  rw [u2]
  by_cases h : a = k ∧ b = j
  · obtain ⟨rfl, rfl⟩ := h
    simp [hs]
  · simp [h]
theorem vwM_w {σ V : St} {k j : Nat} {x : Int32} (hV : vwM σ = V) (hs : scrM k j = false) : vwM (va_up σ k (upd (σ k) j x)) = wr V k j x := by
  subst hV
  funext a b
  rw [wr_at]
  unfold vwM
  rw [u2]
  by_cases h : a = k ∧ b = j
  · obtain ⟨rfl, rfl⟩ := h
    simp [hs]
  · simp [h]
section ROWSP
variable {ly : List LyE} {sc : Option (Nat × (Nat → Int32))} {own : String} {cc : ByteArray} {nL fr lo pc q : Nat} {L : List (Option Value)} {st : List Value} {σ V : St} {E : Option Int32 → St → Prop}
theorem r_iastP {k j n : Nat} {x : Int32} (hV : vw σ = V) (hd : decode cc pc = .ok (.iastore, 1)) (hq : pc + 1 = q) (hly : ly[k]? = some (.inl (0, n))) (hs : scr k j = false) (hj : j < n) (hn : n < 2 ^ 31) (K : ∀ τ, vw τ = wr V k j x → Rn ly sc own cc nL fr lo q L st τ E) : Rn ly sc own cc nL fr lo pc L (.int x :: .int (nI j) :: .ref k :: st) σ E := r_iast hd hq hly hj hn (K _ (vw_w hV hs))
theorem r_zastP {k j n : Nat} {x : Int32} (hV : vw σ = V) (hd : decode cc pc = .ok (.bastore, 1)) (hq : pc + 1 = q) (hly : ly[k]? = some (.inl (1, n))) (hs : scr k j = false) (hj : j < n) (hn : n < 2 ^ 31) (hx : x = 0 ∨ x = 1) (K : ∀ τ, vw τ = wr V k j x → Rn ly sc own cc nL fr lo q L st τ E) : Rn ly sc own cc nL fr lo pc L (.int x :: .int (nI j) :: .ref k :: st) σ E := r_zast hd hq hly hj hn hx (K _ (vw_w hV hs))
theorem r_iastPM {k j n : Nat} {x : Int32} (hV : vwM σ = V) (hd : decode cc pc = .ok (.iastore, 1)) (hq : pc + 1 = q) (hly : ly[k]? = some (.inl (0, n))) (hs : scrM k j = false) (hj : j < n) (hn : n < 2 ^ 31) (K : ∀ τ, vwM τ = wr V k j x → Rn ly sc own cc nL fr lo q L st τ E) : Rn ly sc own cc nL fr lo pc L (.int x :: .int (nI j) :: .ref k :: st) σ E := r_iast hd hq hly hj hn (K _ (vwM_w hV hs))
theorem r_zastPM {k j n : Nat} {x : Int32} (hV : vwM σ = V) (hd : decode cc pc = .ok (.bastore, 1)) (hq : pc + 1 = q) (hly : ly[k]? = some (.inl (1, n))) (hs : scrM k j = false) (hj : j < n) (hn : n < 2 ^ 31) (hx : x = 0 ∨ x = 1) (K : ∀ τ, vwM τ = wr V k j x → Rn ly sc own cc nL fr lo q L st τ E) : Rn ly sc own cc nL fr lo pc L (.int x :: .int (nI j) :: .ref k :: st) σ E := r_zast hd hq hly hj hn hx (K _ (vwM_w hV hs))
end ROWSP
theorem ppX1_9 {sc : Option (Nat × (Nat → Int32))} {cc : ByteArray} {nL fr lo pc q : Nat} {L : List (Option Value)} {st : List Value} {σ V : St} {E : Option Int32 → St → Prop} {x : Int32} (hV : vw σ = V) (hd : decode cc pc = .ok (.putfield 9, 3)) (hq : pc + 3 = q) (K : ∀ τ, vw τ = wr V 4 0 x → Rn LAYC sc RX1 cc nL fr lo q L (st) τ E) : Rn LAYC sc RX1 cc nL fr lo pc L (.int x :: .ref 4 :: st) σ E := pX1_9 hd hq (K _ (vw_w hV rfl))
theorem ppX2_25 {sc : Option (Nat × (Nat → Int32))} {cc : ByteArray} {nL fr lo pc q : Nat} {L : List (Option Value)} {st : List Value} {σ V : St} {E : Option Int32 → St → Prop} {x : Int32} (hV : vw σ = V) (hd : decode cc pc = .ok (.putfield 25, 3)) (hq : pc + 3 = q) (K : ∀ τ, vw τ = wr V 4 0 x → Rn LAYC sc RX2 cc nL fr lo q L (st) τ E) : Rn LAYC sc RX2 cc nL fr lo pc L (.int x :: .ref 4 :: st) σ E := pX2_25 hd hq (K _ (vw_w hV rfl))
theorem ppX4_9 {sc : Option (Nat × (Nat → Int32))} {cc : ByteArray} {nL fr lo pc q : Nat} {L : List (Option Value)} {st : List Value} {σ V : St} {E : Option Int32 → St → Prop} {x : Int32} (hV : vw σ = V) (hd : decode cc pc = .ok (.putfield 9, 3)) (hq : pc + 3 = q) (K : ∀ τ, vw τ = wr V 12 0 x → Rn LAYC sc RX4 cc nL fr lo q L (st) τ E) : Rn LAYC sc RX4 cc nL fr lo pc L (.int x :: .ref 12 :: st) σ E := pX4_9 hd hq (K _ (vw_w hV rfl))
theorem ppX5_54 {sc : Option (Nat × (Nat → Int32))} {cc : ByteArray} {nL fr lo pc q : Nat} {L : List (Option Value)} {st : List Value} {σ V : St} {E : Option Int32 → St → Prop} {x : Int32} (hV : vw σ = V) (hd : decode cc pc = .ok (.putfield 54, 3)) (hq : pc + 3 = q) (K : ∀ τ, vw τ = wr V 0 8 x → Rn LAYC sc RX5 cc nL fr lo q L (st) τ E) : Rn LAYC sc RX5 cc nL fr lo pc L (.int x :: .ref 0 :: st) σ E := pX5_54 hd hq (K _ (vw_w hV rfl))
theorem ppX5_58 {sc : Option (Nat × (Nat → Int32))} {cc : ByteArray} {nL fr lo pc q : Nat} {L : List (Option Value)} {st : List Value} {σ V : St} {E : Option Int32 → St → Prop} {x : Int32} (hV : vw σ = V) (hd : decode cc pc = .ok (.putfield 58, 3)) (hq : pc + 3 = q) (K : ∀ τ, vw τ = wr V 0 9 x → Rn LAYC sc RX5 cc nL fr lo q L (st) τ E) : Rn LAYC sc RX5 cc nL fr lo pc L (.int x :: .ref 0 :: st) σ E := pX5_58 hd hq (K _ (vw_w hV rfl))
theorem ppX5_205 {sc : Option (Nat × (Nat → Int32))} {cc : ByteArray} {nL fr lo pc q : Nat} {L : List (Option Value)} {st : List Value} {σ V : St} {E : Option Int32 → St → Prop} {x : Int32} (hV : vw σ = V) (hd : decode cc pc = .ok (.putfield 205, 3)) (hq : pc + 3 = q) (K : ∀ τ, vw τ = wr V 4 0 x → Rn LAYC sc RX5 cc nL fr lo q L (st) τ E) : Rn LAYC sc RX5 cc nL fr lo pc L (.int x :: .ref 4 :: st) σ E := pX5_205 hd hq (K _ (vw_w hV rfl))
theorem ppX5_208 {sc : Option (Nat × (Nat → Int32))} {cc : ByteArray} {nL fr lo pc q : Nat} {L : List (Option Value)} {st : List Value} {σ V : St} {E : Option Int32 → St → Prop} {x : Int32} (hV : vw σ = V) (hd : decode cc pc = .ok (.putfield 208, 3)) (hq : pc + 3 = q) (K : ∀ τ, vw τ = wr V 12 0 x → Rn LAYC sc RX5 cc nL fr lo q L (st) τ E) : Rn LAYC sc RX5 cc nL fr lo pc L (.int x :: .ref 12 :: st) σ E := pX5_208 hd hq (K _ (vw_w hV rfl))
theorem ppX6_25 {sc : Option (Nat × (Nat → Int32))} {cc : ByteArray} {nL fr lo pc q : Nat} {L : List (Option Value)} {st : List Value} {σ V : St} {E : Option Int32 → St → Prop} {x : Int32} (hV : vwM σ = V) (hd : decode cc pc = .ok (.putfield 25, 3)) (hq : pc + 3 = q) (K : ∀ τ, vwM τ = wr V 33 5 x → Rn LAY sc RX6 cc nL fr lo q L (st) τ E) : Rn LAY sc RX6 cc nL fr lo pc L (.int x :: .ref 33 :: st) σ E := pX6_25 hd hq (K _ (vwM_w hV rfl))
theorem ppX6_90 {sc : Option (Nat × (Nat → Int32))} {cc : ByteArray} {nL fr lo pc q : Nat} {L : List (Option Value)} {st : List Value} {σ V : St} {E : Option Int32 → St → Prop} {x : Int32} (hV : vwM σ = V) (hd : decode cc pc = .ok (.putfield 90, 3)) (hq : pc + 3 = q) (K : ∀ τ, vwM τ = wr V 33 29 x → Rn LAY sc RX6 cc nL fr lo q L (st) τ E) : Rn LAY sc RX6 cc nL fr lo pc L (.int x :: .ref 33 :: st) σ E := pX6_90 hd hq (K _ (vwM_w hV rfl))
theorem ppX6_97 {sc : Option (Nat × (Nat → Int32))} {cc : ByteArray} {nL fr lo pc q : Nat} {L : List (Option Value)} {st : List Value} {σ V : St} {E : Option Int32 → St → Prop} {x : Int32} (hV : vwM σ = V) (hd : decode cc pc = .ok (.putfield 97, 3)) (hq : pc + 3 = q) (K : ∀ τ, vwM τ = wr V 33 7 x → Rn LAY sc RX6 cc nL fr lo q L (st) τ E) : Rn LAY sc RX6 cc nL fr lo pc L (.int x :: .ref 33 :: st) σ E := pX6_97 hd hq (K _ (vwM_w hV rfl))
theorem ppX6_104 {sc : Option (Nat × (Nat → Int32))} {cc : ByteArray} {nL fr lo pc q : Nat} {L : List (Option Value)} {st : List Value} {σ V : St} {E : Option Int32 → St → Prop} {x : Int32} (hV : vwM σ = V) (hd : decode cc pc = .ok (.putfield 104, 3)) (hq : pc + 3 = q) (K : ∀ τ, vwM τ = wr V 33 19 x → Rn LAY sc RX6 cc nL fr lo q L (st) τ E) : Rn LAY sc RX6 cc nL fr lo pc L (.int x :: .ref 33 :: st) σ E := pX6_104 hd hq (K _ (vwM_w hV rfl))
theorem ppX6_121 {sc : Option (Nat × (Nat → Int32))} {cc : ByteArray} {nL fr lo pc q : Nat} {L : List (Option Value)} {st : List Value} {σ V : St} {E : Option Int32 → St → Prop} {x : Int32} (hV : vwM σ = V) (hd : decode cc pc = .ok (.putfield 121, 3)) (hq : pc + 3 = q) (K : ∀ τ, vwM τ = wr V 33 30 x → Rn LAY sc RX6 cc nL fr lo q L (st) τ E) : Rn LAY sc RX6 cc nL fr lo pc L (.int x :: .ref 33 :: st) σ E := pX6_121 hd hq (K _ (vwM_w hV rfl))
theorem ppX6_222 {sc : Option (Nat × (Nat → Int32))} {cc : ByteArray} {nL fr lo pc q : Nat} {L : List (Option Value)} {st : List Value} {σ V : St} {E : Option Int32 → St → Prop} {x : Int32} (hV : vwM σ = V) (hd : decode cc pc = .ok (.putfield 222, 3)) (hq : pc + 3 = q) (K : ∀ τ, vwM τ = wr V 33 6 x → Rn LAY sc RX6 cc nL fr lo q L (st) τ E) : Rn LAY sc RX6 cc nL fr lo pc L (.int x :: .ref 33 :: st) σ E := pX6_222 hd hq (K _ (vwM_w hV rfl))
/-! ===== ends of what may be refused ===== -/
def resO (c val : Int32) : Int32 := if c = 0 then val else c
def resB (c val : Int32) : Int32 := if c = 0 then val else 1000000 - c
def stO (c : Int32) (V' R : St) : St := if c = 0 then V' else R
def rfM (V : St) (c : Int32) : St := wr V 58 (-c).toNatClampNeg (V 58 (-c).toNatClampNeg + 1)
def rfC (V : St) (c : Int32) : St := wr V 31 (-c).toNatClampNeg (V 31 (-c).toNatClampNeg + 1)
theorem eo_bad {c k val : Int32} {V' τ : St} {rf : St → Int32 → St} {V : St} (hc : c = k) (hk : k ≠ 0) (h : vwM τ = rf V k) : k = resO c val ∧ vwM τ = stO c V' (rf V c) := by
  subst hc
  exact ⟨(if_neg hk).symm, h.trans (if_neg hk).symm⟩
theorem eb_bad {c k val : Int32} {V' τ : St} {rf : St → Int32 → St} {V : St} (hc : c = k) (hk : k ≠ 0) (h : vwM τ = rf V k) : 1000000 - k = resB c val ∧ vwM τ = stO c V' (rf V c) := by
  subst hc
  exact ⟨(if_neg hk).symm, h.trans (if_neg hk).symm⟩
theorem eo_ok {c v val : Int32} {V' R τ : St} (hc : c = 0) (hv : v = val) (h : vwM τ = V') : v = resO c val ∧ vwM τ = stO c V' R := ⟨hv.trans (if_pos hc).symm, h.trans (if_pos hc).symm⟩
theorem eb_ok {c v val : Int32} {V' R τ : St} (hc : c = 0) (hv : v = val) (h : vwM τ = V') : v = resB c val ∧ vwM τ = stO c V' R := ⟨hv.trans (if_pos hc).symm, h.trans (if_pos hc).symm⟩
/-! ===== why calls are refused (the same for both) ===== -/
def cMinute (V : St) (d x y z : Int32) : Int32 := if ix d 8 = 0 then -1 else if x < -50 then -4 else if y < -50 then -4 else if z < nI 1 then -4 else if nI 50 < x then -6 else if nI 50 < y then -6 else if nI 50 < z then -6 else if nv V 34 d.toNatClampNeg = 24 then -6 else 0
def cBlock (V : St) (k x0 x1 y0 y1 f t : Int32) : Int32 := if inN k (nI 0) (nI 3) = 0 then -2 else if x0 < 0 then -4 else if y0 < 0 then -4 else if f < 0 then -4 else if x1 ≤ x0 then -4 else if y1 ≤ y0 then -4 else if t ≤ f then -4 else if nI 200 < x1 then -6 else if nI 200 < y1 then -6 else if nI 200 < t then -6 else if nv V 33 7 = 40 then -6 else 0
def cTree (V : St) (b : Int32) : Int32 := if ix b (nv V 33 7) = 0 then -1 else if nv V 39 b.toNatClampNeg = 1 then 0 else -2
def cShare (V : St) (b d e : Int32) : Int32 := if ix b (nv V 33 7) = 0 then -1 else if ix d 8 = 0 then -1 else if nv V 39 b.toNatClampNeg = 1 then (if e < 0 then -4 else if nI 8 < e then -6 else 0) else -2
def cMost (V : St) (b v : Int32) : Int32 := if ix b (nv V 33 7) = 0 then -1 else if nv V 39 b.toNatClampNeg = 1 then (if v < nI (nv V 45 b.toNatClampNeg) then -4 else if nI 200 < v then -6 else 0) else -2
def cCut (V : St) (b v : Int32) : Int32 := if ix b (nv V 33 7) = 0 then -1 else if nv V 39 b.toNatClampNeg = 1 then (if nv V 49 b.toNatClampNeg = 0 then (if v ≤ nI (nv V 44 b.toNatClampNeg) then -4 else if nI (nv V 45 b.toNatClampNeg) < v then -6 else 0) else -3) else -2
def cGo (V : St) (b : Int32) : Int32 := if ix b (nv V 33 7) = 0 then -1 else if nv V 49 b.toNatClampNeg = 0 then 0 else -3
def cWindow (V : St) (s a ua ub za zb : Int32) : Int32 := if inN s (nI 0) (nI 3) = 0 then -2 else if a < 0 then -4 else if ua < 0 then -4 else if za < 0 then -4 else if ub ≤ ua then -4 else if zb ≤ za then -4 else if nI 200 < a then -6 else if nI 200 < ub then -6 else if nI 200 < zb then -6 else if nI 64 < (ub - ua) * (zb - za) then -6 else if nv V 33 19 = 20 then -6 else 0
def cPart (e : Int32) : Int32 := if e < nI 1 then -4 else if nI 8 < e then -6 else 0
def cLaw (d l : Int32) : Int32 := if ix d 8 = 0 then -1 else if l < 0 then -4 else if nI 24 < l then -6 else 0
def cSun (V : St) (w d m : Int32) : Int32 := if ix w (nv V 33 19) = 0 then -1 else if isMin V d m = 0 then -1 else 0
def cLight (V : St) (w c d m : Int32) : Int32 := if ix w (nv V 33 19) = 0 then -1 else if ix c (cls V w.toNatClampNeg) = 0 then -1 else if isMin V d m = 0 then -1 else 0
def cTakes (V : St) (w d b : Int32) : Int32 := if ix w (nv V 33 19) = 0 then -1 else if ix d 8 = 0 then -1 else if ix b (nv V 33 7) = 0 then -1 else 0
def cHours (V : St) (w d : Int32) : Int32 := if ix w (nv V 33 19) = 0 then -1 else if ix d 8 = 0 then -1 else 0
def cLoss (V : St) (b w d : Int32) : Int32 := if ix w (nv V 33 19) = 0 then -1 else if ix d 8 = 0 then -1 else lack V b
def cBreach (V : St) (b t : Int32) : Int32 := if lack V b = 0 then (if t ≤ nI (nv V 44 b.toNatClampNeg) then -4 else if nI 200 < t then -6 else 0) else lack V b
def cYears (V : St) (n : Int32) : Int32 := if n < nI 1 then -4 else if nI 60 - nI (nv V 33 6) < n then -6 else 0
