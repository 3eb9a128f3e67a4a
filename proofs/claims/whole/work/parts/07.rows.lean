/-! ===== the state without scratch; its numbers ===== -/
/-- cells and fields that only one call uses -/
def scr (k i : Nat) : Bool := match k with
  | 33 => Nat.ble 31 i && Nat.ble i 41
  | 22 => Nat.ble 3 i
  | 23 => true
  | 24 => true
  | 25 => true
  | 26 => true
  | 27 => true
  | 28 => true
  | 29 => true
  | 32 => true
  | _ => false
def vw (σ : St) : St := fun k i => bif scr k i then 0 else σ k i
theorem vw_at {σ V : St} (h : vw σ = V) {k i : Nat} (hs : scr k i = false) : σ k i = V k i := by
  rw [← h]
  simp [vw, hs]
theorem vw_row {σ V : St} (h : vw σ = V) {k : Nat} (hs : ∀ i, scr k i = false) : σ k = V k := by
  funext i
  exact vw_at h (hs i)
theorem vw_ext {σ τ : St} (h : ∀ k i, scr k i = false → τ k i = σ k i) : vw τ = vw σ := by
  funext k i
  unfold vw
  cases hs : scr k i with
  | true => rfl
  | false => exact h k i hs
theorem vw_put {σ : St} {k j : Nat} {x : Int32} (h : scr k j = true) : vw (va_up σ k (upd (σ k) j x)) = vw σ := by
  apply vw_ext
  intro a b hs
  unfold va_up upd
  by_cases ha : a = k
  · subst ha
    by_cases hb : b = j
    · subst hb
      rw [h] at hs
      cases hs
    · simp [hb]
  · simp [ha]
def scrM (k i : Nat) : Bool := match k with
  | 33 => Nat.ble 31 i && Nat.ble i 41
  | _ => false
def vwM (σ : St) : St := fun k i => bif scrM k i then 0 else σ k i
theorem vwM_at {σ V : St} (h : vwM σ = V) {k i : Nat} (hs : scrM k i = false) : σ k i = V k i := by
  rw [← h]
  simp [vwM, hs]
theorem vwM_row {σ V : St} (h : vwM σ = V) {k : Nat} (hs : ∀ i, scrM k i = false) : σ k = V k := by
  funext i
  exact vwM_at h (hs i)
theorem vwM_ext {σ τ : St} (h : ∀ k i, scrM k i = false → τ k i = σ k i) : vwM τ = vwM σ := by
  funext k i
  unfold vwM
  cases hs : scrM k i with
  | true => rfl
  | false => exact h k i hs
theorem vwM_put {σ : St} {k j : Nat} {x : Int32} (h : scrM k j = true) : vwM (va_up σ k (upd (σ k) j x)) = vwM σ := by
  apply vwM_ext
  intro a b hs
  unfold va_up upd
  by_cases ha : a = k
  · subst ha
    by_cases hb : b = j
    · subst hb
      rw [h] at hs
      cases hs
    · simp [hb]
  · simp [ha]
theorem u2 (σ : St) (k j : Nat) (x : Int32) (a b : Nat) : va_up σ k (upd (σ k) j x) a b = if a = k ∧ b = j then x else σ a b := by
  unfold va_up upd
  by_cases ha : a = k
  · subst ha
    by_cases hb : b = j <;> simp [hb]
  · simp [ha]
def nv (V : St) (k i : Nat) : Nat := (V k i).toNatClampNeg
theorem nv_lt (V : St) (k i : Nat) : nv V k i < 2147483648 := by
  unfold nv
  have h := Int32.toInt_lt (V k i)
  have e : (V k i).toNatClampNeg = (V k i).toInt.toNat := rfl
  omega
def nneg (k i : Nat) : Bool := match k with
  | 0 => Nat.ble 8 i
  | 2 => true
  | 4 => true
  | 5 => true
  | 6 => true
  | 7 => true
  | 8 => true
  | 9 => true
  | 10 => true
  | 11 => true
  | 12 => true
  | 13 => true
  | 14 => true
  | 15 => true
  | 16 => true
  | 17 => true
  | 18 => true
  | 19 => true
  | 21 => true
  | 30 => true
  | 33 => Nat.ble i 28 || Nat.beq i 30
  | 34 => true
  | 37 => true
  | 38 => true
  | 39 => true
  | 40 => true
  | 41 => true
  | 42 => true
  | 43 => true
  | 44 => true
  | 45 => true
  | 46 => true
  | 47 => true
  | 48 => true
  | 49 => true
  | 50 => true
  | 51 => true
  | 52 => true
  | 53 => true
  | 54 => true
  | 55 => true
  | 57 => true
  | 59 => true
  | _ => false
def ub (k i : Nat) : Nat := match k with
  | 0 => if i = 8 then 8 else 60
  | 2 => 24
  | 34 => 24
  | 4 => 40
  | 5 => 3
  | 39 => 3
  | 9 => 8
  | 47 => 8
  | 10 => 1
  | 11 => 1
  | 48 => 1
  | 49 => 1
  | 21 => 1
  | 57 => 1
  | 59 => 1
  | 12 => 20
  | 13 => 3
  | 50 => 3
  | 14 => 1
  | 30 => 24
  | 38 => 24
  | 37 => 50
  | 33 => if i = 5 then 8 else if i = 6 then 60 else if i = 7 then 40 else if i = 19 then 20 else 200
  | _ => 200
def InvN (V : St) : Prop := ∀ k i, nneg k i = true → V k i = nI (nv V k i) ∧ nv V k i ≤ ub k i
theorem bd {V : St} (hI : InvN V) (k i n : Nat) (h : nneg k i = true) (e : ub k i = n) : nv V k i ≤ n := e ▸ (hI k i h).2
section ROWSN
variable {ly : List LyE} {sc : Option (Nat × (Nat → Int32))} {own : String} {cc : ByteArray} {nL fr lo pc q : Nat} {L : List (Option Value)} {st : List Value} {σ V : St} {E : Option Int32 → St → Prop}
theorem r_icmp_eqN {x y : Nat} {off : Int} {t : Nat} (hd : decode cc pc = .ok (.if_icmp .eq off, 3)) (ht : (pc : Int) + off = (t : Int)) (hq : pc + 3 = q) (hx : x < 2 ^ 31) (hy : y < 2 ^ 31) (Kt : x = y → Rn ly sc own cc nL fr lo t L st σ E) (Kf : ¬ x = y → Rn ly sc own cc nL fr lo q L st σ E) : Rn ly sc own cc nL fr lo pc L (.int (nI y) :: .int (nI x) :: st) σ E := r_icmp_eq hd ht hq (fun h => Kt ((nI_eq hx hy).mp h)) (fun h => Kf (fun e => h ((nI_eq hx hy).mpr e)))
theorem r_icmp_ltN {x y : Nat} {off : Int} {t : Nat} (hd : decode cc pc = .ok (.if_icmp .lt off, 3)) (ht : (pc : Int) + off = (t : Int)) (hq : pc + 3 = q) (hx : x < 2 ^ 31) (hy : y < 2 ^ 31) (Kt : x < y → Rn ly sc own cc nL fr lo t L st σ E) (Kf : ¬ x < y → Rn ly sc own cc nL fr lo q L st σ E) : Rn ly sc own cc nL fr lo pc L (.int (nI y) :: .int (nI x) :: st) σ E := r_icmp_lt hd ht hq (fun h => Kt ((nI_ltI hx hy).mp h)) (fun h => Kf (fun e => h ((nI_ltI hx hy).mpr e)))
theorem r_icmp_leN {x y : Nat} {off : Int} {t : Nat} (hd : decode cc pc = .ok (.if_icmp .le off, 3)) (ht : (pc : Int) + off = (t : Int)) (hq : pc + 3 = q) (hx : x < 2 ^ 31) (hy : y < 2 ^ 31) (Kt : x ≤ y → Rn ly sc own cc nL fr lo t L st σ E) (Kf : ¬ x ≤ y → Rn ly sc own cc nL fr lo q L st σ E) : Rn ly sc own cc nL fr lo pc L (.int (nI y) :: .int (nI x) :: st) σ E := r_icmp_le hd ht hq (fun h => Kt ((nI_leI hx hy).mp h)) (fun h => Kf (fun e => h ((nI_leI hx hy).mpr e)))
theorem r_icmp_neN {x y : Nat} {off : Int} {t : Nat} (hd : decode cc pc = .ok (.if_icmp .ne off, 3)) (ht : (pc : Int) + off = (t : Int)) (hq : pc + 3 = q) (hx : x < 2 ^ 31) (hy : y < 2 ^ 31) (Kt : ¬ x = y → Rn ly sc own cc nL fr lo t L st σ E) (Kf : x = y → Rn ly sc own cc nL fr lo q L st σ E) : Rn ly sc own cc nL fr lo pc L (.int (nI y) :: .int (nI x) :: st) σ E := r_icmp_ne hd ht hq (fun h => Kt (fun e => h ((nI_eq hx hy).mpr e))) (fun h => Kf ((nI_eq hx hy).mp h))
theorem r_icmp_geN {x y : Nat} {off : Int} {t : Nat} (hd : decode cc pc = .ok (.if_icmp .ge off, 3)) (ht : (pc : Int) + off = (t : Int)) (hq : pc + 3 = q) (hx : x < 2 ^ 31) (hy : y < 2 ^ 31) (Kt : y ≤ x → Rn ly sc own cc nL fr lo t L st σ E) (Kf : ¬ y ≤ x → Rn ly sc own cc nL fr lo q L st σ E) : Rn ly sc own cc nL fr lo pc L (.int (nI y) :: .int (nI x) :: st) σ E := r_icmp_ge hd ht hq (fun h => Kt ((nI_leI hy hx).mp h)) (fun h => Kf (fun e => h ((nI_leI hy hx).mpr e)))
theorem r_icmp_gtN {x y : Nat} {off : Int} {t : Nat} (hd : decode cc pc = .ok (.if_icmp .gt off, 3)) (ht : (pc : Int) + off = (t : Int)) (hq : pc + 3 = q) (hx : x < 2 ^ 31) (hy : y < 2 ^ 31) (Kt : y < x → Rn ly sc own cc nL fr lo t L st σ E) (Kf : ¬ y < x → Rn ly sc own cc nL fr lo q L st σ E) : Rn ly sc own cc nL fr lo pc L (.int (nI y) :: .int (nI x) :: st) σ E := r_icmp_gt hd ht hq (fun h => Kt ((nI_ltI hy hx).mp h)) (fun h => Kf (fun e => h ((nI_ltI hy hx).mpr e)))
theorem nI_z {x : Nat} (hx : x < 2 ^ 31) : nI x = 0 ↔ x = 0 := by
  rw [← nI_0, nI_eq hx (by decide)]
theorem r_if_eqN {x : Nat} {off : Int} {t : Nat} (hd : decode cc pc = .ok (.ifCond .eq off, 3)) (ht : (pc : Int) + off = (t : Int)) (hq : pc + 3 = q) (hx : x < 2 ^ 31) (Kt : x = 0 → Rn ly sc own cc nL fr lo t L st σ E) (Kf : ¬ x = 0 → Rn ly sc own cc nL fr lo q L st σ E) : Rn ly sc own cc nL fr lo pc L (.int (nI x) :: st) σ E := r_if_eq hd ht hq (fun h => Kt ((nI_z hx).mp h)) (fun h => Kf (fun e => h ((nI_z hx).mpr e)))
theorem r_if_neN {x : Nat} {off : Int} {t : Nat} (hd : decode cc pc = .ok (.ifCond .ne off, 3)) (ht : (pc : Int) + off = (t : Int)) (hq : pc + 3 = q) (hx : x < 2 ^ 31) (Kt : ¬ x = 0 → Rn ly sc own cc nL fr lo t L st σ E) (Kf : x = 0 → Rn ly sc own cc nL fr lo q L st σ E) : Rn ly sc own cc nL fr lo pc L (.int (nI x) :: st) σ E := r_if_ne hd ht hq (fun h => Kt (fun e => h ((nI_z hx).mpr e))) (fun h => Kf ((nI_z hx).mp h))
theorem r_if_leN {x : Nat} {off : Int} {t : Nat} (hd : decode cc pc = .ok (.ifCond .le off, 3)) (ht : (pc : Int) + off = (t : Int)) (hq : pc + 3 = q) (hx : x < 2 ^ 31) (Kt : x = 0 → Rn ly sc own cc nL fr lo t L st σ E) (Kf : ¬ x = 0 → Rn ly sc own cc nL fr lo q L st σ E) : Rn ly sc own cc nL fr lo pc L (.int (nI x) :: st) σ E := r_if_le hd ht hq (fun h => Kt (by
    have := (nI_leI hx (by decide)).mp (by rw [nI_0]; exact h : nI x ≤ nI 0)
    omega)) (fun h => Kf (fun e => h (by rw [e]; decide)))
theorem r_if_gtN {x : Nat} {off : Int} {t : Nat} (hd : decode cc pc = .ok (.ifCond .gt off, 3)) (ht : (pc : Int) + off = (t : Int)) (hq : pc + 3 = q) (hx : x < 2 ^ 31) (Kt : ¬ x = 0 → Rn ly sc own cc nL fr lo t L st σ E) (Kf : x = 0 → Rn ly sc own cc nL fr lo q L st σ E) : Rn ly sc own cc nL fr lo pc L (.int (nI x) :: st) σ E := r_if_gt hd ht hq (fun h => Kt (fun e => by rw [e] at h; exact absurd h (by decide))) (fun h => Kf (by
    by_cases e : x = 0
    · exact e
    · exact absurd (by rw [← nI_0]; exact (nI_ltI (by decide) hx).mpr (Nat.pos_of_ne_zero e) : 0 < nI x) h))
theorem r_if_ltN {x : Nat} {off : Int} {t : Nat} (hd : decode cc pc = .ok (.ifCond .lt off, 3)) (ht : (pc : Int) + off = (t : Int)) (hq : pc + 3 = q) (hx : x < 2 ^ 31) (Kf : Rn ly sc own cc nL fr lo q L st σ E) : Rn ly sc own cc nL fr lo pc L (.int (nI x) :: st) σ E := r_if_lt hd ht hq (fun h => absurd h (nI_pos hx)) (fun _ => Kf)
theorem r_if_geN {x : Nat} {off : Int} {t : Nat} (hd : decode cc pc = .ok (.ifCond .ge off, 3)) (ht : (pc : Int) + off = (t : Int)) (hq : pc + 3 = q) (hx : x < 2 ^ 31) (Kt : Rn ly sc own cc nL fr lo t L st σ E) : Rn ly sc own cc nL fr lo pc L (.int (nI x) :: st) σ E := r_if_ge hd ht hq (fun _ => Kt) (fun h => absurd (nI_pos' hx) h)
/-- loads of what lasts -/
theorem r_ialdV {k j n : Nat} (hV : vw σ = V) (hI : InvN V) (hd : decode cc pc = .ok (.iaload, 1)) (hq : pc + 1 = q) (hly : ly[k]? = some (.inl (0, n))) (hs : scr k j = false) (hg : nneg k j = true) (hn : n < 2 ^ 31) (hj : j < n) (K : Rn ly sc own cc nL fr lo q L (.int (nI (nv V k j)) :: st) σ E) : Rn ly sc own cc nL fr lo pc L (.int (nI j) :: .ref k :: st) σ E := by
  refine r_iald hd hq hly hj hn ?_
  rw [vw_at hV hs, (hI k j hg).1]
  exact K
theorem r_zaldV {k j n : Nat} (hV : vw σ = V) (hI : InvN V) (hd : decode cc pc = .ok (.baload, 1)) (hq : pc + 1 = q) (hly : ly[k]? = some (.inl (1, n))) (hs : scr k j = false) (hg : nneg k j = true) (hn : n < 2 ^ 31) (hj : j < n) (K : Rn ly sc own cc nL fr lo q L (.int (nI (nv V k j)) :: st) σ E) : Rn ly sc own cc nL fr lo pc L (.int (nI j) :: .ref k :: st) σ E := by
  refine r_zald hd hq hly hj hn ?_
  rw [vw_at hV hs, (hI k j hg).1]
  exact K
theorem r_ialdW {k j n : Nat} (hV : vw σ = V) (hd : decode cc pc = .ok (.iaload, 1)) (hq : pc + 1 = q) (hly : ly[k]? = some (.inl (0, n))) (hs : scr k j = false) (hn : n < 2 ^ 31) (hj : j < n) (K : Rn ly sc own cc nL fr lo q L (.int (V k j) :: st) σ E) : Rn ly sc own cc nL fr lo pc L (.int (nI j) :: .ref k :: st) σ E := by
  refine r_iald hd hq hly hj hn ?_
  rw [vw_at hV hs]
  exact K
/-- stores to scratch -/
theorem r_iastS {k j n : Nat} {x : Int32} (hV : vw σ = V) (hd : decode cc pc = .ok (.iastore, 1)) (hq : pc + 1 = q) (hly : ly[k]? = some (.inl (0, n))) (hs : scr k j = true) (hj : j < n) (hn : n < 2 ^ 31) (K : ∀ τ, τ = va_up σ k (upd (σ k) j x) → vw τ = V → Rn ly sc own cc nL fr lo q L st τ E) : Rn ly sc own cc nL fr lo pc L (.int x :: .int (nI j) :: .ref k :: st) σ E := r_iast hd hq hly hj hn (K _ rfl (by rw [vw_put hs]; exact hV))
theorem r_zastS {k j n : Nat} {x : Int32} (hV : vw σ = V) (hd : decode cc pc = .ok (.bastore, 1)) (hq : pc + 1 = q) (hly : ly[k]? = some (.inl (1, n))) (hs : scr k j = true) (hj : j < n) (hn : n < 2 ^ 31) (hx : x = 0 ∨ x = 1) (K : ∀ τ, τ = va_up σ k (upd (σ k) j x) → vw τ = V → Rn ly sc own cc nL fr lo q L st τ E) : Rn ly sc own cc nL fr lo pc L (.int x :: .int (nI j) :: .ref k :: st) σ E := r_zast hd hq hly hj hn hx (K _ rfl (by rw [vw_put hs]; exact hV))
/-- loads of what lasts -/
theorem r_ialdVM {k j n : Nat} (hV : vwM σ = V) (hI : InvN V) (hd : decode cc pc = .ok (.iaload, 1)) (hq : pc + 1 = q) (hly : ly[k]? = some (.inl (0, n))) (hs : scrM k j = false) (hg : nneg k j = true) (hn : n < 2 ^ 31) (hj : j < n) (K : Rn ly sc own cc nL fr lo q L (.int (nI (nv V k j)) :: st) σ E) : Rn ly sc own cc nL fr lo pc L (.int (nI j) :: .ref k :: st) σ E := by
  refine r_iald hd hq hly hj hn ?_
  rw [vwM_at hV hs, (hI k j hg).1]
  exact K
theorem r_zaldVM {k j n : Nat} (hV : vwM σ = V) (hI : InvN V) (hd : decode cc pc = .ok (.baload, 1)) (hq : pc + 1 = q) (hly : ly[k]? = some (.inl (1, n))) (hs : scrM k j = false) (hg : nneg k j = true) (hn : n < 2 ^ 31) (hj : j < n) (K : Rn ly sc own cc nL fr lo q L (.int (nI (nv V k j)) :: st) σ E) : Rn ly sc own cc nL fr lo pc L (.int (nI j) :: .ref k :: st) σ E := by
  refine r_zald hd hq hly hj hn ?_
  rw [vwM_at hV hs, (hI k j hg).1]
  exact K
theorem r_ialdWM {k j n : Nat} (hV : vwM σ = V) (hd : decode cc pc = .ok (.iaload, 1)) (hq : pc + 1 = q) (hly : ly[k]? = some (.inl (0, n))) (hs : scrM k j = false) (hn : n < 2 ^ 31) (hj : j < n) (K : Rn ly sc own cc nL fr lo q L (.int (V k j) :: st) σ E) : Rn ly sc own cc nL fr lo pc L (.int (nI j) :: .ref k :: st) σ E := by
  refine r_iald hd hq hly hj hn ?_
  rw [vwM_at hV hs]
  exact K
/-- stores to scratch -/
theorem r_iastSM {k j n : Nat} {x : Int32} (hV : vwM σ = V) (hd : decode cc pc = .ok (.iastore, 1)) (hq : pc + 1 = q) (hly : ly[k]? = some (.inl (0, n))) (hs : scrM k j = true) (hj : j < n) (hn : n < 2 ^ 31) (K : ∀ τ, τ = va_up σ k (upd (σ k) j x) → vwM τ = V → Rn ly sc own cc nL fr lo q L st τ E) : Rn ly sc own cc nL fr lo pc L (.int x :: .int (nI j) :: .ref k :: st) σ E := r_iast hd hq hly hj hn (K _ rfl (by rw [vwM_put hs]; exact hV))
theorem r_zastSM {k j n : Nat} {x : Int32} (hV : vwM σ = V) (hd : decode cc pc = .ok (.bastore, 1)) (hq : pc + 1 = q) (hly : ly[k]? = some (.inl (1, n))) (hs : scrM k j = true) (hj : j < n) (hn : n < 2 ^ 31) (hx : x = 0 ∨ x = 1) (K : ∀ τ, τ = va_up σ k (upd (σ k) j x) → vwM τ = V → Rn ly sc own cc nL fr lo q L st τ E) : Rn ly sc own cc nL fr lo pc L (.int x :: .int (nI j) :: .ref k :: st) σ E := r_zast hd hq hly hj hn hx (K _ rfl (by rw [vwM_put hs]; exact hV))
/-- a number on the stack, by another word -/
theorem r_as {x y : Int32} (e : x = y) (K : Rn ly sc own cc nL fr lo pc L (.int y :: st) σ E) : Rn ly sc own cc nL fr lo pc L (.int x :: st) σ E := e ▸ K
end ROWSN
theorem psX0_21 {sc : Option (Nat × (Nat → Int32))} {cc : ByteArray} {nL fr lo pc q : Nat} {L : List (Option Value)} {st : List Value} {σ V : St} {E : Option Int32 → St → Prop} {x : Int32} (hV : vw σ = V) (hd : decode cc pc = .ok (.putfield 21, 3)) (hq : pc + 3 = q) (K : ∀ τ, τ = va_up σ 22 (upd (σ 22) 3 x) → vw τ = V → Rn LAYC sc RX0 cc nL fr lo q L (st) τ E) : Rn LAYC sc RX0 cc nL fr lo pc L (.int x :: .ref 22 :: st) σ E := pX0_21 hd hq (K _ rfl (by rw [vw_put rfl]; exact hV))
theorem psX0_25 {sc : Option (Nat × (Nat → Int32))} {cc : ByteArray} {nL fr lo pc q : Nat} {L : List (Option Value)} {st : List Value} {σ V : St} {E : Option Int32 → St → Prop} {x : Int32} (hV : vw σ = V) (hd : decode cc pc = .ok (.putfield 25, 3)) (hq : pc + 3 = q) (K : ∀ τ, τ = va_up σ 22 (upd (σ 22) 4 x) → vw τ = V → Rn LAYC sc RX0 cc nL fr lo q L (st) τ E) : Rn LAYC sc RX0 cc nL fr lo pc L (.int x :: .ref 22 :: st) σ E := pX0_25 hd hq (K _ rfl (by rw [vw_put rfl]; exact hV))
theorem gvX1_9 {sc : Option (Nat × (Nat → Int32))} {cc : ByteArray} {nL fr lo pc q : Nat} {L : List (Option Value)} {st : List Value} {σ V : St} {E : Option Int32 → St → Prop} (hV : vw σ = V) (hI : InvN V) (hd : decode cc pc = .ok (.getfield 9, 3)) (hq : pc + 3 = q) (K : Rn LAYC sc RX1 cc nL fr lo q L (.int (nI (nv V 4 0)) :: st) σ E) : Rn LAYC sc RX1 cc nL fr lo pc L (.ref 4 :: st) σ E := by
  refine gX1_9 hd hq ?_
  rw [vw_at hV rfl, (hI 4 0 rfl).1]
  exact K
theorem psX2_9 {sc : Option (Nat × (Nat → Int32))} {cc : ByteArray} {nL fr lo pc q : Nat} {L : List (Option Value)} {st : List Value} {σ V : St} {E : Option Int32 → St → Prop} {x : Int32} (hV : vw σ = V) (hd : decode cc pc = .ok (.putfield 9, 3)) (hq : pc + 3 = q) (K : ∀ τ, τ = va_up σ 26 (upd (σ 26) 0 x) → vw τ = V → Rn LAYC sc RX2 cc nL fr lo q L (st) τ E) : Rn LAYC sc RX2 cc nL fr lo pc L (.int x :: .ref 26 :: st) σ E := pX2_9 hd hq (K _ rfl (by rw [vw_put rfl]; exact hV))
theorem gvX2_25 {sc : Option (Nat × (Nat → Int32))} {cc : ByteArray} {nL fr lo pc q : Nat} {L : List (Option Value)} {st : List Value} {σ V : St} {E : Option Int32 → St → Prop} (hV : vw σ = V) (hI : InvN V) (hd : decode cc pc = .ok (.getfield 25, 3)) (hq : pc + 3 = q) (K : Rn LAYC sc RX2 cc nL fr lo q L (.int (nI (nv V 4 0)) :: st) σ E) : Rn LAYC sc RX2 cc nL fr lo pc L (.ref 4 :: st) σ E := by
  refine gX2_25 hd hq ?_
  rw [vw_at hV rfl, (hI 4 0 rfl).1]
  exact K
theorem psX2_45 {sc : Option (Nat × (Nat → Int32))} {cc : ByteArray} {nL fr lo pc q : Nat} {L : List (Option Value)} {st : List Value} {σ V : St} {E : Option Int32 → St → Prop} {x : Int32} (hV : vw σ = V) (hd : decode cc pc = .ok (.putfield 45, 3)) (hq : pc + 3 = q) (K : ∀ τ, τ = va_up σ 22 (upd (σ 22) 3 x) → vw τ = V → Rn LAYC sc RX2 cc nL fr lo q L (st) τ E) : Rn LAYC sc RX2 cc nL fr lo pc L (.int x :: .ref 22 :: st) σ E := pX2_45 hd hq (K _ rfl (by rw [vw_put rfl]; exact hV))
theorem psX2_48 {sc : Option (Nat × (Nat → Int32))} {cc : ByteArray} {nL fr lo pc q : Nat} {L : List (Option Value)} {st : List Value} {σ V : St} {E : Option Int32 → St → Prop} {x : Int32} (hV : vw σ = V) (hd : decode cc pc = .ok (.putfield 48, 3)) (hq : pc + 3 = q) (K : ∀ τ, τ = va_up σ 22 (upd (σ 22) 4 x) → vw τ = V → Rn LAYC sc RX2 cc nL fr lo q L (st) τ E) : Rn LAYC sc RX2 cc nL fr lo pc L (.int x :: .ref 22 :: st) σ E := pX2_48 hd hq (K _ rfl (by rw [vw_put rfl]; exact hV))
theorem gvX4_9 {sc : Option (Nat × (Nat → Int32))} {cc : ByteArray} {nL fr lo pc q : Nat} {L : List (Option Value)} {st : List Value} {σ V : St} {E : Option Int32 → St → Prop} (hV : vw σ = V) (hI : InvN V) (hd : decode cc pc = .ok (.getfield 9, 3)) (hq : pc + 3 = q) (K : Rn LAYC sc RX4 cc nL fr lo q L (.int (nI (nv V 12 0)) :: st) σ E) : Rn LAYC sc RX4 cc nL fr lo pc L (.ref 12 :: st) σ E := by
  refine gX4_9 hd hq ?_
  rw [vw_at hV rfl, (hI 12 0 rfl).1]
  exact K
theorem gvX5_54 {sc : Option (Nat × (Nat → Int32))} {cc : ByteArray} {nL fr lo pc q : Nat} {L : List (Option Value)} {st : List Value} {σ V : St} {E : Option Int32 → St → Prop} (hV : vw σ = V) (hI : InvN V) (hd : decode cc pc = .ok (.getfield 54, 3)) (hq : pc + 3 = q) (K : Rn LAYC sc RX5 cc nL fr lo q L (.int (nI (nv V 0 8)) :: st) σ E) : Rn LAYC sc RX5 cc nL fr lo pc L (.ref 0 :: st) σ E := by
  refine gX5_54 hd hq ?_
  rw [vw_at hV rfl, (hI 0 8 rfl).1]
  exact K
theorem gvX5_58 {sc : Option (Nat × (Nat → Int32))} {cc : ByteArray} {nL fr lo pc q : Nat} {L : List (Option Value)} {st : List Value} {σ V : St} {E : Option Int32 → St → Prop} (hV : vw σ = V) (hI : InvN V) (hd : decode cc pc = .ok (.getfield 58, 3)) (hq : pc + 3 = q) (K : Rn LAYC sc RX5 cc nL fr lo q L (.int (nI (nv V 0 9)) :: st) σ E) : Rn LAYC sc RX5 cc nL fr lo pc L (.ref 0 :: st) σ E := by
  refine gX5_58 hd hq ?_
  rw [vw_at hV rfl, (hI 0 9 rfl).1]
  exact K
theorem gvX5_205 {sc : Option (Nat × (Nat → Int32))} {cc : ByteArray} {nL fr lo pc q : Nat} {L : List (Option Value)} {st : List Value} {σ V : St} {E : Option Int32 → St → Prop} (hV : vw σ = V) (hI : InvN V) (hd : decode cc pc = .ok (.getfield 205, 3)) (hq : pc + 3 = q) (K : Rn LAYC sc RX5 cc nL fr lo q L (.int (nI (nv V 4 0)) :: st) σ E) : Rn LAYC sc RX5 cc nL fr lo pc L (.ref 4 :: st) σ E := by
  refine gX5_205 hd hq ?_
  rw [vw_at hV rfl, (hI 4 0 rfl).1]
  exact K
theorem gvX5_208 {sc : Option (Nat × (Nat → Int32))} {cc : ByteArray} {nL fr lo pc q : Nat} {L : List (Option Value)} {st : List Value} {σ V : St} {E : Option Int32 → St → Prop} (hV : vw σ = V) (hI : InvN V) (hd : decode cc pc = .ok (.getfield 208, 3)) (hq : pc + 3 = q) (K : Rn LAYC sc RX5 cc nL fr lo q L (.int (nI (nv V 12 0)) :: st) σ E) : Rn LAYC sc RX5 cc nL fr lo pc L (.ref 12 :: st) σ E := by
  refine gX5_208 hd hq ?_
  rw [vw_at hV rfl, (hI 12 0 rfl).1]
  exact K
theorem psX5_231 {sc : Option (Nat × (Nat → Int32))} {cc : ByteArray} {nL fr lo pc q : Nat} {L : List (Option Value)} {st : List Value} {σ V : St} {E : Option Int32 → St → Prop} {x : Int32} (hV : vw σ = V) (hd : decode cc pc = .ok (.putfield 231, 3)) (hq : pc + 3 = q) (K : ∀ τ, τ = va_up σ 26 (upd (σ 26) 0 x) → vw τ = V → Rn LAYC sc RX5 cc nL fr lo q L (st) τ E) : Rn LAYC sc RX5 cc nL fr lo pc L (.int x :: .ref 26 :: st) σ E := pX5_231 hd hq (K _ rfl (by rw [vw_put rfl]; exact hV))
theorem gvX6_25 {sc : Option (Nat × (Nat → Int32))} {cc : ByteArray} {nL fr lo pc q : Nat} {L : List (Option Value)} {st : List Value} {σ V : St} {E : Option Int32 → St → Prop} (hV : vwM σ = V) (hI : InvN V) (hd : decode cc pc = .ok (.getfield 25, 3)) (hq : pc + 3 = q) (K : Rn LAY sc RX6 cc nL fr lo q L (.int (nI (nv V 33 5)) :: st) σ E) : Rn LAY sc RX6 cc nL fr lo pc L (.ref 33 :: st) σ E := by
  refine gX6_25 hd hq ?_
  rw [vwM_at hV rfl, (hI 33 5 rfl).1]
  exact K
theorem gwX6_90 {sc : Option (Nat × (Nat → Int32))} {cc : ByteArray} {nL fr lo pc q : Nat} {L : List (Option Value)} {st : List Value} {σ V : St} {E : Option Int32 → St → Prop} (hV : vwM σ = V) (hd : decode cc pc = .ok (.getfield 90, 3)) (hq : pc + 3 = q) (K : Rn LAY sc RX6 cc nL fr lo q L (.int (V 33 29) :: st) σ E) : Rn LAY sc RX6 cc nL fr lo pc L (.ref 33 :: st) σ E := by
  refine gX6_90 hd hq ?_
  rw [vwM_at hV rfl]
  exact K
theorem gvX6_97 {sc : Option (Nat × (Nat → Int32))} {cc : ByteArray} {nL fr lo pc q : Nat} {L : List (Option Value)} {st : List Value} {σ V : St} {E : Option Int32 → St → Prop} (hV : vwM σ = V) (hI : InvN V) (hd : decode cc pc = .ok (.getfield 97, 3)) (hq : pc + 3 = q) (K : Rn LAY sc RX6 cc nL fr lo q L (.int (nI (nv V 33 7)) :: st) σ E) : Rn LAY sc RX6 cc nL fr lo pc L (.ref 33 :: st) σ E := by
  refine gX6_97 hd hq ?_
  rw [vwM_at hV rfl, (hI 33 7 rfl).1]
  exact K
theorem gvX6_104 {sc : Option (Nat × (Nat → Int32))} {cc : ByteArray} {nL fr lo pc q : Nat} {L : List (Option Value)} {st : List Value} {σ V : St} {E : Option Int32 → St → Prop} (hV : vwM σ = V) (hI : InvN V) (hd : decode cc pc = .ok (.getfield 104, 3)) (hq : pc + 3 = q) (K : Rn LAY sc RX6 cc nL fr lo q L (.int (nI (nv V 33 19)) :: st) σ E) : Rn LAY sc RX6 cc nL fr lo pc L (.ref 33 :: st) σ E := by
  refine gX6_104 hd hq ?_
  rw [vwM_at hV rfl, (hI 33 19 rfl).1]
  exact K
theorem gvX6_121 {sc : Option (Nat × (Nat → Int32))} {cc : ByteArray} {nL fr lo pc q : Nat} {L : List (Option Value)} {st : List Value} {σ V : St} {E : Option Int32 → St → Prop} (hV : vwM σ = V) (hI : InvN V) (hd : decode cc pc = .ok (.getfield 121, 3)) (hq : pc + 3 = q) (K : Rn LAY sc RX6 cc nL fr lo q L (.int (nI (nv V 33 30)) :: st) σ E) : Rn LAY sc RX6 cc nL fr lo pc L (.ref 33 :: st) σ E := by
  refine gX6_121 hd hq ?_
  rw [vwM_at hV rfl, (hI 33 30 rfl).1]
  exact K
theorem psX6_124 {sc : Option (Nat × (Nat → Int32))} {cc : ByteArray} {nL fr lo pc q : Nat} {L : List (Option Value)} {st : List Value} {σ V : St} {E : Option Int32 → St → Prop} {x : Int32} (hV : vwM σ = V) (hd : decode cc pc = .ok (.putfield 124, 3)) (hq : pc + 3 = q) (K : ∀ τ, τ = va_up σ 33 (upd (σ 33) 36 x) → vwM τ = V → Rn LAY sc RX6 cc nL fr lo q L (st) τ E) : Rn LAY sc RX6 cc nL fr lo pc L (.int x :: .ref 33 :: st) σ E := pX6_124 hd hq (K _ rfl (by rw [vwM_put rfl]; exact hV))
theorem psX6_127 {sc : Option (Nat × (Nat → Int32))} {cc : ByteArray} {nL fr lo pc q : Nat} {L : List (Option Value)} {st : List Value} {σ V : St} {E : Option Int32 → St → Prop} {x : Int32} (hV : vwM σ = V) (hd : decode cc pc = .ok (.putfield 127, 3)) (hq : pc + 3 = q) (K : ∀ τ, τ = va_up σ 33 (upd (σ 33) 37 x) → vwM τ = V → Rn LAY sc RX6 cc nL fr lo q L (st) τ E) : Rn LAY sc RX6 cc nL fr lo pc L (.int x :: .ref 33 :: st) σ E := pX6_127 hd hq (K _ rfl (by rw [vwM_put rfl]; exact hV))
theorem psX6_130 {sc : Option (Nat × (Nat → Int32))} {cc : ByteArray} {nL fr lo pc q : Nat} {L : List (Option Value)} {st : List Value} {σ V : St} {E : Option Int32 → St → Prop} {x : Int32} (hV : vwM σ = V) (hd : decode cc pc = .ok (.putfield 130, 3)) (hq : pc + 3 = q) (K : ∀ τ, τ = va_up σ 33 (upd (σ 33) 38 x) → vwM τ = V → Rn LAY sc RX6 cc nL fr lo q L (st) τ E) : Rn LAY sc RX6 cc nL fr lo pc L (.int x :: .ref 33 :: st) σ E := pX6_130 hd hq (K _ rfl (by rw [vwM_put rfl]; exact hV))
theorem psX6_133 {sc : Option (Nat × (Nat → Int32))} {cc : ByteArray} {nL fr lo pc q : Nat} {L : List (Option Value)} {st : List Value} {σ V : St} {E : Option Int32 → St → Prop} {x : Int32} (hV : vwM σ = V) (hd : decode cc pc = .ok (.putfield 133, 3)) (hq : pc + 3 = q) (K : ∀ τ, τ = va_up σ 33 (upd (σ 33) 39 x) → vwM τ = V → Rn LAY sc RX6 cc nL fr lo q L (st) τ E) : Rn LAY sc RX6 cc nL fr lo pc L (.int x :: .ref 33 :: st) σ E := pX6_133 hd hq (K _ rfl (by rw [vwM_put rfl]; exact hV))
theorem psX6_136 {sc : Option (Nat × (Nat → Int32))} {cc : ByteArray} {nL fr lo pc q : Nat} {L : List (Option Value)} {st : List Value} {σ V : St} {E : Option Int32 → St → Prop} {x : Int32} (hV : vwM σ = V) (hd : decode cc pc = .ok (.putfield 136, 3)) (hq : pc + 3 = q) (K : ∀ τ, τ = va_up σ 33 (upd (σ 33) 40 x) → vwM τ = V → Rn LAY sc RX6 cc nL fr lo q L (st) τ E) : Rn LAY sc RX6 cc nL fr lo pc L (.int x :: .ref 33 :: st) σ E := pX6_136 hd hq (K _ rfl (by rw [vwM_put rfl]; exact hV))
theorem psX6_139 {sc : Option (Nat × (Nat → Int32))} {cc : ByteArray} {nL fr lo pc q : Nat} {L : List (Option Value)} {st : List Value} {σ V : St} {E : Option Int32 → St → Prop} {x : Int32} (hV : vwM σ = V) (hd : decode cc pc = .ok (.putfield 139, 3)) (hq : pc + 3 = q) (K : ∀ τ, τ = va_up σ 33 (upd (σ 33) 41 x) → vwM τ = V → Rn LAY sc RX6 cc nL fr lo q L (st) τ E) : Rn LAY sc RX6 cc nL fr lo pc L (.int x :: .ref 33 :: st) σ E := pX6_139 hd hq (K _ rfl (by rw [vwM_put rfl]; exact hV))
theorem psX6_142 {sc : Option (Nat × (Nat → Int32))} {cc : ByteArray} {nL fr lo pc q : Nat} {L : List (Option Value)} {st : List Value} {σ V : St} {E : Option Int32 → St → Prop} {x : Int32} (hV : vwM σ = V) (hd : decode cc pc = .ok (.putfield 142, 3)) (hq : pc + 3 = q) (hx : x = 0 ∨ x = 1) (K : ∀ τ, τ = va_up σ 33 (upd (σ 33) 35 x) → vwM τ = V → Rn LAY sc RX6 cc nL fr lo q L (st) τ E) : Rn LAY sc RX6 cc nL fr lo pc L (.int x :: .ref 33 :: st) σ E := pX6_142 hd hq hx (K _ rfl (by rw [vwM_put rfl]; exact hV))
theorem psX6_146 {sc : Option (Nat × (Nat → Int32))} {cc : ByteArray} {nL fr lo pc q : Nat} {L : List (Option Value)} {st : List Value} {σ V : St} {E : Option Int32 → St → Prop} {x : Int32} (hV : vwM σ = V) (hd : decode cc pc = .ok (.putfield 146, 3)) (hq : pc + 3 = q) (K : ∀ τ, τ = va_up σ 33 (upd (σ 33) 32 x) → vwM τ = V → Rn LAY sc RX6 cc nL fr lo q L (st) τ E) : Rn LAY sc RX6 cc nL fr lo pc L (.int x :: .ref 33 :: st) σ E := pX6_146 hd hq (K _ rfl (by rw [vwM_put rfl]; exact hV))
theorem psX6_149 {sc : Option (Nat × (Nat → Int32))} {cc : ByteArray} {nL fr lo pc q : Nat} {L : List (Option Value)} {st : List Value} {σ V : St} {E : Option Int32 → St → Prop} {x : Int32} (hV : vwM σ = V) (hd : decode cc pc = .ok (.putfield 149, 3)) (hq : pc + 3 = q) (K : ∀ τ, τ = va_up σ 33 (upd (σ 33) 31 x) → vwM τ = V → Rn LAY sc RX6 cc nL fr lo q L (st) τ E) : Rn LAY sc RX6 cc nL fr lo pc L (.int x :: .ref 33 :: st) σ E := pX6_149 hd hq (K _ rfl (by rw [vwM_put rfl]; exact hV))
theorem psX6_152 {sc : Option (Nat × (Nat → Int32))} {cc : ByteArray} {nL fr lo pc q : Nat} {L : List (Option Value)} {st : List Value} {σ V : St} {E : Option Int32 → St → Prop} {x : Int32} (hV : vwM σ = V) (hd : decode cc pc = .ok (.putfield 152, 3)) (hq : pc + 3 = q) (K : ∀ τ, τ = va_up σ 33 (upd (σ 33) 34 x) → vwM τ = V → Rn LAY sc RX6 cc nL fr lo q L (st) τ E) : Rn LAY sc RX6 cc nL fr lo pc L (.int x :: .ref 33 :: st) σ E := pX6_152 hd hq (K _ rfl (by rw [vwM_put rfl]; exact hV))
theorem psX6_155 {sc : Option (Nat × (Nat → Int32))} {cc : ByteArray} {nL fr lo pc q : Nat} {L : List (Option Value)} {st : List Value} {σ V : St} {E : Option Int32 → St → Prop} {x : Int32} (hV : vwM σ = V) (hd : decode cc pc = .ok (.putfield 155, 3)) (hq : pc + 3 = q) (K : ∀ τ, τ = va_up σ 33 (upd (σ 33) 33 x) → vwM τ = V → Rn LAY sc RX6 cc nL fr lo q L (st) τ E) : Rn LAY sc RX6 cc nL fr lo pc L (.int x :: .ref 33 :: st) σ E := pX6_155 hd hq (K _ rfl (by rw [vwM_put rfl]; exact hV))
theorem gvX6_222 {sc : Option (Nat × (Nat → Int32))} {cc : ByteArray} {nL fr lo pc q : Nat} {L : List (Option Value)} {st : List Value} {σ V : St} {E : Option Int32 → St → Prop} (hV : vwM σ = V) (hI : InvN V) (hd : decode cc pc = .ok (.getfield 222, 3)) (hq : pc + 3 = q) (K : Rn LAY sc RX6 cc nL fr lo q L (.int (nI (nv V 33 6)) :: st) σ E) : Rn LAY sc RX6 cc nL fr lo pc L (.ref 33 :: st) σ E := by
  refine gX6_222 hd hq ?_
  rw [vwM_at hV rfl, (hI 33 6 rfl).1]
  exact K
