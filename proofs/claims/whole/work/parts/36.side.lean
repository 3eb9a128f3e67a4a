section
/-! ===== class and reference side by side ===== -/
def mx (A B : St) : St := fun k => bif Nat.ble 33 k then B k else A k
theorem mx_hi (A B : St) {k : Nat} (h : 33 ≤ k) : mx A B k = B k := by
  unfold mx
  rw [Nat.ble_eq_true_of_le h]
  rfl
theorem mx_lo (A B : St) {k : Nat} (h : k < 33) : mx A B k = A k := by
  unfold mx
  have : Nat.ble 33 k = false := by
    cases e : Nat.ble 33 k with
    | false => rfl
    | true =>
      have := Nat.le_of_ble_eq_true e
      omega
  rw [this]
  rfl
theorem mx_self (V : St) : mx V V = V := by
  funext k
  by_cases h : 33 ≤ k
  · exact mx_hi _ _ h
  · exact mx_lo _ _ (by omega)
theorem mx_ext {A B A' B' : St} (h1 : ∀ k, k < 33 → A k = A' k) (h2 : ∀ k, 33 ≤ k → B k = B' k) : mx A B = mx A' B' := by
  funext k
  by_cases h : 33 ≤ k
  · rw [mx_hi _ _ h, mx_hi _ _ h, h2 k h]
  · rw [mx_lo _ _ (by omega), mx_lo _ _ (by omega), h1 k (by omega)]
theorem mx_eq {A B V : St} (h1 : ∀ k, k < 33 → A k = V k) (h2 : ∀ k, 33 ≤ k → B k = V k) : mx A B = V := (mx_ext h1 h2).trans (mx_self V)
theorem wr_row (V : St) (k j : Nat) (x : Int32) (a : Nat) (h : ¬ a = k) : wr V k j x a = V a := funext fun i => by rw [wr_at, if_neg (fun e => h e.1)]
theorem wr_mx {P V : St} {k j : Nat} {x : Int32} (h : 33 ≤ k) : wr (mx P V) k j x = mx P (wr V k j x) := by
  funext a
  by_cases ha : 33 ≤ a
  · rw [mx_hi _ _ ha]
    funext i
    rw [wr_at, wr_at, mx_hi _ _ ha]
  · rw [wr_row _ _ _ _ _ (by omega), mx_lo _ _ (by omega), mx_lo _ _ (by omega)]
theorem scrM_ne {k i : Nat} (h : ¬ k = 33) : scrM k i = false := by
  unfold scrM
  split
  · exact absurd rfl h
  · rfl
theorem scr_eq {k i : Nat} (h : 33 ≤ k) : scr k i = scrM k i := by
  by_cases e : k = 33
  · subst e
    rfl
  · rw [scrM_ne e]
    unfold scr
    split <;> first | rfl | (exfalso; omega)
theorem nneg_scr {k i : Nat} (h : nneg k i = true) : scr k i = false := by
  by_cases e : k = 33
  · subst e
    have h : (Nat.ble i 28 || Nat.beq i 30) = true := h
    show (Nat.ble 31 i && Nat.ble i 41) = false
    cases h2 : Nat.ble 31 i with
    | false => rfl
    | true =>
      exfalso
      have h2 := Nat.le_of_ble_eq_true h2
      rcases (Bool.or_eq_true _ _).mp h with h | h
      · have := Nat.le_of_ble_eq_true h
        omega
      · have := Nat.eq_of_beq_eq_true h
        omega
  · unfold scr
    split <;> first | rfl | (exfalso; cases h; done) | (exact absurd rfl e)
theorem vwM_mg {σ τ V : St} (hV : vw σ = V) : vwM (mgN 33 τ σ) = mx (vwM τ) V := by
  funext k i
  by_cases h : 33 ≤ k
  · rw [mx_hi _ _ h, ← hV]
    unfold vwM vw mgN
    rw [if_neg (by omega), scr_eq h]
  · rw [mx_lo _ _ (by omega)]
    unfold vwM mgN
    rw [if_pos (by omega)]
theorem vw_back {τ τ2 Vc R : St} (h : vw τ = Vc) (h2 : vwM τ2 = mx (vwM τ) R) : vw τ2 = mx Vc R ∧ τ2 32 = τ 32 := by
  have e : ∀ k i, k < 33 → τ2 k i = τ k i := fun k i hk => by
    have := congrFun (congrFun h2 k) i
    rw [mx_lo _ _ hk] at this
    unfold vwM at this
    rw [scrM_ne (by omega)] at this
    exact this
  refine ⟨?_, funext fun i => e 32 i (by decide)⟩
  funext k i
  by_cases hk : 33 ≤ k
  · rw [mx_hi _ _ hk]
    have := congrFun (congrFun h2 k) i
    rw [mx_hi _ _ hk] at this
    rw [← this]
    unfold vw vwM
    rw [scr_eq hk]
  · rw [mx_lo _ _ (by omega), ← h]
    unfold vw
    rw [e k i (by omega)]
theorem WF_mx {τ V Vc : St} (hF : WF V) (hI : InvN Vc) (h : vw τ = Vc) : WF (mx (vwM τ) V) := by
  refine ⟨fun k i hn => ?_, hF.2.1, hF.2.2⟩
  by_cases hk : 33 ≤ k
  · have := hF.1 k i hn
    unfold nv at this ⊢
    rw [mx_hi _ _ hk]
    exact this
  · have e : mx (vwM τ) V k i = Vc k i := by
      rw [mx_lo _ _ (by omega)]
      unfold vwM
      rw [scrM_ne (by omega), ← h]
      unfold vw
      rw [nneg_scr hn]
    have := hI k i hn
    unfold nv at this ⊢
    rw [e]
    exact this
theorem InvN_mx {A B : St} (hA : InvN A) (hB : InvN B) : InvN (mx A B) := by
  intro k i hn
  by_cases hk : 33 ≤ k
  · have := hB k i hn
    unfold nv at this ⊢
    rw [mx_hi _ _ hk]
    exact this
  · have := hA k i hn
    unfold nv at this ⊢
    rw [mx_lo _ _ (by omega)]
    exact this
theorem InvN_wr {V : St} {k j : Nat} {x : Int32} (hI : InvN V) (h : nneg k j = true → x = nI x.toNatClampNeg ∧ x.toNatClampNeg ≤ ub k j) : InvN (wr V k j x) := by
  intro a b hn
  by_cases e : a = k ∧ b = j
  · obtain ⟨rfl, rfl⟩ := e
    unfold nv
    rw [wr_at, if_pos ⟨rfl, rfl⟩]
    exact h hn
  · unfold nv
    rw [wr_at, if_neg e]
    exact hI a b hn
theorem nI_ok {n M : Nat} (h : n ≤ M) (hM : M < 2 ^ 31) : nI n = nI (nI n).toNatClampNeg ∧ (nI n).toNatClampNeg ≤ M := by
  rw [nI_clamp (by omega)]
  exact ⟨rfl, h⟩
theorem mx_GEo (P V : St) : GEo V (mx P V) := ⟨rfl, rfl, rfl, rfl, rfl, rfl, rfl, rfl, rfl, rfl, rfl, rfl, rfl, rfl, rfl, rfl, rfl, rfl⟩
theorem mx_GEw (P V : St) (w : Nat) : GEw V (mx P V) w := ⟨rfl, rfl, rfl, rfl, rfl, rfl⟩
theorem J_mx {Vc R τ : St} (h : J R τ) : J (mx Vc R) τ := J_c h (mx_GEo _ _) (fun w _ => mx_GEw _ _ w) (Nat.le_refl _)
/-- what holds between two calls -/
def IV (σ : St) : Prop := GOOD (vw σ) ∧ J (vw σ) σ
theorem IV_of {τ τ2 Vc R : St} (hc : vw τ = Vc) (h2 : vwM τ2 = mx (vwM τ) R) (hG : GOOD (mx Vc R)) (hJ : J (mx Vc R) τ) : IV τ2 := by
  obtain ⟨e1, e2⟩ := vw_back hc h2
  exact ⟨by rw [e1]; exact hG, by rw [e1]; exact hJ.c e2⟩
/-! the reference's functions see the reference's cells alone -/
section MX
variable (P V : St)
theorem fallI_m (w : Nat) : fallI (mx P V) w = fallI V w := fallI_c (mx_GEo P V) (mx_GEw P V w) rfl
theorem sunN_m (w d m : Nat) : sunN (mx P V) w d m = sunN V w d m := sunR_c (mx_GEo P V) (mx_GEw P V w) d m _
theorem lightN_m (w c d m : Nat) : lightN (mx P V) w c d m = lightN V w c d m := lightN_c (mx_GEo P V) (mx_GEw P V w) c d m
theorem hoursN_m (w d : Nat) : hoursN (mx P V) w d = hoursN V w d := hoursN_c (mx_GEo P V) (mx_GEw P V w) d
theorem takR_m (w c d k n : Nat) : takR (mx P V) w c d k n = takR V w c d k n := by
  induction n with
  | zero => rfl
  | succ n ih =>
    show takS (mx P V) w c d k n (takR (mx P V) w c d k n) = takS V w c d k n (takR V w c d k n)
    rw [ih]
    rfl
theorem takN_m (w c d m : Nat) : takN (mx P V) w c d m = takN V w c d m := by
  unfold takN
  rw [takR_m]
  rfl
theorem tkC_m (w d m : Nat) (x : Int32) (n : Nat) : tkC (mx P V) w d m x n = tkC V w d m x n := by
  induction n with
  | zero => rfl
  | succ n ih => rw [tkC, tkC, ih, takN_m]
theorem tkM_m (w d : Nat) (x : Int32) (n : Nat) : tkM (mx P V) w d x n = tkM V w d x n := by
  induction n with
  | zero => rfl
  | succ n ih =>
    rw [tkM, tkM, ih, tkC_m]
    rfl
theorem thk_m (b t : Int32) : thk (mx P V) b t = mx P (thk V b t) := by
  unfold thk
  rw [wr_mx (by decide), wr_mx (by decide)]
theorem askV_m : askV (mx P V) = mx P (askV V) := by
  funext k i
  by_cases h : 33 ≤ k
  · rw [mx_hi _ _ h]
    unfold askV askW
    rw [show askN (mx P V) i = askN V i by unfold askN; rw [fallI_m]; rfl, mx_hi _ _ h]
    rfl
  · rw [mx_lo _ _ (by omega)]
    unfold askV askW
    rw [if_neg (by omega), mx_lo _ _ (by omega)]
theorem brF_m (n w : Nat) : brF (mx P V) w n = brF V w n := by
  induction n generalizing w with
  | zero => rfl
  | succ n ih =>
    rw [brF, brF, ih, fallI_m]
    rfl
theorem brI_m (b t : Int32) : brI (mx P V) b t = brI V b t := by
  unfold brI
  rw [thk_m, brF_m]
  rfl
theorem hiR_m (b : Int32) (n g e : Nat) : hiR (mx P V) b n g e = hiR V b n g e := by
  induction n generalizing g e with
  | zero => rfl
  | succ n ih => rw [hiR, hiR, ih, ih, brI_m]
theorem lwS_m (n : Nat) : lwS (mx P V) n = lwS V n := by
  induction n with
  | zero => rfl
  | succ n ih => rw [lwS, lwS, ih, fallI_m]
theorem kpS_m (n : Nat) : kpS (mx P V) n = kpS V n := by
  induction n with
  | zero => rfl
  | succ n ih =>
    rw [kpS, kpS, ih]
    rfl
theorem mnS_m (n : Nat) : mnS (mx P V) n = mnS V n := by
  induction n with
  | zero => rfl
  | succ n ih =>
    rw [mnS, mnS, ih]
    rfl
theorem vCn_m (x : Int32) : vCn (mx P V) x = vCn V x := by
  unfold vCn
  rw [mnS_m, lwS_m, kpS_m]
  rfl
theorem vWO_m (w : Nat) (x : Int32) : vWO (mx P V) w x = vWO V w x := by
  unfold vWO
  rw [fallI_m]
  rfl
theorem growR_m (n : Nat) : growR (mx P V) n = mx P (growR V n) := by
  funext k i
  by_cases h : 33 ≤ k
  · rw [mx_hi _ _ h]
    unfold growR
    rw [mx_hi _ _ h]
    rfl
  · rw [mx_lo _ _ (by omega), growR_at _ _ _ _ (by omega), mx_lo _ _ (by omega)]
theorem rightR_m (n : Nat) : rightR (mx P V) n = mx P (rightR V n) := by
  funext k i
  by_cases h : 33 ≤ k
  · rw [mx_hi _ _ h]
    unfold rightR
    rw [mx_hi _ _ h, fallI_m]
    rfl
  · rw [mx_lo _ _ (by omega), rightR_at _ _ _ _ (by omega), mx_lo _ _ (by omega)]
theorem yearS_m : yearS (mx P V) = mx P (yearS V) := by
  unfold yearS yearG yearY
  rw [wr_mx (by decide), growR_m, rightR_m]
  rfl
theorem yearsR_m (n : Nat) : yearsR (mx P V) n = mx P (yearsR V n) := by
  induction n with
  | zero => rfl
  | succ n ih => rw [yearsR, yearsR, ih, yearS_m]
theorem rfM_m (c : Int32) : rfM (mx P V) c = mx P (rfM V c) := by
  unfold rfM
  rw [wr_mx (by decide)]
  rfl
theorem relV_m (x : Int32) : relV (mx P V) x 57 = mx P (relV V x 57) := by
  unfold relV
  rw [wr_mx (by decide), show relN (mx P V) x = relN V x from rfl]
  split <;> rfl
end MX
theorem stO_m {P V' R' : St} {c : Int32} : stO c (mx P V') (mx P R') = mx P (stO c V' R') := by
  unfold stO
  split <;> rfl
theorem syn_m {P V : St} : ∀ k, 33 ≤ k → syn (mx P V) k = V k := fun k h => (syn_hi _ k h).trans (mx_hi _ _ h)
/-- the years of both sides end alike -/
theorem growR_a {A B : St} (h : ∀ k, 33 ≤ k → A k = B k) (n : Nat) : ∀ k, 33 ≤ k → growR A n k = growR B n k := by
  intro k hk
  have e : mx B A = B := mx_eq (fun _ _ => rfl) h
  have e2 : mx A B = A := mx_eq (fun _ _ => rfl) (fun k hk => (h k hk).symm)
  rw [← e, growR_m, mx_hi _ _ hk]
theorem rightR_a {A B : St} (h : ∀ k, 33 ≤ k → A k = B k) (n : Nat) : ∀ k, 33 ≤ k → rightR A n k = rightR B n k := by
  intro k hk
  have e : mx B A = B := mx_eq (fun _ _ => rfl) h
  rw [← e, rightR_m, mx_hi _ _ hk]
theorem yearB_a {A B : St} (h : ∀ k, 33 ≤ k → A k = B k) : ∀ k, 33 ≤ k → yearB A k = yearS B k := by
  intro k hk
  have e : mx B A = B := mx_eq (fun _ _ => rfl) h
  have h0 : ∀ k, 33 ≤ k → syn (yearY A) k = yearY B k := fun k hk => by
    rw [syn_hi _ k hk, ← e]
    unfold yearY
    rw [wr_mx (by decide), mx_hi _ _ hk]
    rfl
  have e7 : nv A 33 7 = nv B 33 7 := by unfold nv; rw [h 33 (by decide)]
  have e19 : nv A 33 19 = nv B 33 19 := by unfold nv; rw [h 33 (by decide)]
  have h1 : ∀ k, 33 ≤ k → syn (growR (syn (yearY A)) (nv A 33 7)) k = yearG B k := fun k hk => by
    rw [syn_hi _ k hk, growR_a h0 _ k hk, e7]
    rfl
  unfold yearB yearS
  rw [syn_hi _ k hk, rightR_a h1 _ k hk, e19]
theorem yearsB_a (V : St) (n : Nat) : ∀ k, 33 ≤ k → yearsB V n k = yearsR V n k := by
  induction n with
  | zero => intro k _; rfl
  | succ n ih => exact yearB_a ih
end
