/-! ===== cells beyond a layout are ghosts; a contract over the first cells serves a larger layout ===== -/
theorem wd_ghost {C : ClassId × ClassId} {ad : Nat → Nat} {ly : List LyE} {σ σ' : St} (h : ∀ k, k < ly.length → σ' k = σ k) : wd C ad ly σ' = wd C ad ly σ := by
  apply List.ext_getElem?
  intro i
  rw [wd, wd, List.getElem?_mapIdx, List.getElem?_mapIdx]
  cases hl : ly[i]? with
  | none => rfl
  | some e =>
    have hi : i < ly.length := (List.getElem?_eq_some_iff.mp hl).1
    show some (en C ad σ' i e) = some (en C ad σ i e)
    congr 1
    simp only [en, h i hi]
theorem r_ghost {ly : List LyE} {sc : Option (Nat × (Nat → Int32))} {own : String} {cc : ByteArray} {nL fr lo pc : Nat} {L : List (Option Value)} {st : List Value} {σ : St} {E : Option Int32 → St → Prop} (σ' : St) (h : ∀ k, k < ly.length → σ' k = σ k) (K : Rn ly sc own cc nL fr lo pc L st σ' E) : Rn ly sc own cc nL fr lo pc L st σ E := by
  intro p l e R s m args below meth c D C ad A H locs cells slots Q ls hC hX hW hL hE
  refine K hC hX ?_ hL hE
  obtain ⟨h1, h2, h3⟩ := hW
  unfold Wo
  rw [wd_ghost h]
  exact ⟨h1, h2, h3⟩
/-- the first n rows of τ, the rest of σ -/
def mgN (n : Nat) (τ σ : St) : St := fun k => if k < n then τ k else σ k
theorem wd_take {C : ClassId × ClassId} {ad : Nat → Nat} {ly : List LyE} {σ : St} (n : Nat) (i : Nat) : (wd C ad (ly.take n) σ)[i]? = if i < n then (wd C ad ly σ)[i]? else none := by
  rw [wd, wd, List.getElem?_mapIdx, List.getElem?_mapIdx, List.getElem?_take]
  split
  · rfl
  · rfl
theorem wd_mg {C : ClassId × ClassId} {ad : Nat → Nat} {ly : List LyE} {σ τ : St} (n i : Nat) : (wd C ad ly (mgN n τ σ))[i]? = if i < n then (wd C ad ly τ)[i]? else (wd C ad ly σ)[i]? := by
  rw [wd, wd, wd, List.getElem?_mapIdx, List.getElem?_mapIdx, List.getElem?_mapIdx]
  by_cases h : i < n
  · rw [if_pos h]
    cases ly[i]? with
    | none => rfl
    | some e =>
      show some (en C ad (mgN n τ σ) i e) = some (en C ad τ i e)
      congr 1
      simp only [en, mgN, h, if_true]
  · rw [if_neg h]
    cases ly[i]? with
    | none => rfl
    | some e =>
      show some (en C ad (mgN n τ σ) i e) = some (en C ad σ i e)
      congr 1
      simp only [en, mgN, h, if_false]
theorem va_A_take {C : ClassId × ClassId} {ad : Nat → Nat} {ly : List LyE} {σ : St} {n sz q : Nat} (h : va_A (wd C ad (ly.take n) σ) sz q) : va_A (wd C ad ly σ) sz q := by
  rcases h with ⟨k, e, hk⟩ | h
  · rw [wd_take] at hk
    by_cases hn : k < n
    · rw [if_pos hn] at hk
      exact Or.inl ⟨k, e, hk⟩
    · rw [if_neg hn] at hk
      cases hk
  · exact Or.inr h
section GHOST
variable {ly : List LyE} {sc : Option (Nat × (Nat → Int32))} {own : String} {cc : ByteArray} {nL fr lo pc q : Nat} {L : List (Option Value)} {st : List Value} {σ : St} {E : Option Int32 → St → Prop}
set_option maxHeartbeats 4000000 in
theorem r_callVF (n0 : Nat) {y : MethodName} {cc' : ByteArray} {nL' fr' lo' n idx k ci : Nat} {ret : Option FieldType} {As : List Value} {E' : Option Int32 → St → Prop} {fs : List (Nat × Nat)} {T : u_T} {N : Nat} (hM : Cl (ly.take n0) y cc' nL' ret fr' lo' (.ref k :: As) σ E') (cw : CwV own idx y cc' nL' ret n) (hd : decode cc pc = .ok (.invokevirtual idx, 3)) (hq : pc + 3 = q) (hly : ly[k]? = some (.inr (ci, fs))) (hcl : vwCl[ci]? = some (y.cls, T, N)) (hn : As.length = n) (hst : st.length ≤ 8) (hf : fr' + 1 ≤ fr) (hl : 8 + (nL' + 11) + lo' ≤ lo)
    (K : ∀ r τ, E' r τ → Rn ly sc own cc nL fr lo q L ((r.map Value.int).toList ++ st) (mgN n0 τ σ) E) : Rn ly sc own cc nL fr lo pc L (As.reverse ++ .ref k :: st) σ E := by
  refine r_callG (y := y) (cc' := cc') (nL' := nL') (fr' := fr') (lo' := lo') (ret := ret) (av := .ref k :: As) (E' := fun r τ' => ∃ τ, E' r τ ∧ τ' = mgN n0 τ σ) ?_ hq (by rintro r τ' ⟨τ, h1, rfl⟩; exact K r τ h1)
  intro p l e R s m args below meth c D C ad A H locs cells slots ls hC hW hL
  have hP0 : va_P D vwCl (wd C ad (ly.take n0) σ) H := fun i x hx => by
    rw [wd_take] at hx
    by_cases hi : i < n0
    · rw [if_pos hi] at hx
      exact hW.1 i x hx
    · rw [if_neg hi] at hx
      cases hx
  have hD0 : va_D (fun _ => True) (wd C ad (ly.take n0) σ) := by
    refine ⟨fun i j x z hx hz e => ?_, fun _ _ _ => trivial⟩
    rw [wd_take] at hx hz
    by_cases hi : i < n0
    · by_cases hj : j < n0
      · rw [if_pos hi] at hx
        rw [if_pos hj] at hz
        exact hW.2.1.1 i j x z hx hz e
      · rw [if_neg hj] at hz
        cases hz
    · rw [if_neg hi] at hx
      cases hx
  have hr := va_runV (p := p) (l := l) (e := e) (R := R) (below := below) (meth := meth) (locs := locs) (cells := cells) (slots := slots) (C := y.cls) (b := ad k) (As := As.map (rv ad)) (rest := st.map (rv ad)) (n := n) (g := F0 m pc ls ((As.reverse ++ Value.ref k :: st).map (rv ad))) hC.1 (hM l D C ad H.size) ⟨cw.1.use hC.1.2.2.2.2 (Nat.le_trans hf hC.2.1) (Nat.le_trans hl hC.2.2.1), hC.1.2.2.2.2 _ cw.2.1, hC.1.2.2.2.2 _ cw.2.2⟩ ⟨cl_blind, va_recv hC.2.2.2.2.2.1 hW.1 hcl (wd_ob hly), fun U hU hWm => ⟨rfl, by rw [hU], by rw [hU]; exact hP0, hC.2.2.2.2.2.warm hWm, hD0⟩⟩ rfl (by rw [List.length_map]; exact hn) hL.1 (by simp [List.map_append, List.map_reverse, rv]) (lv_room (by rw [cat_sum]; exact hst)) hd ⟨hC.2.2.2.1, hC.2.2.2.2.1⟩
  intro T0 hT X
  obtain ⟨v, st₀, t, T', L', h0, X', hL', e1, e2, ⟨⟨r, τ, q1, q2, q3⟩, q4⟩, stp⟩ := hr T0 hT X
  refine ⟨v, st₀, t, T', L', h0, X', fun x hx => va_A_take (hL' x hx), e1, e2, ⟨⟨r, mgN n0 τ σ, q1, ⟨τ, q2, rfl⟩, fun i x hx => ?_⟩, q4.1, fun x h1 h2 => q4.2 x h1 (fun h3 => h2 (va_A_take h3))⟩, stp⟩
  rw [wd_mg] at hx
  by_cases hi : i < n0
  · rw [if_pos hi] at hx
    exact q3 i x (by rw [wd_take, if_pos hi]; exact hx)
  · rw [if_neg hi] at hx
    have hlt := (hW.1 i x hx).lt
    refine (hW.1 i x hx).kept ?_
    have hk := q4.2 x.1 (by rw [h0]; exact hlt) (by
      rintro (⟨j, e', hj⟩ | h)
      · rw [wd_take] at hj
        by_cases hjn : j < n0
        · rw [if_pos hjn] at hj
          have := hW.2.1.1 i j x (x.1, e') hx hj rfl
          omega
        · rw [if_neg hjn] at hj
          cases hj
      · omega)
    rw [hk, h0]
end GHOST
theorem r_name {ly : List LyE} {sc : Option (Nat × (Nat → Int32))} {own : String} {cc : ByteArray} {nL fr lo pc : Nat} {L : List (Option Value)} {st : List Value} {σ : St} {E : Option Int32 → St → Prop} (K : ∀ τ, τ = σ → Rn ly sc own cc nL fr lo pc L st τ E) : Rn ly sc own cc nL fr lo pc L st σ E := K σ rfl
/-- a refusal, counted on both sides -/
def rfB (V : St) (c : Int32) : St := rfM (rfC V c) c
theorem up_ghost {σ : St} {k0 j : Nat} {x : Int32} (h : 33 ≤ k0) : ∀ k, k < LAYC.length → va_up σ k0 (upd (σ k0) j x) k = σ k := fun k hk => if_neg (by
  have : k < 33 := hk
  omega)
