/-! ===== THE CORE: a run inside a fixed layout of cells (ly: what each cell is; ad: where it lies; σ: what it holds), a row an instruction ===== -/
abbrev St : Type := Nat → Nat → Int32
abbrev LyE : Type := (Nat × Nat) ⊕ (Nat × List (Nat × Nat))
def rv (ad : Nat → Nat) : Value → Value
  | .int x => .int x
  | .ref k => .ref (ad k)
  | _ => .null
theorem rv_cat (ad : Nat → Nat) (v : Value) : (rv ad v).category = 1 := by cases v <;> rfl
def fv (ad : Nat → Nat) (g : Nat → Int32) (i : Nat) (f : Nat × Nat) : Value := if f.1 < 2 then .int (g i) else if f.1 = 2 then .ref (ad f.2) else .null
def en (C : ClassId × ClassId) (ad : Nat → Nat) (σ : St) (k : Nat) (e : LyE) : Nat × va_E := (ad k, match e with
  | .inl a => .inl (if a.1 = 0 then C.1 else C.2, a.2, .inl (σ k))
  | .inr o => .inr (o.1, o.2.mapIdx (fv ad (σ k))))
def wd (C : ClassId × ClassId) (ad : Nat → Nat) (ly : List LyE) (σ : St) : va_W := ly.mapIdx (en C ad σ)
theorem wd_at {C : ClassId × ClassId} {ad : Nat → Nat} {ly : List LyE} {σ : St} {k : Nat} {e : LyE} (h : ly[k]? = some e) : (wd C ad ly σ)[k]? = some (en C ad σ k e) := by
  simp [wd, List.getElem?_mapIdx, h]
theorem wd_of {C : ClassId × ClassId} {ad : Nat → Nat} {ly : List LyE} {σ : St} {k : Nat} {q : Nat × va_E} (h : (wd C ad ly σ)[k]? = some q) : k < ly.length ∧ q.1 = ad k := by
  rw [wd, List.getElem?_mapIdx] at h
  cases hk : ly[k]? with
  | none => rw [hk] at h; cases h
  | some e =>
    rw [hk] at h
    cases h
    exact ⟨(List.getElem?_eq_some_iff.mp hk).1, rfl⟩
theorem wd_D {C : ClassId × ClassId} {ad : Nat → Nat} {ly : List LyE} {σ τ : St} {A : Nat → Prop} (h : va_D A (wd C ad ly σ)) : va_D A (wd C ad ly τ) := by
  have back : ∀ {k : Nat} {q : Nat × va_E}, (wd C ad ly τ)[k]? = some q → ∃ q', (wd C ad ly σ)[k]? = some q' ∧ q'.1 = q.1 := by
    intro k q hq
    obtain ⟨h1, h2⟩ := wd_of hq
    exact ⟨_, wd_at (List.getElem?_eq_getElem h1), h2.symm⟩
  refine ⟨fun i j p q hp hq e => ?_, fun k q hk => ?_⟩
  · obtain ⟨p', hp', e1⟩ := back hp
    obtain ⟨q', hq', e2⟩ := back hq
    exact h.1 i j p' q' hp' hq' (by rw [e1, e2, e])
  · obtain ⟨q', hq', e2⟩ := back hk
    rw [← e2]
    exact h.2 k q' hq'
theorem wd_ai {C : ClassId × ClassId} {ad : Nat → Nat} {ly : List LyE} {σ : St} {k n : Nat} (h : ly[k]? = some (.inl (0, n))) : (wd C ad ly σ)[k]? = some (ad k, .inl (C.1, n, .inl (σ k))) := wd_at h
theorem wd_az {C : ClassId × ClassId} {ad : Nat → Nat} {ly : List LyE} {σ : St} {k n : Nat} (h : ly[k]? = some (.inl (1, n))) : (wd C ad ly σ)[k]? = some (ad k, .inl (C.2, n, .inl (σ k))) := wd_at h
theorem wd_ob {C : ClassId × ClassId} {ad : Nat → Nat} {ly : List LyE} {σ : St} {k ci : Nat} {fs : List (Nat × Nat)} (h : ly[k]? = some (.inr (ci, fs))) : (wd C ad ly σ)[k]? = some (ad k, .inr (ci, fs.mapIdx (fv ad (σ k)))) := wd_at h
theorem wd_set {C : ClassId × ClassId} {ad : Nat → Nat} {ly : List LyE} {σ : St} {k : Nat} {e : LyE} (g : Nat → Int32) (h : ly[k]? = some e) : (wd C ad ly σ).set k (en C ad (va_up σ k g) k e) = wd C ad ly (va_up σ k g) := by
  apply List.ext_getElem?
  intro j
  by_cases hj : k = j
  · subst hj
    rw [wd_at h, List.getElem?_set_self (by simp [wd]; exact (List.getElem?_eq_some_iff.mp h).1)]
  · rw [List.getElem?_set_ne hj, wd, wd, List.getElem?_mapIdx, List.getElem?_mapIdx]
    have : en C ad σ j = en C ad (va_up σ k g) j := by
      funext e'
      simp [en, va_up, Ne.symm hj]
    rw [this]
theorem wd_setI {C : ClassId × ClassId} {ad : Nat → Nat} {ly : List LyE} {σ : St} {k n : Nat} {g : Nat → Int32} (h : ly[k]? = some (.inl (0, n))) : (wd C ad ly σ).set k (ad k, .inl (C.1, n, .inl g)) = wd C ad ly (va_up σ k g) := by
  rw [← wd_set g h]
  simp [en, va_up]
theorem wd_setZ {C : ClassId × ClassId} {ad : Nat → Nat} {ly : List LyE} {σ : St} {k n : Nat} {g : Nat → Int32} (h : ly[k]? = some (.inl (1, n))) : (wd C ad ly σ).set k (ad k, .inl (C.2, n, .inl g)) = wd C ad ly (va_up σ k g) := by
  rw [← wd_set g h]
  simp [en, va_up]
theorem fv_set {ad : Nat → Nat} {g : Nat → Int32} {fs : List (Nat × Nat)} {j t z : Nat} {x : Int32} (h : fs[j]? = some (t, z)) (ht : t < 2) : (fs.mapIdx (fv ad g)).set j (.int x) = fs.mapIdx (fv ad (upd g j x)) := by
  apply List.ext_getElem?
  intro i
  by_cases hi : j = i
  · subst hi
    rw [List.getElem?_set_self (by simp; exact (List.getElem?_eq_some_iff.mp h).1), List.getElem?_mapIdx, h]
    simp [fv, ht, upd]
  · rw [List.getElem?_set_ne hi, List.getElem?_mapIdx, List.getElem?_mapIdx]
    have : fv ad g i = fv ad (upd g j x) i := by
      funext f
      simp [fv, upd, Ne.symm hi]
    rw [this]
theorem wd_setO {C : ClassId × ClassId} {ad : Nat → Nat} {ly : List LyE} {σ : St} {k ci j t z : Nat} {fs : List (Nat × Nat)} {x : Int32} (h : ly[k]? = some (.inr (ci, fs))) (hj : fs[j]? = some (t, z)) (ht : t < 2) : (wd C ad ly σ).set k (ad k, .inr (ci, (fs.mapIdx (fv ad (σ k))).set j (.int x))) = wd C ad ly (va_up σ k (upd (σ k) j x)) := by
  rw [← wd_set _ h, fv_set hj ht]
  simp [en, va_up]
/-- locals -/
def lh (ad : Nat → Nat) (ls : Array Slot) (nL : Nat) (L : List (Option Value)) : Prop := ls.size = nL ∧ lv_wf ls ∧ L.length ≤ nL ∧ ∀ (k : Nat) (v : Value), L[k]? = some (some v) → ls[k]? = some (.val (rv ad v))
def lhl (ad : Nat → Nat) (L : List (Option Value)) : List (Nat × Value) := (L.mapIdx (fun i o => o.map (fun v => (i, rv ad v)))).filterMap id
theorem lhl_mem {ad : Nat → Nat} {L : List (Option Value)} {k : Nat} {v : Value} : (k, v) ∈ lhl ad L ↔ ∃ u, L[k]? = some (some u) ∧ v = rv ad u := by
  unfold lhl
  constructor
  · intro h
    obtain ⟨o, ho, he⟩ := List.mem_filterMap.mp h
    obtain ⟨i, hi⟩ := List.getElem?_of_mem ho
    rw [List.getElem?_mapIdx] at hi
    cases hL : L[i]? with
    | none => rw [hL] at hi; cases hi
    | some o' =>
      rw [hL] at hi
      cases o' with
      | none => cases hi; cases he
      | some u =>
        cases hi
        simp only [id, Option.map_some, Option.some.injEq, Prod.mk.injEq] at he
        obtain ⟨rfl, rfl⟩ := he
        exact ⟨u, hL, rfl⟩
  · rintro ⟨u, h1, rfl⟩
    refine List.mem_filterMap.mpr ⟨some (k, rv ad u), ?_, rfl⟩
    refine List.mem_of_getElem? (i := k) ?_
    rw [List.getElem?_mapIdx, h1]
    rfl
theorem lh.has {ad : Nat → Nat} {ls : Array Slot} {nL : Nat} {L : List (Option Value)} (h : lh ad ls nL L) : lv_has ls nL (lhl ad L) := by
  refine ⟨h.1, h.2.1, fun q hq => ?_⟩
  obtain ⟨k, v⟩ := q
  obtain ⟨u, h1, rfl⟩ := lhl_mem.mp hq
  exact h.2.2.2 k u h1
theorem lh.put {ad : Nat → Nat} {ls' : Array Slot} {nL : Nat} {L : List (Option Value)} {i : Nat} {v : Value} (hL : L.length ≤ nL) (h : lv_has ls' nL ((i, rv ad v) :: (lhl ad L).filter (fun q => !(q.1 == i) && !(q.1 + 1 == i && q.2.category == 2)))) : lh ad ls' nL (L.set i (some v)) := by
  refine ⟨h.1, h.2.1, by simpa using hL, fun k u hk => ?_⟩
  by_cases e : i = k
  · subst e
    have : i < L.length := by
      have := (List.getElem?_eq_some_iff.mp hk).1
      simpa using this
    rw [List.getElem?_set_self this] at hk
    cases hk
    exact h.2.2 _ List.mem_cons_self
  · rw [List.getElem?_set_ne e] at hk
    refine h.2.2 (k, rv ad u) (List.mem_cons_of_mem _ (List.mem_filter.mpr ⟨lhl_mem.mpr ⟨u, hk, rfl⟩, ?_⟩))
    simp [rv_cat, Ne.symm e]
theorem lh.entry {ad : Nat → Nat} {ls : Array Slot} {nL : Nat} {av : List Value} (n : Nat) (hn : av.length + n = nL) (h : lv_has ls nL (lv_args 0 (av.map (rv ad)))) : lh ad ls nL (av.map some ++ List.replicate n none) := by
  refine ⟨h.1, h.2.1, by simp [hn], fun k u hk => ?_⟩
  have key : ∀ (l : List Value) (b k : Nat) (u : Value), l[k]? = some u → (b + k, rv ad u) ∈ lv_args b (l.map (rv ad)) := by
    intro l
    induction l with
    | nil => intro b k u h; simp at h
    | cons v l ih =>
      intro b k u h
      cases k with
      | zero =>
        simp at h
        subst h
        simp [lv_args]
      | succ k =>
        simp at h
        have := ih (b + 1) k u h
        simp only [List.map_cons, lv_args, rv_cat]
        refine List.mem_cons_of_mem _ ?_
        have e : b + (k + 1) = b + 1 + k := by omega
        rw [e]
        exact this
  have hk2 : av[k]? = some u := by
    by_cases hlt : k < av.length
    · rw [List.getElem?_append_left (by simpa using hlt), List.getElem?_map] at hk
      cases ha : av[k]? with
      | none => rw [ha] at hk; cases hk
      | some x => rw [ha] at hk; cases hk; rfl
    · rw [List.getElem?_append_right (by simpa using hlt)] at hk
      have := List.mem_of_getElem? hk
      have := List.eq_of_mem_replicate this
      cases this
  have := key av 0 k u hk2
  rw [Nat.zero_add] at this
  exact h.2.2 _ this
/-- the private calls of nest mates -/
def nestW : List Cond := [Cond.methodLinkNest "SunCourt$Sky" 18 yX5_isDay "SunCourt", Cond.methodLinkNest "SunCourt" 9 yX3_init "SunCourt", Cond.methodLinkNest "SunCourt" 18 yX1_init "SunCourt", Cond.methodLinkNest "SunCourt" 25 yX4_init "SunCourt", Cond.methodLinkNest "SunCourt" 32 yX0_init "SunCourt", Cond.methodLinkNest "SunCourt" 39 yX2_init "SunCourt"]
theorem nestW_ex {w : Cond} (h : w ∈ nestW) : ∃ a i x h, w = .methodLinkNest a i x h := by
  simp only [nestW, List.mem_cons, List.not_mem_nil, or_false] at h
  rcases h with rfl | rfl | rfl | rfl | rfl | rfl <;> exact ⟨_, _, _, _, rfl⟩
def Kn (D : va_G) (C : ClassId × ClassId) (U : State) : Prop := va_K D vwCl [(C.1, .int), (C.2, .boolean)] U ∧ ∀ w ∈ nestW, va_Nw w U
theorem Kn.warm {D : va_G} {C : ClassId × ClassId} {s U : State} (h : Kn D C s) (hW : s.WarmedH U.vm) : Kn D C U := by
  refine ⟨va_K.moved hW.alike h.1, fun w hw => ?_⟩
  obtain ⟨a, i, x, y, rfl⟩ := nestW_ex hw
  exact va_Nw.warmM hW (h.2 _ hw)
theorem Kn.same {D : va_G} {C : ClassId × ClassId} {s U : State} (h : Kn D C s) (hv : s.vm = U.vm) : Kn D C U := by
  refine ⟨va_K.moved (by rw [hv]; exact Vm.Alike.refl _) h.1, fun w hw => ?_⟩
  obtain ⟨a, i, x, y, rfl⟩ := nestW_ex hw
  exact va_Nw.same rfl hv (h.2 _ hw)
def Cx (p : Program) (R : Room) (s : State) (m : MethodId) (args : Array Value) (c : Code) (cells slots : Nat) (D : va_G) (C : ClassId × ClassId) (own : String) (cc : ByteArray) (nL fr lo : Nat) : Prop :=
  CallFix p m c cc nL s args lw_big own ∧ fr ≤ R.frames ∧ lo ≤ R.locals ∧ cells ≤ R.cells ∧ slots ≤ R.slots ∧ Kn D C s
def Wo (D : va_G) (C : ClassId × ClassId) (ad : Nat → Nat) (ly : List LyE) (A : Nat → Prop) (H0 : Heap) (σ : St) (H : Heap) (locs : List Loc) : Prop := va_P D vwCl (wd C ad ly σ) H ∧ va_D A (wd C ad ly σ) ∧ va_S A H0 H locs
def Sx (sc : Option (Nat × (Nat → Int32))) (ad : Nat → Nat) (A : Nat → Prop) (s : State) : Prop := (∀ q, s.heap.size ≤ q → A q) ∧ ∀ n xs, sc = some (n, xs) → va_X (ad 1000) n xs s s.heap ∧ ad 1000 < s.heap.size ∧ ¬ A (ad 1000)
def RetAt (cc : ByteArray) (pc : Nat) (r : Option Int32) : Prop := match r with
  | some _ => decode cc pc = .ok (.ireturn, 1)
  | none => decode cc pc = .ok (.return_, 1)
/-- from pc, with these locals, stack and contents, it comes to a return with E -/
def Rn (ly : List LyE) (sc : Option (Nat × (Nat → Int32))) (own : String) (cc : ByteArray) (nL fr lo : Nat) (pc : Nat) (L : List (Option Value)) (st : List Value) (σ : St) (E : Option Int32 → St → Prop) : Prop :=
  ∀ ⦃p : Program⦄ ⦃l : Launch⦄ ⦃e : Env⦄ ⦃R : Room⦄ ⦃s : State⦄ ⦃m : MethodId⦄ ⦃args : Array Value⦄ ⦃below : List Frame⦄ ⦃meth : Method⦄ ⦃c : Code⦄ ⦃D : va_G⦄ ⦃C : ClassId × ClassId⦄ ⦃ad : Nat → Nat⦄ ⦃A : Nat → Prop⦄ ⦃H : Heap⦄ ⦃locs : List Loc⦄ ⦃cells slots : Nat⦄ ⦃Q : State → Prop⦄ ⦃ls : Array Slot⦄,
    Cx p R s m args c cells slots D C own cc nL fr lo → Sx sc ad A s → Wo D C ad ly A s.heap σ H locs → lh ad ls nL L →
    (∀ (r : Option Int32) (τ : St) (H' : Heap) (locs' : List Loc) (ls' : Array Slot) (pc' : Nat), E r τ → Wo D C ad ly A s.heap τ H' locs' → RetAt cc pc' r → W p l e R s m args below meth c H' locs' cells slots Q (F0 m pc' ls' (r.map Value.int).toList)) →
    W p l e R s m args below meth c H locs cells slots Q (F0 m pc ls (st.map (rv ad)))
section CORE
variable {ly : List LyE} {sc : Option (Nat × (Nat → Int32))} {own : String} {cc : ByteArray} {nL fr lo pc q : Nat} {L : List (Option Value)} {st : List Value} {σ : St} {E : Option Int32 → St → Prop}
theorem Rn.mono {E' : Option Int32 → St → Prop} (h : Rn ly sc own cc nL fr lo pc L st σ E) (hE : ∀ r τ, E r τ → E' r τ) : Rn ly sc own cc nL fr lo pc L st σ E' := fun _ _ _ _ _ _ _ _ _ _ _ _ _ _ _ _ _ _ _ _ hC hX hW hL k => h hC hX hW hL (fun r τ H' l' ls' pc' e => k r τ H' l' ls' pc' (hE r τ e))

theorem r_iadd {x y : Int32} (hd : decode cc pc = .ok (.iadd, 1)) (hq : pc + 1 = q) (K : Rn ly sc own cc nL fr lo q L (.int (x + y) :: st) σ E) : Rn ly sc own cc nL fr lo pc L (.int y :: .int x :: st) σ E := by
  subst hq
  intro p l e R s m args below meth c D C ad A H locs cells slots Q ls hC hX hW hL hE
  exact lv_iadd hC.1.1 hC.1.2.1 hd (K hC hX hW hL hE)
theorem r_isub {x y : Int32} (hd : decode cc pc = .ok (.isub, 1)) (hq : pc + 1 = q) (K : Rn ly sc own cc nL fr lo q L (.int (x - y) :: st) σ E) : Rn ly sc own cc nL fr lo pc L (.int y :: .int x :: st) σ E := by
  subst hq
  intro p l e R s m args below meth c D C ad A H locs cells slots Q ls hC hX hW hL hE
  exact lv_isub hC.1.1 hC.1.2.1 hd (K hC hX hW hL hE)
theorem r_imul {x y : Int32} (hd : decode cc pc = .ok (.imul, 1)) (hq : pc + 1 = q) (K : Rn ly sc own cc nL fr lo q L (.int (x * y) :: st) σ E) : Rn ly sc own cc nL fr lo pc L (.int y :: .int x :: st) σ E := by
  subst hq
  intro p l e R s m args below meth c D C ad A H locs cells slots Q ls hC hX hW hL hE
  exact lv_imul hC.1.1 hC.1.2.1 hd (K hC hX hW hL hE)
theorem r_iand {x y : Int32} (hd : decode cc pc = .ok (.iand, 1)) (hq : pc + 1 = q) (K : Rn ly sc own cc nL fr lo q L (.int (x &&& y) :: st) σ E) : Rn ly sc own cc nL fr lo pc L (.int y :: .int x :: st) σ E := by
  subst hq
  intro p l e R s m args below meth c D C ad A H locs cells slots Q ls hC hX hW hL hE
  exact lv_iand hC.1.1 hC.1.2.1 hd (K hC hX hW hL hE)
theorem r_ior {x y : Int32} (hd : decode cc pc = .ok (.ior, 1)) (hq : pc + 1 = q) (K : Rn ly sc own cc nL fr lo q L (.int (x ||| y) :: st) σ E) : Rn ly sc own cc nL fr lo pc L (.int y :: .int x :: st) σ E := by
  subst hq
  intro p l e R s m args below meth c D C ad A H locs cells slots Q ls hC hX hW hL hE
  exact lv_ior hC.1.1 hC.1.2.1 hd (K hC hX hW hL hE)
theorem r_ishl {x y : Int32} (hd : decode cc pc = .ok (.ishl, 1)) (hq : pc + 1 = q) (K : Rn ly sc own cc nL fr lo q L (.int (x <<< (y &&& 31)) :: st) σ E) : Rn ly sc own cc nL fr lo pc L (.int y :: .int x :: st) σ E := by
  subst hq
  intro p l e R s m args below meth c D C ad A H locs cells slots Q ls hC hX hW hL hE
  exact lv_ishl hC.1.1 hC.1.2.1 hd (K hC hX hW hL hE)
theorem r_ishr {x y : Int32} (hd : decode cc pc = .ok (.ishr, 1)) (hq : pc + 1 = q) (K : Rn ly sc own cc nL fr lo q L (.int (x >>> (y &&& 31)) :: st) σ E) : Rn ly sc own cc nL fr lo pc L (.int y :: .int x :: st) σ E := by
  subst hq
  intro p l e R s m args below meth c D C ad A H locs cells slots Q ls hC hX hW hL hE
  exact lv_ishr hC.1.1 hC.1.2.1 hd (K hC hX hW hL hE)
theorem r_iushr {x y : Int32} (hd : decode cc pc = .ok (.iushr, 1)) (hq : pc + 1 = q) (K : Rn ly sc own cc nL fr lo q L (.int ((x.toUInt32 >>> (y.toUInt32 &&& Int32.toUInt32 31)).toInt32) :: st) σ E) : Rn ly sc own cc nL fr lo pc L (.int y :: .int x :: st) σ E := by
  subst hq
  intro p l e R s m args below meth c D C ad A H locs cells slots Q ls hC hX hW hL hE
  exact lv_iushr hC.1.1 hC.1.2.1 hd rfl (K hC hX hW hL hE)
theorem r_iaddN {x y : Nat} (hd : decode cc pc = .ok (.iadd, 1)) (hq : pc + 1 = q) (K : Rn ly sc own cc nL fr lo q L (.int (nI (x + y)) :: st) σ E) : Rn ly sc own cc nL fr lo pc L (.int (nI y) :: .int (nI x) :: st) σ E := by
  subst hq
  intro p l e R s m args below meth c D C ad A H locs cells slots Q ls hC hX hW hL hE
  rw [← nI_add] at K
  exact lv_iadd hC.1.1 hC.1.2.1 hd (K hC hX hW hL hE)
theorem r_imulN {x y : Nat} (hd : decode cc pc = .ok (.imul, 1)) (hq : pc + 1 = q) (K : Rn ly sc own cc nL fr lo q L (.int (nI (x * y)) :: st) σ E) : Rn ly sc own cc nL fr lo pc L (.int (nI y) :: .int (nI x) :: st) σ E := by
  subst hq
  intro p l e R s m args below meth c D C ad A H locs cells slots Q ls hC hX hW hL hE
  rw [← pk_mul] at K
  exact lv_imul hC.1.1 hC.1.2.1 hd (K hC hX hW hL hE)
theorem r_isubN {x y : Nat} (hd : decode cc pc = .ok (.isub, 1)) (hq : pc + 1 = q) (hle : y ≤ x) (K : Rn ly sc own cc nL fr lo q L (.int (nI (x - y)) :: st) σ E) : Rn ly sc own cc nL fr lo pc L (.int (nI y) :: .int (nI x) :: st) σ E := by
  subst hq
  intro p l e R s m args below meth c D C ad A H locs cells slots Q ls hC hX hW hL hE
  rw [← pk_sub hle] at K
  exact lv_isub hC.1.1 hC.1.2.1 hd (K hC hX hW hL hE)
theorem r_idiv {x y : Int32} (hd : decode cc pc = .ok (.idiv, 1)) (hq : pc + 1 = q) (hne : ¬ y = 0) (K : Rn ly sc own cc nL fr lo q L (.int (x / y) :: st) σ E) : Rn ly sc own cc nL fr lo pc L (.int y :: .int x :: st) σ E := by
  subst hq
  intro p l e R s m args below meth c D C ad A H locs cells slots Q ls hC hX hW hL hE
  exact lv_idiv hC.1.1 hC.1.2.1 hd hne (K hC hX hW hL hE)
theorem r_irem {x y : Int32} (hd : decode cc pc = .ok (.irem, 1)) (hq : pc + 1 = q) (hne : ¬ y = 0) (K : Rn ly sc own cc nL fr lo q L (.int (x - x / y * y) :: st) σ E) : Rn ly sc own cc nL fr lo pc L (.int y :: .int x :: st) σ E := by
  subst hq
  intro p l e R s m args below meth c D C ad A H locs cells slots Q ls hC hX hW hL hE
  exact lv_irem hC.1.1 hC.1.2.1 hd hne (K hC hX hW hL hE)
theorem r_ineg {x : Int32} (hd : decode cc pc = .ok (.ineg, 1)) (hq : pc + 1 = q) (K : Rn ly sc own cc nL fr lo q L (.int (-x) :: st) σ E) : Rn ly sc own cc nL fr lo pc L (.int x :: st) σ E := by
  subst hq
  intro p l e R s m args below meth c D C ad A H locs cells slots Q ls hC hX hW hL hE
  exact lv_ineg hC.1.1 hC.1.2.1 hd (K hC hX hW hL hE)
theorem r_iconst {n : Int} (hd : decode cc pc = .ok (.iconst n, 1)) (hq : pc + 1 = q) {v : Int32} (hv : Int32.ofInt n = v) (K : Rn ly sc own cc nL fr lo q L (.int v :: st) σ E) : Rn ly sc own cc nL fr lo pc L (st) σ E := by
  subst hq
  intro p l e R s m args below meth c D C ad A H locs cells slots Q ls hC hX hW hL hE
  exact lv_iconst hC.1.1 hC.1.2.1 hd hv (K hC hX hW hL hE)
theorem r_bipush {n : Int} (hd : decode cc pc = .ok (.bipush n, 2)) (hq : pc + 2 = q) {v : Int32} (hv : (Int8.ofInt n).toInt32 = v) (K : Rn ly sc own cc nL fr lo q L (.int v :: st) σ E) : Rn ly sc own cc nL fr lo pc L (st) σ E := by
  subst hq
  intro p l e R s m args below meth c D C ad A H locs cells slots Q ls hC hX hW hL hE
  exact lv_bipush hC.1.1 hC.1.2.1 hd hv (K hC hX hW hL hE)
theorem r_sipush {n : Int} (hd : decode cc pc = .ok (.sipush n, 3)) (hq : pc + 3 = q) {v : Int32} (hv : (Int16.ofInt n).toInt32 = v) (K : Rn ly sc own cc nL fr lo q L (.int v :: st) σ E) : Rn ly sc own cc nL fr lo pc L (st) σ E := by
  subst hq
  intro p l e R s m args below meth c D C ad A H locs cells slots Q ls hC hX hW hL hE
  exact lv_sipush hC.1.1 hC.1.2.1 hd hv (K hC hX hW hL hE)
theorem r_ldc {index : Nat} (hd : decode cc pc = .ok (.ldc index, 2)) (hq : pc + 2 = q) {v : Int32} (hw : Cond.constant own index v ∈ lw_big) (K : Rn ly sc own cc nL fr lo q L (.int v :: st) σ E) : Rn ly sc own cc nL fr lo pc L (st) σ E := by
  subst hq
  intro p l e R s m args below meth c D C ad A H locs cells slots Q ls hC hX hW hL hE
  exact lv_ldc hC.1.1 hC.1.2.1 hC.1.2.2.2.1 (hC.1.2.2.2.2 _ hw) hd (K hC hX hW hL hE)
theorem r_ldc_w {index : Nat} (hd : decode cc pc = .ok (.ldc_w index, 3)) (hq : pc + 3 = q) {v : Int32} (hw : Cond.constant own index v ∈ lw_big) (K : Rn ly sc own cc nL fr lo q L (.int v :: st) σ E) : Rn ly sc own cc nL fr lo pc L (st) σ E := by
  subst hq
  intro p l e R s m args below meth c D C ad A H locs cells slots Q ls hC hX hW hL hE
  exact lv_ldcw hC.1.1 hC.1.2.1 hC.1.2.2.2.1 (hC.1.2.2.2.2 _ hw) hd (K hC hX hW hL hE)
theorem r_iload_n {k : Fin 4} (hd : decode cc pc = .ok (.iload_n k, 1)) (hq : pc + 1 = q) {x : Int32} (hv : L[(k : Nat)]? = some (some (.int x))) (K : Rn ly sc own cc nL fr lo q L (.int x :: st) σ E) : Rn ly sc own cc nL fr lo pc L (st) σ E := by
  subst hq
  intro p l e R s m args below meth c D C ad A H locs cells slots Q ls hC hX hW hL hE
  exact lv_iload_n hC.1.1 hC.1.2.1 hd rfl (hL.2.2.2 _ _ hv) (K hC hX hW hL hE)
theorem r_aload_n {k : Fin 4} (hd : decode cc pc = .ok (.aload_n k, 1)) (hq : pc + 1 = q) {x : Nat} (hv : L[(k : Nat)]? = some (some (.ref x))) (K : Rn ly sc own cc nL fr lo q L (.ref x :: st) σ E) : Rn ly sc own cc nL fr lo pc L (st) σ E := by
  subst hq
  intro p l e R s m args below meth c D C ad A H locs cells slots Q ls hC hX hW hL hE
  exact lv_aload_n hC.1.1 hC.1.2.1 hd rfl (hL.2.2.2 _ _ hv) (K hC hX hW hL hE)
theorem r_iload {k : Nat} (hd : decode cc pc = .ok (.iload k, 2)) (hq : pc + 2 = q) {x : Int32} (hv : L[k]? = some (some (.int x))) (K : Rn ly sc own cc nL fr lo q L (.int x :: st) σ E) : Rn ly sc own cc nL fr lo pc L (st) σ E := by
  subst hq
  intro p l e R s m args below meth c D C ad A H locs cells slots Q ls hC hX hW hL hE
  exact lv_iload hC.1.1 hC.1.2.1 hd (hL.2.2.2 _ _ hv) (K hC hX hW hL hE)
theorem r_aload {k : Nat} (hd : decode cc pc = .ok (.aload k, 2)) (hq : pc + 2 = q) {x : Nat} (hv : L[k]? = some (some (.ref x))) (K : Rn ly sc own cc nL fr lo q L (.ref x :: st) σ E) : Rn ly sc own cc nL fr lo pc L (st) σ E := by
  subst hq
  intro p l e R s m args below meth c D C ad A H locs cells slots Q ls hC hX hW hL hE
  exact lv_aload hC.1.1 hC.1.2.1 hd (hL.2.2.2 _ _ hv) (K hC hX hW hL hE)
theorem r_istore_n {k : Fin 4} {x : Int32} (hd : decode cc pc = .ok (.istore_n k, 1)) (hq : pc + 1 = q) (hi : (k : Nat) < L.length) (K : Rn ly sc own cc nL fr lo q (L.set (k : Nat) (some (.int x))) st σ E) : Rn ly sc own cc nL fr lo pc L (.int x :: st) σ E := by
  subst hq
  intro p l e R s m args below meth c D C ad A H locs cells slots Q ls hC hX hW hL hE
  exact lv_istore_n hC.1.1 hC.1.2.1 hd rfl hL.has (Nat.lt_of_lt_of_le hi hL.2.2.1) rfl (fun ls' h => K hC hX hW (lh.put hL.2.2.1 h) hE)
theorem r_istore {k : Nat} {x : Int32} (hd : decode cc pc = .ok (.istore k, 2)) (hq : pc + 2 = q) (hi : k < L.length) (K : Rn ly sc own cc nL fr lo q (L.set k (some (.int x))) st σ E) : Rn ly sc own cc nL fr lo pc L (.int x :: st) σ E := by
  subst hq
  intro p l e R s m args below meth c D C ad A H locs cells slots Q ls hC hX hW hL hE
  exact lv_istore hC.1.1 hC.1.2.1 hd hL.has (Nat.lt_of_lt_of_le hi hL.2.2.1) rfl (fun ls' h => K hC hX hW (lh.put hL.2.2.1 h) hE)
theorem r_astore_n {k : Fin 4} {x : Nat} (hd : decode cc pc = .ok (.astore_n k, 1)) (hq : pc + 1 = q) (hi : (k : Nat) < L.length) (K : Rn ly sc own cc nL fr lo q (L.set (k : Nat) (some (.ref x))) st σ E) : Rn ly sc own cc nL fr lo pc L (.ref x :: st) σ E := by
  subst hq
  intro p l e R s m args below meth c D C ad A H locs cells slots Q ls hC hX hW hL hE
  exact lv_astore_n hC.1.1 hC.1.2.1 hd rfl hL.has (Nat.lt_of_lt_of_le hi hL.2.2.1) rfl (fun ls' h => K hC hX hW (lh.put hL.2.2.1 h) hE)
theorem r_iinc {k : Nat} {n : Int} {x v : Int32} (hd : decode cc pc = .ok (.iinc k n, 3)) (hq : pc + 3 = q) (hx : L[k]? = some (some (.int x))) (hv : x + Int32.ofInt n = v) (K : Rn ly sc own cc nL fr lo q (L.set k (some (.int v))) st σ E) : Rn ly sc own cc nL fr lo pc L st σ E := by
  subst hq
  intro p l e R s m args below meth c D C ad A H locs cells slots Q ls hC hX hW hL hE
  have hm : (k, Value.int x) ∈ lhl ad L := lhl_mem.mpr ⟨.int x, hx, rfl⟩
  obtain ⟨j, hj⟩ := List.getElem?_of_mem hm
  exact lv_iinc hC.1.1 hC.1.2.1 hd hL.has hj hv (Nat.lt_of_lt_of_le (List.getElem?_eq_some_iff.mp hx).1 hL.2.2.1) rfl (fun ls' h => K hC hX hW (lh.put hL.2.2.1 h) hE)
theorem r_dup {v : Value} (hd : decode cc pc = .ok (.dup, 1)) (hq : pc + 1 = q) (K : Rn ly sc own cc nL fr lo q L (v :: v :: st) σ E) : Rn ly sc own cc nL fr lo pc L (v :: st) σ E := by
  subst hq
  intro p l e R s m args below meth c D C ad A H locs cells slots Q ls hC hX hW hL hE
  exact lv_dup hC.1.1 hC.1.2.1 hd (rv_cat ad v) (K hC hX hW hL hE)
theorem r_dup2 {v u : Value} (hd : decode cc pc = .ok (.dup2, 1)) (hq : pc + 1 = q) (K : Rn ly sc own cc nL fr lo q L (v :: u :: v :: u :: st) σ E) : Rn ly sc own cc nL fr lo pc L (v :: u :: st) σ E := by
  subst hq
  intro p l e R s m args below meth c D C ad A H locs cells slots Q ls hC hX hW hL hE
  exact lv_dup2_11 hC.1.1 hC.1.2.1 hd (rv_cat ad v) (rv_cat ad u) (K hC hX hW hL hE)
theorem r_goto {off : Int} (hd : decode cc pc = .ok (.goto off, 3)) (hq : (pc : Int) + off = (q : Int)) (K : Rn ly sc own cc nL fr lo q L st σ E) : Rn ly sc own cc nL fr lo pc L st σ E := by
  intro p l e R s m args below meth c D C ad A H locs cells slots Q ls hC hX hW hL hE
  exact lv_goto hC.1.1 hC.1.2.1 hd hq (K hC hX hW hL hE)
theorem r_if_eq {x : Int32} {off : Int} {t : Nat} (hd : decode cc pc = .ok (.ifCond .eq off, 3)) (ht : (pc : Int) + off = (t : Int)) (hq : pc + 3 = q) (Kt : x = 0 → Rn ly sc own cc nL fr lo t L st σ E) (Kf : ¬ x = 0 → Rn ly sc own cc nL fr lo q L st σ E) : Rn ly sc own cc nL fr lo pc L (.int x :: st) σ E := by
  subst hq
  intro p l e R s m args below meth c D C ad A H locs cells slots Q ls hC hX hW hL hE
  exact lv_if_eq hC.1.1 hC.1.2.1 hd ht (fun h => Kt h hC hX hW hL hE) (fun h => Kf h hC hX hW hL hE)
theorem r_icmp_eq {x y : Int32} {off : Int} {t : Nat} (hd : decode cc pc = .ok (.if_icmp .eq off, 3)) (ht : (pc : Int) + off = (t : Int)) (hq : pc + 3 = q) (Kt : x = y → Rn ly sc own cc nL fr lo t L st σ E) (Kf : ¬ x = y → Rn ly sc own cc nL fr lo q L st σ E) : Rn ly sc own cc nL fr lo pc L (.int y :: .int x :: st) σ E := by
  subst hq
  intro p l e R s m args below meth c D C ad A H locs cells slots Q ls hC hX hW hL hE
  exact lv_icmp_eq hC.1.1 hC.1.2.1 hd ht (fun h => Kt h hC hX hW hL hE) (fun h => Kf h hC hX hW hL hE)
theorem r_if_ne {x : Int32} {off : Int} {t : Nat} (hd : decode cc pc = .ok (.ifCond .ne off, 3)) (ht : (pc : Int) + off = (t : Int)) (hq : pc + 3 = q) (Kt : ¬ x = 0 → Rn ly sc own cc nL fr lo t L st σ E) (Kf : x = 0 → Rn ly sc own cc nL fr lo q L st σ E) : Rn ly sc own cc nL fr lo pc L (.int x :: st) σ E := by
  subst hq
  intro p l e R s m args below meth c D C ad A H locs cells slots Q ls hC hX hW hL hE
  exact lv_if_ne hC.1.1 hC.1.2.1 hd ht (fun h => Kt h hC hX hW hL hE) (fun h => Kf h hC hX hW hL hE)
theorem r_icmp_ne {x y : Int32} {off : Int} {t : Nat} (hd : decode cc pc = .ok (.if_icmp .ne off, 3)) (ht : (pc : Int) + off = (t : Int)) (hq : pc + 3 = q) (Kt : ¬ x = y → Rn ly sc own cc nL fr lo t L st σ E) (Kf : x = y → Rn ly sc own cc nL fr lo q L st σ E) : Rn ly sc own cc nL fr lo pc L (.int y :: .int x :: st) σ E := by
  subst hq
  intro p l e R s m args below meth c D C ad A H locs cells slots Q ls hC hX hW hL hE
  exact lv_icmp_ne hC.1.1 hC.1.2.1 hd ht (fun h => Kt h hC hX hW hL hE) (fun h => Kf h hC hX hW hL hE)
theorem r_if_lt {x : Int32} {off : Int} {t : Nat} (hd : decode cc pc = .ok (.ifCond .lt off, 3)) (ht : (pc : Int) + off = (t : Int)) (hq : pc + 3 = q) (Kt : x < 0 → Rn ly sc own cc nL fr lo t L st σ E) (Kf : ¬ x < 0 → Rn ly sc own cc nL fr lo q L st σ E) : Rn ly sc own cc nL fr lo pc L (.int x :: st) σ E := by
  subst hq
  intro p l e R s m args below meth c D C ad A H locs cells slots Q ls hC hX hW hL hE
  exact lv_if_lt hC.1.1 hC.1.2.1 hd ht (fun h => Kt h hC hX hW hL hE) (fun h => Kf h hC hX hW hL hE)
theorem r_icmp_lt {x y : Int32} {off : Int} {t : Nat} (hd : decode cc pc = .ok (.if_icmp .lt off, 3)) (ht : (pc : Int) + off = (t : Int)) (hq : pc + 3 = q) (Kt : x < y → Rn ly sc own cc nL fr lo t L st σ E) (Kf : ¬ x < y → Rn ly sc own cc nL fr lo q L st σ E) : Rn ly sc own cc nL fr lo pc L (.int y :: .int x :: st) σ E := by
  subst hq
  intro p l e R s m args below meth c D C ad A H locs cells slots Q ls hC hX hW hL hE
  exact lv_icmp_lt hC.1.1 hC.1.2.1 hd ht (fun h => Kt h hC hX hW hL hE) (fun h => Kf h hC hX hW hL hE)
theorem r_if_ge {x : Int32} {off : Int} {t : Nat} (hd : decode cc pc = .ok (.ifCond .ge off, 3)) (ht : (pc : Int) + off = (t : Int)) (hq : pc + 3 = q) (Kt : 0 ≤ x → Rn ly sc own cc nL fr lo t L st σ E) (Kf : ¬ 0 ≤ x → Rn ly sc own cc nL fr lo q L st σ E) : Rn ly sc own cc nL fr lo pc L (.int x :: st) σ E := by
  subst hq
  intro p l e R s m args below meth c D C ad A H locs cells slots Q ls hC hX hW hL hE
  exact lv_if_ge hC.1.1 hC.1.2.1 hd ht (fun h => Kt h hC hX hW hL hE) (fun h => Kf h hC hX hW hL hE)
theorem r_icmp_ge {x y : Int32} {off : Int} {t : Nat} (hd : decode cc pc = .ok (.if_icmp .ge off, 3)) (ht : (pc : Int) + off = (t : Int)) (hq : pc + 3 = q) (Kt : y ≤ x → Rn ly sc own cc nL fr lo t L st σ E) (Kf : ¬ y ≤ x → Rn ly sc own cc nL fr lo q L st σ E) : Rn ly sc own cc nL fr lo pc L (.int y :: .int x :: st) σ E := by
  subst hq
  intro p l e R s m args below meth c D C ad A H locs cells slots Q ls hC hX hW hL hE
  exact lv_icmp_ge hC.1.1 hC.1.2.1 hd ht (fun h => Kt h hC hX hW hL hE) (fun h => Kf h hC hX hW hL hE)
theorem r_if_gt {x : Int32} {off : Int} {t : Nat} (hd : decode cc pc = .ok (.ifCond .gt off, 3)) (ht : (pc : Int) + off = (t : Int)) (hq : pc + 3 = q) (Kt : 0 < x → Rn ly sc own cc nL fr lo t L st σ E) (Kf : ¬ 0 < x → Rn ly sc own cc nL fr lo q L st σ E) : Rn ly sc own cc nL fr lo pc L (.int x :: st) σ E := by
  subst hq
  intro p l e R s m args below meth c D C ad A H locs cells slots Q ls hC hX hW hL hE
  exact lv_if_gt hC.1.1 hC.1.2.1 hd ht (fun h => Kt h hC hX hW hL hE) (fun h => Kf h hC hX hW hL hE)
theorem r_icmp_gt {x y : Int32} {off : Int} {t : Nat} (hd : decode cc pc = .ok (.if_icmp .gt off, 3)) (ht : (pc : Int) + off = (t : Int)) (hq : pc + 3 = q) (Kt : y < x → Rn ly sc own cc nL fr lo t L st σ E) (Kf : ¬ y < x → Rn ly sc own cc nL fr lo q L st σ E) : Rn ly sc own cc nL fr lo pc L (.int y :: .int x :: st) σ E := by
  subst hq
  intro p l e R s m args below meth c D C ad A H locs cells slots Q ls hC hX hW hL hE
  exact lv_icmp_gt hC.1.1 hC.1.2.1 hd ht (fun h => Kt h hC hX hW hL hE) (fun h => Kf h hC hX hW hL hE)
theorem r_if_le {x : Int32} {off : Int} {t : Nat} (hd : decode cc pc = .ok (.ifCond .le off, 3)) (ht : (pc : Int) + off = (t : Int)) (hq : pc + 3 = q) (Kt : x ≤ 0 → Rn ly sc own cc nL fr lo t L st σ E) (Kf : ¬ x ≤ 0 → Rn ly sc own cc nL fr lo q L st σ E) : Rn ly sc own cc nL fr lo pc L (.int x :: st) σ E := by
  subst hq
  intro p l e R s m args below meth c D C ad A H locs cells slots Q ls hC hX hW hL hE
  exact lv_if_le hC.1.1 hC.1.2.1 hd ht (fun h => Kt h hC hX hW hL hE) (fun h => Kf h hC hX hW hL hE)
theorem r_icmp_le {x y : Int32} {off : Int} {t : Nat} (hd : decode cc pc = .ok (.if_icmp .le off, 3)) (ht : (pc : Int) + off = (t : Int)) (hq : pc + 3 = q) (Kt : x ≤ y → Rn ly sc own cc nL fr lo t L st σ E) (Kf : ¬ x ≤ y → Rn ly sc own cc nL fr lo q L st σ E) : Rn ly sc own cc nL fr lo pc L (.int y :: .int x :: st) σ E := by
  subst hq
  intro p l e R s m args below meth c D C ad A H locs cells slots Q ls hC hX hW hL hE
  exact lv_icmp_le hC.1.1 hC.1.2.1 hd ht (fun h => Kt h hC hX hW hL hE) (fun h => Kf h hC hX hW hL hE)
theorem r_tableIn {dflt l0 h0 : Int} {offs : Array Int} {len : Nat} {x : Int32} {off : Int} (hd : decode cc pc = .ok (.tableswitch dflt l0 h0 offs, len)) (h1 : ¬ x.toInt < l0) (h2 : ¬ h0 < x.toInt) (ho : offs[(x.toInt - l0).toNat]? = some off) (hq : (pc : Int) + off = (q : Int)) (K : Rn ly sc own cc nL fr lo q L st σ E) : Rn ly sc own cc nL fr lo pc L (.int x :: st) σ E := by
  intro p l e R s m args below meth c D C ad A H locs cells slots Q ls hC hX hW hL hE
  exact lv_tableIn hC.1.1 hC.1.2.1 hd h1 h2 ho hq (K hC hX hW hL hE)
theorem r_tableOut {dflt l0 h0 : Int} {offs : Array Int} {len : Nat} {x : Int32} (hd : decode cc pc = .ok (.tableswitch dflt l0 h0 offs, len)) (h : x.toInt < l0 ∨ h0 < x.toInt) (hq : (pc : Int) + dflt = (q : Int)) (K : Rn ly sc own cc nL fr lo q L st σ E) : Rn ly sc own cc nL fr lo pc L (.int x :: st) σ E := by
  intro p l e R s m args below meth c D C ad A H locs cells slots Q ls hC hX hW hL hE
  exact lv_tableOut hC.1.1 hC.1.2.1 hd h hq (K hC hX hW hL hE)
theorem r_iald {k j n : Nat} (hd : decode cc pc = .ok (.iaload, 1)) (hq : pc + 1 = q) (hly : ly[k]? = some (.inl (0, n))) (hj : j < n) (hn : n < 2 ^ 31) (K : Rn ly sc own cc nL fr lo q L (.int (σ k j) :: st) σ E) : Rn ly sc own cc nL fr lo pc L (.int (nI j) :: .ref k :: st) σ E := by
  subst hq
  intro p l e R s m args below meth c D C ad A H locs cells slots Q ls hC hX hW hL hE
  rw [← nI_clamp (Nat.lt_trans hj hn)] at K
  exact va_iald hC.1.1 hC.1.2.1 hC.2.2.2.2.2.1 hW.1 k 0 (wd_ai hly) rfl (vp_in_nI hj hn) hd (K hC hX hW hL hE)
theorem r_zald {k j n : Nat} (hd : decode cc pc = .ok (.baload, 1)) (hq : pc + 1 = q) (hly : ly[k]? = some (.inl (1, n))) (hj : j < n) (hn : n < 2 ^ 31) (K : Rn ly sc own cc nL fr lo q L (.int (σ k j) :: st) σ E) : Rn ly sc own cc nL fr lo pc L (.int (nI j) :: .ref k :: st) σ E := by
  subst hq
  intro p l e R s m args below meth c D C ad A H locs cells slots Q ls hC hX hW hL hE
  rw [← nI_clamp (Nat.lt_trans hj hn)] at K
  exact va_zald hC.1.1 hC.1.2.1 hC.2.2.2.2.2.1 hW.1 k 1 (wd_az hly) rfl (vp_in_nI hj hn) hd (K hC hX hW hL hE)
theorem r_iast {k j n : Nat} {x : Int32} (hd : decode cc pc = .ok (.iastore, 1)) (hq : pc + 1 = q) (hly : ly[k]? = some (.inl (0, n))) (hj : j < n) (hn : n < 2 ^ 31) (K : Rn ly sc own cc nL fr lo q L st (va_up σ k (upd (σ k) j x)) E) : Rn ly sc own cc nL fr lo pc L (.int x :: .int (nI j) :: .ref k :: st) σ E := by
  subst hq
  intro p l e R s m args below meth c D C ad A H locs cells slots Q ls hC hX hW hL hE
  refine va_iast hC.1.1 hC.1.2.1 hC.2.2.2.2.2.1 hW.1 hW.2.1 hW.2.2 k 0 (wd_ai hly) rfl (vp_in_nI hj hn) hd (fun H1 locs1 hP hD hS => ?_)
  rw [nI_clamp (Nat.lt_trans hj hn), wd_setI hly] at hP hD
  exact K hC hX ⟨hP, hD, hS⟩ hL hE
theorem vp_narZ {x : Int32} (h : x = 0 ∨ x = 1) : vp_nar .boolean x = x := by rcases h with rfl | rfl <;> decide +kernel
theorem r_zast {k j n : Nat} {x : Int32} (hd : decode cc pc = .ok (.bastore, 1)) (hq : pc + 1 = q) (hly : ly[k]? = some (.inl (1, n))) (hj : j < n) (hn : n < 2 ^ 31) (hx : x = 0 ∨ x = 1) (K : Rn ly sc own cc nL fr lo q L st (va_up σ k (upd (σ k) j x)) E) : Rn ly sc own cc nL fr lo pc L (.int x :: .int (nI j) :: .ref k :: st) σ E := by
  subst hq
  intro p l e R s m args below meth c D C ad A H locs cells slots Q ls hC hX hW hL hE
  refine va_zast hC.1.1 hC.1.2.1 hC.2.2.2.2.2.1 hW.1 hW.2.1 hW.2.2 k 1 (wd_az hly) rfl (vp_in_nI hj hn) hd (fun H1 locs1 hP hD hS => ?_)
  rw [vp_narZ hx, nI_clamp (Nat.lt_trans hj hn), wd_setZ hly] at hP hD
  exact K hC hX ⟨hP, hD, hS⟩ hL hE
theorem r_alen {k n : Nat} (hd : decode cc pc = .ok (.arraylength, 1)) (hq : pc + 1 = q) (hly : ly[k]? = some (.inl (0, n))) (K : Rn ly sc own cc nL fr lo q L (.int (nI n) :: st) σ E) : Rn ly sc own cc nL fr lo pc L (.ref k :: st) σ E := by
  subst hq
  intro p l e R s m args below meth c D C ad A H locs cells slots Q ls hC hX hW hL hE
  exact va_alen hC.1.1 hC.1.2.1 hC.2.2.2.2.2.1 hW.1 k 0 (wd_ai hly) (ty := .int) rfl rfl hd (K hC hX hW hL hE)
theorem r_sld {n : Nat} {xs : Nat → Int32} {j : Nat} (hd : decode cc pc = .ok (.iaload, 1)) (hq : pc + 1 = q) (hj : j < n) (hn : n < 2 ^ 31) (K : Rn ly (some (n, xs)) own cc nL fr lo q L (.int (xs j) :: st) σ E) : Rn ly (some (n, xs)) own cc nL fr lo pc L (.int (nI j) :: .ref 1000 :: st) σ E := by
  subst hq
  intro p l e R s m args below meth c D C ad A H locs cells slots Q ls hC hX hW hL hE
  rw [← nI_clamp (Nat.lt_trans hj hn)] at K
  obtain ⟨h1, h2, h3⟩ := hX.2 n xs rfl
  exact va_sld hC.1.1 hC.1.2.1 h1 h2 h3 hW.2.2 (vp_in_nI hj hn) hd (K hC hX hW hL hE)
theorem r_slen {n : Nat} {xs : Nat → Int32} (hd : decode cc pc = .ok (.arraylength, 1)) (hq : pc + 1 = q) (K : Rn ly (some (n, xs)) own cc nL fr lo q L (.int (nI n) :: st) σ E) : Rn ly (some (n, xs)) own cc nL fr lo pc L (.ref 1000 :: st) σ E := by
  subst hq
  intro p l e R s m args below meth c D C ad A H locs cells slots Q ls hC hX hW hL hE
  obtain ⟨h1, h2, h3⟩ := hX.2 n xs rfl
  exact va_slen hC.1.1 hC.1.2.1 h1 h2 h3 hW.2.2 hd (K hC hX hW hL hE)
/-- what the tables say of a field that an instruction names -/
def FD (own : String) (idx ci j : Nat) (ty : FieldType) (fin : Bool) : Prop := ∃ (Cn : String) (T : u_T) (N : Nat) (tf : Nat → FieldType), vwCl[ci]? = some (Cn, T, N) ∧ (∀ w ∈ u_ws Cn T N, w ∈ lw_big) ∧ (∀ k, k < N → parseFieldDescriptor (T k).2.2.1 = some (tf k)) ∧ (∀ a, a < N → ∀ b, b < N → a ≠ b → (T a).2.1 ≠ (T b).2.1) ∧ j < N ∧ Cond.fieldLink own idx (T j).1 (T j).2.1 (T j).2.2.1 ∈ lw_big ∧ (T j).2.2.2 = fin ∧ parseFieldDescriptor (T j).2.2.1 = some ty
theorem r_getV {idx k ci j : Nat} {ty : FieldType} {fin : Bool} {fs : List (Nat × Nat)} {f : Nat × Nat} {v : Value} (hd : decode cc pc = .ok (.getfield idx, 3)) (hq : pc + 3 = q) (hf : FD own idx ci j ty fin) (hly : ly[k]? = some (.inr (ci, fs))) (hj : fs[j]? = some f) (hv : ∀ ad, fv ad (σ k) j f = rv ad v) (K : Rn ly sc own cc nL fr lo q L (v :: st) σ E) : Rn ly sc own cc nL fr lo pc L (.ref k :: st) σ E := by
  subst hq
  intro p l e R s m args below meth c D C ad A H locs cells slots Q ls hC hX hW hL hE
  obtain ⟨Cn, T, N, tf, h1, h2, h3, h4, h5, h6, h7, h8⟩ := hf
  exact va_get hC.1.1 hC.1.2.1 hC.1.2.2.2.2 h2 hC.1.2.2.2.1 hC.2.2.2.2.2.1 hW.1 k (wd_ob hly) h1 j h5 (hC.1.2.2.2.2 _ h6) (fun _ h => h) (by rw [List.getElem?_mapIdx, hj]; exact congrArg some (hv ad)) hd (K hC hX hW hL hE)
theorem r_getI {idx k ci j : Nat} {ty : FieldType} {fin : Bool} {fs : List (Nat × Nat)} {z : Nat} (hd : decode cc pc = .ok (.getfield idx, 3)) (hq : pc + 3 = q) (hf : FD own idx ci j ty fin) (hly : ly[k]? = some (.inr (ci, fs))) (hj : fs[j]? = some (0, z)) (K : Rn ly sc own cc nL fr lo q L (.int (σ k j) :: st) σ E) : Rn ly sc own cc nL fr lo pc L (.ref k :: st) σ E := r_getV hd hq hf hly hj (fun _ => rfl) K
theorem r_getZ {idx k ci j : Nat} {ty : FieldType} {fin : Bool} {fs : List (Nat × Nat)} {z : Nat} (hd : decode cc pc = .ok (.getfield idx, 3)) (hq : pc + 3 = q) (hf : FD own idx ci j ty fin) (hly : ly[k]? = some (.inr (ci, fs))) (hj : fs[j]? = some (1, z)) (K : Rn ly sc own cc nL fr lo q L (.int (σ k j) :: st) σ E) : Rn ly sc own cc nL fr lo pc L (.ref k :: st) σ E := r_getV hd hq hf hly hj (fun _ => rfl) K
theorem r_getR {idx k ci j : Nat} {ty : FieldType} {fin : Bool} {fs : List (Nat × Nat)} {z : Nat} (hd : decode cc pc = .ok (.getfield idx, 3)) (hq : pc + 3 = q) (hf : FD own idx ci j ty fin) (hly : ly[k]? = some (.inr (ci, fs))) (hj : fs[j]? = some (2, z)) (K : Rn ly sc own cc nL fr lo q L (.ref z :: st) σ E) : Rn ly sc own cc nL fr lo pc L (.ref k :: st) σ E := r_getV hd hq hf hly hj (fun _ => rfl) K
theorem r_putV {idx k ci j t z : Nat} {ty : FieldType} {fs : List (Nat × Nat)} {x : Int32} (hd : decode cc pc = .ok (.putfield idx, 3)) (hq : pc + 3 = q) (hf : FD own idx ci j ty false) (hly : ly[k]? = some (.inr (ci, fs))) (hj : fs[j]? = some (t, z)) (ht : t < 2) (hn : narrow ty (.int x) = .int x) (hfit : fits ty (.int x) = true) (K : Rn ly sc own cc nL fr lo q L st (va_up σ k (upd (σ k) j x)) E) : Rn ly sc own cc nL fr lo pc L (.int x :: .ref k :: st) σ E := by
  subst hq
  intro p l e R s m args below meth c D C ad A H locs cells slots Q ls hC hX hW hL hE
  obtain ⟨Cn, T, N, tf, h1, h2, h3, h4, h5, h6, h7, h8⟩ := hf
  refine va_put hC.1.1 hC.1.2.1 hC.1.2.2.2.2 h2 tf h3 h4 hC.1.2.2.2.1 hC.2.2.2.2.2.1 hW.1 hW.2.1 hW.2.2 k (wd_ob hly) h1 j h5 (hC.1.2.2.2.2 _ h6) (fun _ h => h) h7 h8 hn hfit (by rw [List.length_mapIdx]; exact (List.getElem?_eq_some_iff.mp hj).1) hd (fun H1 locs1 hP hD hS => ?_)
  rw [show rv ad (Value.int x) = Value.int x from rfl, wd_setO hly hj ht] at hP hD
  exact K hC hX ⟨hP, hD, hS⟩ hL hE
theorem r_putI {idx k ci j z : Nat} {fs : List (Nat × Nat)} {x : Int32} (hd : decode cc pc = .ok (.putfield idx, 3)) (hq : pc + 3 = q) (hf : FD own idx ci j .int false) (hly : ly[k]? = some (.inr (ci, fs))) (hj : fs[j]? = some (0, z)) (K : Rn ly sc own cc nL fr lo q L st (va_up σ k (upd (σ k) j x)) E) : Rn ly sc own cc nL fr lo pc L (.int x :: .ref k :: st) σ E := r_putV hd hq hf hly hj (by decide) rfl rfl K
theorem r_putZ {idx k ci j z : Nat} {fs : List (Nat × Nat)} {x : Int32} (hd : decode cc pc = .ok (.putfield idx, 3)) (hq : pc + 3 = q) (hf : FD own idx ci j .boolean false) (hly : ly[k]? = some (.inr (ci, fs))) (hj : fs[j]? = some (1, z)) (hx : x = 0 ∨ x = 1) (K : Rn ly sc own cc nL fr lo q L st (va_up σ k (upd (σ k) j x)) E) : Rn ly sc own cc nL fr lo pc L (.int x :: .ref k :: st) σ E := r_putV hd hq hf hly hj (by decide) (by rcases hx with rfl | rfl <;> rfl) (by rcases hx with rfl | rfl <;> rfl) K
theorem r_ret {x : Int32} (hd : decode cc pc = .ok (.ireturn, 1)) (h : E (some x) σ) : Rn ly sc own cc nL fr lo pc L [.int x] σ E := by
  intro p l e R s m args below meth c D C ad A H locs cells slots Q ls hC hX hW hL hE
  exact hE (some x) σ H locs ls pc h hW hd
theorem r_void (hd : decode cc pc = .ok (.return_, 1)) (h : E none σ) : Rn ly sc own cc nL fr lo pc L [] σ E := by
  intro p l e R s m args below meth c D C ad A H locs cells slots Q ls hC hX hW hL hE
  exact hE none σ H locs ls pc h hW hd
end CORE
/-- a method's contract: from the contents σ, with these arguments, it returns with E; no cell is made -/
def Cl (ly : List LyE) (y : MethodName) (cc : ByteArray) (nL : Nat) (ret : Option FieldType) (fr lo : Nat) (av : List Value) (σ : St) (E : Option Int32 → St → Prop) : Prop :=
  ∀ (l : Launch) (D : va_G) (C : ClassId × ClassId) (ad : Nat → Nat) (sz : Nat), Met l y (.code y cc nL ret :: lw_big) ({ frames := fr, cells := 0, slots := 0, locals := lo })
    (va_Pc (av.map (rv ad)) (fun U => U.heap.size = sz ∧ va_P D vwCl (wd C ad ly σ) U.heap ∧ Kn D C U ∧ va_D (fun _ => True) (wd C ad ly σ)))
    (fun _ st oc t => (∃ (r : Option Int32) (τ : St), oc = .returned (r.map Value.int) ∧ E r τ ∧ va_P D vwCl (wd C ad ly τ) t.heap) ∧ va_F (va_A (wd C ad ly σ) sz) st t) 0 0 (va_A (wd C ad ly σ) sz)
def retOk (ret : Option FieldType) (r : Option Int32) : Prop := match ret, r with
  | none, none => True
  | some .int, some _ => True
  | some .boolean, some x => x = 0 ∨ x = 1
  | _, _ => False
theorem Cl.mono {ly : List LyE} {y : MethodName} {cc : ByteArray} {nL fr lo : Nat} {ret : Option FieldType} {av : List Value} {σ : St} {E E' : Option Int32 → St → Prop} (h : Cl ly y cc nL ret fr lo av σ E) (hE : ∀ r τ, E r τ → E' r τ) : Cl ly y cc nL ret fr lo av σ E' := by
  intro l D C ad sz
  have h1 := h l D C ad sz
  unfold Met MetFree at h1 ⊢
  intro p e ha hc hk s m args below hf happ hP hK
  obtain ⟨k, o, h2, h3, h4, ⟨⟨⟨r, τ, q1, q2, q3⟩, q4⟩, q5⟩⟩ := h1 p e ha hc hk s m args below hf happ hP hK
  exact ⟨k, o, h2, h3, h4, ⟨⟨⟨r, τ, q1, hE r τ q2, q3⟩, q4⟩, q5⟩⟩
theorem lg_len (ad : Nat → Nat) (av : List Value) : (lg_sl (av.map (rv ad))).length = av.length := by
  induction av with
  | nil => rfl
  | cons v av ih =>
    have e : lg_sl (rv ad v :: av.map (rv ad)) = Slot.val (rv ad v) :: lg_sl (av.map (rv ad)) := by
      simp [lg_sl, rv_cat]
    rw [List.map_cons, e, List.length_cons, ih, List.length_cons]
set_option maxHeartbeats 4000000 in
theorem Cl.of {ly : List LyE} {y : MethodName} {cc : ByteArray} {nL fr lo : Nat} {ret : Option FieldType} {av : List Value} {σ : St} {E : Option Int32 → St → Prop} (n : Nat) (hn : av.length + n = nL) (hy : plainName y.cls = true) (hret : ∀ r τ, E r τ → retOk ret r)
    (h : Rn ly none y.cls cc nL fr lo 0 (av.map some ++ List.replicate n none) [] σ E) : Cl ly y cc nL ret fr lo av σ E := by
  intro l D C ad sz
  refine Met.ofW (cc := cc) (maxL := nL) (ret := ret) hy rfl ?_
  intro p e s m args below meth c s₁ B hml hv
  obtain ⟨rfl, hsz, hP, hK, hD0⟩ := hv
  have hx := B.exec
  have hb := B.bytes
  have hr := B.returns
  have hts := atoms_spec (ws := .code y cc nL ret :: lw_big) B.pre
  have hown : s.vm.findClass y.cls = some m.cls := findClass_of_methodNamed B.named
  have hlocks := B.notSynchronized
  subst hsz
  have hD := hD0.self (sz := s.heap.size)
  have hlen := lg_len ad av
  have hl := lv_entry (av.map (rv ad)) (n := nL) (by rw [hlen]; omega)
  rw [lg_entry_eq]
  refine h (cells := 0) (slots := 0) (A := va_A (wd C ad ly σ) s.heap.size) (D := D) (C := C) (ad := ad) ⟨⟨hx, hb, hml, hown, fun w hw => hts w (List.mem_cons_of_mem _ hw)⟩, Nat.le_refl _, Nat.le_refl _, Nat.le_refl _, Nat.le_refl _, hK⟩ ⟨fun q hq => Or.inr hq, fun n xs e => by cases e⟩ ⟨hP, hD, va_S.rf⟩ (lh.entry n hn hl) ?_
  intro r τ H' locs' ls' pc' hEr hW' hRet
  have hok := hret r τ hEr
  have hq : ∀ t : State, t.heap = H' → (∃ (r' : Option Int32) (τ' : St), Outcome.returned (r.map Value.int) = .returned (r'.map Value.int) ∧ E r' τ' ∧ va_P D vwCl (wd C ad ly τ') t.heap) ∧ va_F (va_A (wd C ad ly σ) s.heap.size) s t := fun t ht => ⟨⟨r, τ, rfl, hEr, by rw [ht]; exact hW'.1⟩, hW'.2.2.F ht⟩
  cases r with
  | none =>
    cases ret with
    | none => exact W.vret hx hb hr (fun t ht _ => hq t ht) hW'.2.2.2.2 hRet
    | some ty => cases ty <;> exact hok.elim
  | some x =>
    cases ret with
    | none => exact hok.elim
    | some ty =>
      refine W.zret hx hb hr ?_ (fun t ht _ => hq t ht) hW'.2.2.2.2 hRet
      cases ty <;> first | rfl | exact hok.elim | (rcases hok with rfl | rfl <;> rfl)
/-- what the tables say of a call -/
def CwB (own : String) (idx : Nat) (y : MethodName) (cc' : ByteArray) (nL' : Nat) (ret : Option FieldType) (n : Nat) : Prop :=
  Cond.code y cc' nL' ret ∈ lw_big ∧ Cond.initialized y.cls ∈ lw_big ∧ Cond.methodLink own idx y ∈ lw_big ∧ (y.cls ≠ "java/lang/invoke/MethodHandle" ∧ y.cls ≠ "java/lang/invoke/VarHandle" ∧ (parseMethodDescriptor y.desc).map (fun d => d.parameters.length) = some n)
def CwV (own : String) (idx : Nat) (y : MethodName) (cc' : ByteArray) (nL' : Nat) (ret : Option FieldType) (n : Nat) : Prop := CwB own idx y cc' nL' ret n ∧ Cond.instanceMethod y ∈ lw_big ∧ Cond.selects y.cls y y ∈ lw_big
def CwS (own : String) (idx : Nat) (y : MethodName) (cc' : ByteArray) (nL' : Nat) (ret : Option FieldType) (n : Nat) : Prop := CwB own idx y cc' nL' ret n ∧ Cond.static y ∈ lw_big
theorem goodIn_law {w : Cond} (hw : w ∈ lw_big) : GoodIn lw_big (w :: lw_big) := by
  have hg : ∀ u ∈ lw_big, goodWord u = true := fun _ h => big_good h
  intro u hu
  rcases List.mem_cons.mp hu with rfl | hu
  · exact ⟨hw, good_of_word (hg _ hw)⟩
  · exact ⟨hu, good_of_word (hg _ hu)⟩
theorem CwB.use {R : Room} {s : State} {args : Array Value} {own : String} {idx : Nat} {y : MethodName} {cc' : ByteArray} {nL' n fr' lo' : Nat} {ret : Option FieldType} (h : CwB own idx y cc' nL' ret n) (hts : ∀ w ∈ lw_big, w.before args s = true) (hf : fr' + 1 ≤ R.frames) (hl : 8 + (nL' + 11) + lo' ≤ R.locals) :
    CallB R s args own idx y cc' nL' ret (.code y cc' nL' ret :: lw_big) ({ frames := fr', cells := 0, slots := 0, locals := lo' }) 0 0 n :=
  callB_of n hts (goodIn_law h.1) rfl rfl rfl (hts _ h.2.1) (hts _ h.2.2.1) h.2.2.2 ⟨hf, hl⟩
theorem cl_blind {av : List Value} {D : va_G} {C : ClassId × ClassId} {ws : va_W} {sz : Nat} : FrameBlind (va_Pc av (fun U => U.heap.size = sz ∧ va_P D vwCl ws U.heap ∧ Kn D C U ∧ va_D (fun _ => True) ws)) := by
  intro a U g mk q
  obtain ⟨q0, q1, qP, qK, qD⟩ := q
  exact ⟨q0, q1, qP, qK.same rfl, qD⟩
section CALLS
variable {ly : List LyE} {sc : Option (Nat × (Nat → Int32))} {own : String} {cc : ByteArray} {nL fr lo pc q : Nat} {L : List (Option Value)} {st : List Value} {σ : St} {E : Option Int32 → St → Prop}
theorem cat_sum (ad : Nat → Nat) (st : List Value) : ((st.map (rv ad)).map fun v => v.category).sum = st.length := by
  induction st with
  | nil => rfl
  | cons v st ih => simp only [List.map_cons, List.sum_cons, List.length_cons, rv_cat] at ih ⊢; omega
/-- behind a call -/
theorem va_callg {p : Program} {l : Launch} {e : Env} {R : Room} {s : State} {m : MethodId} {args : Array Value} {below : List Frame} {meth : Method} {c : Code} {H : Heap} {locs : List Loc} {cells slots : Nat} {Q : State → Prop} {pc : Nat} {ls : Array Slot} {rest st0 : List Value} {A0 A1 : Nat → Prop} {H0 : Heap} {free : Addr → Prop} {B : Option Value → Heap → Prop} (hr : va_Run p l e R s m args below meth c H locs cells slots 0 0 (F0 m pc ls st0) rest (fun st oc t => (∃ v, oc = .returned v ∧ B v t.heap) ∧ va_F A1 st t) free) (hS : va_S A0 H0 H locs) (hA : ∀ q, q < H.size → A1 q → A0 q) (hf : ∀ q, free q → A0 q)
    (kk : ∀ (v : Option Value) (H1 : Heap) (locs1 : List Loc), B v H1 → va_S A0 H0 H1 locs1 → W p l e R s m args below meth c H1 locs1 cells slots Q (F0 m (pc + 3) ls (v.toList ++ rest))) : W p l e R s m args below meth c H locs cells slots Q (F0 m pc ls st0) := by
  intro T hT X
  obtain ⟨v, st₀, t, T', L, h0, X', hL, e1, e2, ⟨⟨v', hv, hb⟩, hz, hk⟩, stp⟩ := hr T hT X
  cases hv
  rw [h0] at hz hk
  obtain ⟨t2, a1, b1⟩ := kk v T'.heap (locs ++ L) (by rw [e1]; exact hb)
    ⟨Nat.le_trans hS.1 (by rw [e1]; exact hz), fun q h1 h2 => by rw [e1, hk q (Nat.lt_of_lt_of_le h1 hS.1) (fun z => h2 (hA q (Nat.lt_of_lt_of_le h1 hS.1) z))]; exact hS.2.1 q h1 h2, fun q hq => by
      rcases List.mem_append.mp hq with h | h
      · exact hS.2.2 q h
      · exact hf _ (hL q h)⟩ T' rfl X'
  exact ⟨t2, stp t2 a1, b1⟩
theorem wd_free {D : va_G} {C : ClassId × ClassId} {ad : Nat → Nat} {A : Nat → Prop} {H0 H : Heap} {locs : List Loc} (hA : ∀ q, H0.size ≤ q → A q) (h : Wo D C ad ly A H0 σ H locs) : ∀ q, va_A (wd C ad ly σ) H.size q → A q := by
  intro q hq
  rcases hq with ⟨k, e, hk⟩ | hq
  · exact h.2.1.2 k _ hk
  · exact hA q (Nat.le_trans h.2.2.1 hq)
theorem r_callG {y : MethodName} {cc' : ByteArray} {nL' fr' lo' : Nat} {ret : Option FieldType} {av : List Value} {E' : Option Int32 → St → Prop} {st0 : List Value}
    (hrun : ∀ ⦃p : Program⦄ ⦃l : Launch⦄ ⦃e : Env⦄ ⦃R : Room⦄ ⦃s : State⦄ ⦃m : MethodId⦄ ⦃args : Array Value⦄ ⦃below : List Frame⦄ ⦃meth : Method⦄ ⦃c : Code⦄ ⦃D : va_G⦄ ⦃C : ClassId × ClassId⦄ ⦃ad : Nat → Nat⦄ ⦃A : Nat → Prop⦄ ⦃H : Heap⦄ ⦃locs : List Loc⦄ ⦃cells slots : Nat⦄ ⦃ls : Array Slot⦄, Cx p R s m args c cells slots D C own cc nL fr lo → Wo D C ad ly A s.heap σ H locs → lh ad ls nL L →
      va_Run p l e R s m args below meth c H locs cells slots 0 0 (F0 m pc ls (st0.map (rv ad))) (st.map (rv ad)) (fun st oc t => (∃ (r : Option Int32) (τ : St), oc = .returned (r.map Value.int) ∧ E' r τ ∧ va_P D vwCl (wd C ad ly τ) t.heap) ∧ va_F (va_A (wd C ad ly σ) H.size) st t) (va_A (wd C ad ly σ) H.size))
    (hq : pc + 3 = q) (K : ∀ r τ, E' r τ → Rn ly sc own cc nL fr lo q L ((r.map Value.int).toList ++ st) τ E) : Rn ly sc own cc nL fr lo pc L st0 σ E := by
  subst hq
  intro p l e R s m args below meth c D C ad A H locs cells slots Q ls hC hX hW hL hE
  have hFr := wd_free hX.1 hW
  have h1 := hrun (l := l) (e := e) (below := below) (meth := meth) hC hW hL
  refine va_callg (A1 := va_A (wd C ad ly σ) H.size) (free := va_A (wd C ad ly σ) H.size) (B := fun v h => ∃ (r : Option Int32) (τ : St), v = r.map Value.int ∧ E' r τ ∧ va_P D vwCl (wd C ad ly τ) h) (rest := st.map (rv ad)) ?_ hW.2.2 (fun q _ h => hFr q h) hFr ?_
  · intro T hT X
    obtain ⟨v, st₀, t, T', L', h0, X', hL', e1, e2, ⟨⟨r, τ, q1, q2, q3⟩, q4⟩, stp⟩ := h1 T hT X
    exact ⟨v, st₀, t, T', L', h0, X', hL', e1, e2, ⟨⟨v, rfl, r, τ, by cases q1; rfl, q2, q3⟩, q4⟩, stp⟩
  · rintro v H1 locs1 ⟨r, τ, rfl, h2, h3⟩ hS
    have h4 := K r τ h2 (l := l) (e := e) (below := below) (meth := meth) (Q := Q) hC hX ⟨h3, wd_D hW.2.1, hS⟩ hL hE
    have e5 : (((r.map Value.int).toList ++ st).map (rv ad)) = (r.map Value.int).toList ++ st.map (rv ad) := by
      rw [List.map_append]
      cases r <;> rfl
    rw [e5] at h4
    exact h4
theorem r_callVg {y : MethodName} {cc' : ByteArray} {nL' fr' lo' n idx k ci : Nat} {ret : Option FieldType} {As : List Value} {E' : Option Int32 → St → Prop} {fs : List (Nat × Nat)} {T : u_T} {N : Nat} (hM : Cl ly y cc' nL' ret fr' lo' (.ref k :: As) σ E') (cw : CwV own idx y cc' nL' ret n) (hd : decode cc pc = .ok (.invokevirtual idx, 3)) (hq : pc + 3 = q) (hly : ly[k]? = some (.inr (ci, fs))) (hcl : vwCl[ci]? = some (y.cls, T, N)) (hn : As.length = n) (hst : st.length ≤ 8) (hf : fr' + 1 ≤ fr) (hl : 8 + (nL' + 11) + lo' ≤ lo)
    (K : ∀ r τ, E' r τ → Rn ly sc own cc nL fr lo q L ((r.map Value.int).toList ++ st) τ E) : Rn ly sc own cc nL fr lo pc L (As.reverse ++ .ref k :: st) σ E := by
  refine r_callG (y := y) (cc' := cc') (nL' := nL') (fr' := fr') (lo' := lo') (ret := ret) (av := .ref k :: As) (E' := E') ?_ hq K
  intro p l e R s m args below meth c D C ad A H locs cells slots ls hC hW hL
  refine va_runV (C := y.cls) (b := ad k) (As := As.map (rv ad)) (n := n) hC.1 (hM l D C ad H.size) ⟨cw.1.use hC.1.2.2.2.2 (Nat.le_trans hf hC.2.1) (Nat.le_trans hl hC.2.2.1), hC.1.2.2.2.2 _ cw.2.1, hC.1.2.2.2.2 _ cw.2.2⟩ ⟨cl_blind, va_recv hC.2.2.2.2.2.1 hW.1 hcl (wd_ob hly), fun U hU hWm => ⟨rfl, by rw [hU], by rw [hU]; exact hW.1, hC.2.2.2.2.2.warm hWm, hW.2.1.weaken (fun _ _ _ _ => trivial)⟩⟩ rfl (by rw [List.length_map]; exact hn) hL.1 (by simp [List.map_append, List.map_reverse, rv]) (lv_room (by rw [cat_sum]; exact hst)) hd ⟨hC.2.2.2.1, hC.2.2.2.2.1⟩
theorem r_callSg {y : MethodName} {cc' : ByteArray} {nL' fr' lo' n idx : Nat} {ret : Option FieldType} {As : List Value} {E' : Option Int32 → St → Prop} (hM : Cl ly y cc' nL' ret fr' lo' As σ E') (cw : CwS own idx y cc' nL' ret n) (hd : decode cc pc = .ok (.invokestatic idx, 3)) (hq : pc + 3 = q) (hn : As.length = n) (hst : st.length ≤ 8) (hf : fr' + 1 ≤ fr) (hl : 8 + (nL' + 11) + lo' ≤ lo)
    (K : ∀ r τ, E' r τ → Rn ly sc own cc nL fr lo q L ((r.map Value.int).toList ++ st) τ E) : Rn ly sc own cc nL fr lo pc L (As.reverse ++ st) σ E := by
  refine r_callG (y := y) (cc' := cc') (nL' := nL') (fr' := fr') (lo' := lo') (ret := ret) (av := As) (E' := E') ?_ hq K
  intro p l e R s m args below meth c D C ad A H locs cells slots ls hC hW hL
  refine va_runS (As := As.map (rv ad)) (n := n) hC.1 (hM l D C ad H.size) ⟨cw.1.use hC.1.2.2.2.2 (Nat.le_trans hf hC.2.1) (Nat.le_trans hl hC.2.2.1), hC.1.2.2.2.2 _ cw.2⟩ ⟨cl_blind, fun U hU hWm => ⟨rfl, by rw [hU], by rw [hU]; exact hW.1, hC.2.2.2.2.2.warm hWm, hW.2.1.weaken (fun _ _ _ _ => trivial)⟩⟩ rfl (by rw [List.length_map]; exact hn) hL.1 (by simp [List.map_append, List.map_reverse]) (lv_room (by rw [cat_sum]; exact hst)) hd ⟨hC.2.2.2.1, hC.2.2.2.2.1⟩
def CwN (own : String) (idx : Nat) (y : MethodName) (cc' : ByteArray) (nL' : Nat) (ret : Option FieldType) (n : Nat) : Prop :=
  Cond.code y cc' nL' ret ∈ lw_big ∧ Cond.initialized y.cls ∈ lw_big ∧ Cond.methodLinkNest own idx y "SunCourt" ∈ nestW ∧ (y.cls ≠ "java/lang/invoke/MethodHandle" ∧ y.cls ≠ "java/lang/invoke/VarHandle" ∧ (parseMethodDescriptor y.desc).map (fun d => d.parameters.length) = some n)
theorem r_callSN {y : MethodName} {cc' : ByteArray} {nL' fr' lo' n idx : Nat} {ret : Option FieldType} {As : List Value} {E' : Option Int32 → St → Prop} (hM : Cl ly y cc' nL' ret fr' lo' As σ E') (cw : CwN own idx y cc' nL' ret n) (hstat : Cond.static y ∈ lw_big) (hd : decode cc pc = .ok (.invokestatic idx, 3)) (hq : pc + 3 = q) (hn : As.length = n) (hst : st.length ≤ 8) (hf : fr' + 1 ≤ fr) (hl : 8 + (nL' + 11) + lo' ≤ lo)
    (K : ∀ r τ, E' r τ → Rn ly sc own cc nL fr lo q L ((r.map Value.int).toList ++ st) τ E) : Rn ly sc own cc nL fr lo pc L (As.reverse ++ st) σ E := by
  refine r_callG (y := y) (cc' := cc') (nL' := nL') (fr' := fr') (lo' := lo') (ret := ret) (av := As) (E' := E') ?_ hq K
  intro p l e R s m args below meth c D C ad A H locs cells slots ls hC hW hL
  refine va_runSN (host := "SunCourt") (As := As.map (rv ad)) (n := n) hC.1 (hM l D C ad H.size) ⟨va_cnB n hC.1.2.2.2.2 (goodIn_law cw.1) rfl rfl rfl (hC.2.2.2.2.2.2 _ cw.2.2.1) (hC.1.2.2.2.2 _ cw.2.1) cw.2.2.2 ⟨Nat.le_trans hf hC.2.1, Nat.le_trans hl hC.2.2.1⟩, hC.1.2.2.2.2 _ hstat, trivial⟩ ⟨cl_blind, fun U hU hWm => ⟨rfl, by rw [hU], by rw [hU]; exact hW.1, hC.2.2.2.2.2.warm hWm, hW.2.1.weaken (fun _ _ _ _ => trivial)⟩⟩ rfl (by rw [List.length_map]; exact hn) hL.1 (by simp [List.map_append, List.map_reverse]) (lv_room (by rw [cat_sum]; exact hst)) hd ⟨hC.2.2.2.1, hC.2.2.2.2.1⟩
theorem r_callV0 {y : MethodName} {cc' : ByteArray} {nL' fr' lo' idx k ci : Nat} {ret : Option FieldType} {E' : Option Int32 → St → Prop} {fs : List (Nat × Nat)} {T : u_T} {N : Nat} (hM : Cl ly y cc' nL' ret fr' lo' (.ref k :: []) σ E') (cw : CwV own idx y cc' nL' ret 0) (hd : decode cc pc = .ok (.invokevirtual idx, 3)) (hq : pc + 3 = q) (hly : ly[k]? = some (.inr (ci, fs))) (hcl : vwCl[ci]? = some (y.cls, T, N)) (hst : st.length ≤ 8) (hf : fr' + 1 ≤ fr) (hl : 8 + (nL' + 11) + lo' ≤ lo) (K : ∀ r τ, E' r τ → Rn ly sc own cc nL fr lo q L ((r.map Value.int).toList ++ st) τ E) : Rn ly sc own cc nL fr lo pc L (.ref k :: st) σ E := r_callVg hM cw hd hq hly hcl rfl hst hf hl K
theorem r_callV1 {y : MethodName} {cc' : ByteArray} {nL' fr' lo' idx k ci : Nat} {ret : Option FieldType} {v1 : Value} {E' : Option Int32 → St → Prop} {fs : List (Nat × Nat)} {T : u_T} {N : Nat} (hM : Cl ly y cc' nL' ret fr' lo' (.ref k :: [v1]) σ E') (cw : CwV own idx y cc' nL' ret 1) (hd : decode cc pc = .ok (.invokevirtual idx, 3)) (hq : pc + 3 = q) (hly : ly[k]? = some (.inr (ci, fs))) (hcl : vwCl[ci]? = some (y.cls, T, N)) (hst : st.length ≤ 8) (hf : fr' + 1 ≤ fr) (hl : 8 + (nL' + 11) + lo' ≤ lo) (K : ∀ r τ, E' r τ → Rn ly sc own cc nL fr lo q L ((r.map Value.int).toList ++ st) τ E) : Rn ly sc own cc nL fr lo pc L (v1 :: .ref k :: st) σ E := r_callVg hM cw hd hq hly hcl rfl hst hf hl K
theorem r_callS1 {y : MethodName} {cc' : ByteArray} {nL' fr' lo' idx : Nat} {ret : Option FieldType} {v1 : Value} {E' : Option Int32 → St → Prop} (hM : Cl ly y cc' nL' ret fr' lo' [v1] σ E') (cw : CwS own idx y cc' nL' ret 1) (hd : decode cc pc = .ok (.invokestatic idx, 3)) (hq : pc + 3 = q) (hst : st.length ≤ 8) (hf : fr' + 1 ≤ fr) (hl : 8 + (nL' + 11) + lo' ≤ lo) (K : ∀ r τ, E' r τ → Rn ly sc own cc nL fr lo q L ((r.map Value.int).toList ++ st) τ E) : Rn ly sc own cc nL fr lo pc L (v1 :: st) σ E := r_callSg hM cw hd hq rfl hst hf hl K
theorem r_callV2 {y : MethodName} {cc' : ByteArray} {nL' fr' lo' idx k ci : Nat} {ret : Option FieldType} {v1 v2 : Value} {E' : Option Int32 → St → Prop} {fs : List (Nat × Nat)} {T : u_T} {N : Nat} (hM : Cl ly y cc' nL' ret fr' lo' (.ref k :: [v1, v2]) σ E') (cw : CwV own idx y cc' nL' ret 2) (hd : decode cc pc = .ok (.invokevirtual idx, 3)) (hq : pc + 3 = q) (hly : ly[k]? = some (.inr (ci, fs))) (hcl : vwCl[ci]? = some (y.cls, T, N)) (hst : st.length ≤ 8) (hf : fr' + 1 ≤ fr) (hl : 8 + (nL' + 11) + lo' ≤ lo) (K : ∀ r τ, E' r τ → Rn ly sc own cc nL fr lo q L ((r.map Value.int).toList ++ st) τ E) : Rn ly sc own cc nL fr lo pc L (v2 :: v1 :: .ref k :: st) σ E := r_callVg hM cw hd hq hly hcl rfl hst hf hl K
theorem r_callS2 {y : MethodName} {cc' : ByteArray} {nL' fr' lo' idx : Nat} {ret : Option FieldType} {v1 v2 : Value} {E' : Option Int32 → St → Prop} (hM : Cl ly y cc' nL' ret fr' lo' [v1, v2] σ E') (cw : CwS own idx y cc' nL' ret 2) (hd : decode cc pc = .ok (.invokestatic idx, 3)) (hq : pc + 3 = q) (hst : st.length ≤ 8) (hf : fr' + 1 ≤ fr) (hl : 8 + (nL' + 11) + lo' ≤ lo) (K : ∀ r τ, E' r τ → Rn ly sc own cc nL fr lo q L ((r.map Value.int).toList ++ st) τ E) : Rn ly sc own cc nL fr lo pc L (v2 :: v1 :: st) σ E := r_callSg hM cw hd hq rfl hst hf hl K
theorem r_callV3 {y : MethodName} {cc' : ByteArray} {nL' fr' lo' idx k ci : Nat} {ret : Option FieldType} {v1 v2 v3 : Value} {E' : Option Int32 → St → Prop} {fs : List (Nat × Nat)} {T : u_T} {N : Nat} (hM : Cl ly y cc' nL' ret fr' lo' (.ref k :: [v1, v2, v3]) σ E') (cw : CwV own idx y cc' nL' ret 3) (hd : decode cc pc = .ok (.invokevirtual idx, 3)) (hq : pc + 3 = q) (hly : ly[k]? = some (.inr (ci, fs))) (hcl : vwCl[ci]? = some (y.cls, T, N)) (hst : st.length ≤ 8) (hf : fr' + 1 ≤ fr) (hl : 8 + (nL' + 11) + lo' ≤ lo) (K : ∀ r τ, E' r τ → Rn ly sc own cc nL fr lo q L ((r.map Value.int).toList ++ st) τ E) : Rn ly sc own cc nL fr lo pc L (v3 :: v2 :: v1 :: .ref k :: st) σ E := r_callVg hM cw hd hq hly hcl rfl hst hf hl K
theorem r_callS3 {y : MethodName} {cc' : ByteArray} {nL' fr' lo' idx : Nat} {ret : Option FieldType} {v1 v2 v3 : Value} {E' : Option Int32 → St → Prop} (hM : Cl ly y cc' nL' ret fr' lo' [v1, v2, v3] σ E') (cw : CwS own idx y cc' nL' ret 3) (hd : decode cc pc = .ok (.invokestatic idx, 3)) (hq : pc + 3 = q) (hst : st.length ≤ 8) (hf : fr' + 1 ≤ fr) (hl : 8 + (nL' + 11) + lo' ≤ lo) (K : ∀ r τ, E' r τ → Rn ly sc own cc nL fr lo q L ((r.map Value.int).toList ++ st) τ E) : Rn ly sc own cc nL fr lo pc L (v3 :: v2 :: v1 :: st) σ E := r_callSg hM cw hd hq rfl hst hf hl K
theorem r_callV4 {y : MethodName} {cc' : ByteArray} {nL' fr' lo' idx k ci : Nat} {ret : Option FieldType} {v1 v2 v3 v4 : Value} {E' : Option Int32 → St → Prop} {fs : List (Nat × Nat)} {T : u_T} {N : Nat} (hM : Cl ly y cc' nL' ret fr' lo' (.ref k :: [v1, v2, v3, v4]) σ E') (cw : CwV own idx y cc' nL' ret 4) (hd : decode cc pc = .ok (.invokevirtual idx, 3)) (hq : pc + 3 = q) (hly : ly[k]? = some (.inr (ci, fs))) (hcl : vwCl[ci]? = some (y.cls, T, N)) (hst : st.length ≤ 8) (hf : fr' + 1 ≤ fr) (hl : 8 + (nL' + 11) + lo' ≤ lo) (K : ∀ r τ, E' r τ → Rn ly sc own cc nL fr lo q L ((r.map Value.int).toList ++ st) τ E) : Rn ly sc own cc nL fr lo pc L (v4 :: v3 :: v2 :: v1 :: .ref k :: st) σ E := r_callVg hM cw hd hq hly hcl rfl hst hf hl K
theorem r_callV5 {y : MethodName} {cc' : ByteArray} {nL' fr' lo' idx k ci : Nat} {ret : Option FieldType} {v1 v2 v3 v4 v5 : Value} {E' : Option Int32 → St → Prop} {fs : List (Nat × Nat)} {T : u_T} {N : Nat} (hM : Cl ly y cc' nL' ret fr' lo' (.ref k :: [v1, v2, v3, v4, v5]) σ E') (cw : CwV own idx y cc' nL' ret 5) (hd : decode cc pc = .ok (.invokevirtual idx, 3)) (hq : pc + 3 = q) (hly : ly[k]? = some (.inr (ci, fs))) (hcl : vwCl[ci]? = some (y.cls, T, N)) (hst : st.length ≤ 8) (hf : fr' + 1 ≤ fr) (hl : 8 + (nL' + 11) + lo' ≤ lo) (K : ∀ r τ, E' r τ → Rn ly sc own cc nL fr lo q L ((r.map Value.int).toList ++ st) τ E) : Rn ly sc own cc nL fr lo pc L (v5 :: v4 :: v3 :: v2 :: v1 :: .ref k :: st) σ E := r_callVg hM cw hd hq hly hcl rfl hst hf hl K
theorem r_callV6 {y : MethodName} {cc' : ByteArray} {nL' fr' lo' idx k ci : Nat} {ret : Option FieldType} {v1 v2 v3 v4 v5 v6 : Value} {E' : Option Int32 → St → Prop} {fs : List (Nat × Nat)} {T : u_T} {N : Nat} (hM : Cl ly y cc' nL' ret fr' lo' (.ref k :: [v1, v2, v3, v4, v5, v6]) σ E') (cw : CwV own idx y cc' nL' ret 6) (hd : decode cc pc = .ok (.invokevirtual idx, 3)) (hq : pc + 3 = q) (hly : ly[k]? = some (.inr (ci, fs))) (hcl : vwCl[ci]? = some (y.cls, T, N)) (hst : st.length ≤ 8) (hf : fr' + 1 ≤ fr) (hl : 8 + (nL' + 11) + lo' ≤ lo) (K : ∀ r τ, E' r τ → Rn ly sc own cc nL fr lo q L ((r.map Value.int).toList ++ st) τ E) : Rn ly sc own cc nL fr lo pc L (v6 :: v5 :: v4 :: v3 :: v2 :: v1 :: .ref k :: st) σ E := r_callVg hM cw hd hq hly hcl rfl hst hf hl K
theorem r_callV7 {y : MethodName} {cc' : ByteArray} {nL' fr' lo' idx k ci : Nat} {ret : Option FieldType} {v1 v2 v3 v4 v5 v6 v7 : Value} {E' : Option Int32 → St → Prop} {fs : List (Nat × Nat)} {T : u_T} {N : Nat} (hM : Cl ly y cc' nL' ret fr' lo' (.ref k :: [v1, v2, v3, v4, v5, v6, v7]) σ E') (cw : CwV own idx y cc' nL' ret 7) (hd : decode cc pc = .ok (.invokevirtual idx, 3)) (hq : pc + 3 = q) (hly : ly[k]? = some (.inr (ci, fs))) (hcl : vwCl[ci]? = some (y.cls, T, N)) (hst : st.length ≤ 8) (hf : fr' + 1 ≤ fr) (hl : 8 + (nL' + 11) + lo' ≤ lo) (K : ∀ r τ, E' r τ → Rn ly sc own cc nL fr lo q L ((r.map Value.int).toList ++ st) τ E) : Rn ly sc own cc nL fr lo pc L (v7 :: v6 :: v5 :: v4 :: v3 :: v2 :: v1 :: .ref k :: st) σ E := r_callVg hM cw hd hq hly hcl rfl hst hf hl K
end CALLS
