section
/-! ===== constructors: a world that grows ===== -/
abbrev FnT : Type := Program → Launch → Env → Room → State → MethodId → Array Value → List Frame → Method → Code → (Nat → Prop) → (State → Prop) → Prop
/-- from pc, with these locals, stack and world, ce cells of sl slots made, it comes to the end that Fn tells -/
def Rc (D : va_G) (C : ClassId × ClassId) (own : String) (cc : ByteArray) (nL : Nat) (ini : Bool) (fr lo CE SL pc : Nat) (lv : List (Nat × Value)) (st : List Value) (ce sl : Nat) (ws : va_W) (Fn : FnT) : Prop :=
  ∀ ⦃p : Program⦄ ⦃l : Launch⦄ ⦃e : Env⦄ ⦃R : Room⦄ ⦃s : State⦄ ⦃m : MethodId⦄ ⦃args : Array Value⦄ ⦃below : List Frame⦄ ⦃meth : Method⦄ ⦃c : Code⦄ ⦃A : Nat → Prop⦄ ⦃H : Heap⦄ ⦃locs : List Loc⦄ ⦃Q : State → Prop⦄ ⦃ls : Array Slot⦄,
    (CallFix p m c cc nL s args lw_big own ∧ (ini = true → meth.name = "<init>")) → (fr ≤ R.frames ∧ lo ≤ R.locals ∧ CE ≤ R.cells ∧ SL ≤ R.slots ∧ Kn D C s ∧ ∀ q, s.heap.size ≤ q → A q) → (va_P D vwCl ws H ∧ va_D A ws ∧ va_S A s.heap H locs) → lv_has ls nL lv → Fn p l e R s m args below meth c A Q →
    W p l e R s m args below meth c H locs ce sl Q (F0 m pc ls st)
/-- a constructor's end: a world as Bw tells -/
def FnI (D : va_G) (cc : ByteArray) (CE SL : Nat) (Bw : va_W → Prop) : FnT := fun p l e R s m args below meth c A Q => ∀ (ws' : va_W) (H' : Heap) (locs' : List Loc) (ls' : Array Slot) (pc' : Nat), Bw ws' → va_P D vwCl ws' H' → va_D A ws' → va_S A s.heap H' locs' → decode cc pc' = .ok (.return_, 1) → W p l e R s m args below meth c H' locs' CE SL Q (F0 m pc' ls' [])
/-- a constructor's contract -/
def CI (D : va_G) (C : ClassId × ClassId) (y : MethodName) (cc : ByteArray) (fr lo mc ms ci : Nat) (fs0 : List Value) (Bw : Nat → va_W → Prop) : Prop := ∀ (l : Launch) (h0 sz : Nat), Met l y (.code y cc 1 none :: lw_big) ({ frames := fr, cells := mc, slots := ms, locals := lo })
    (va_Pc [.ref h0] (fun U => U.heap.size = sz ∧ va_P D vwCl [(h0, .inr (ci, fs0))] U.heap ∧ Kn D C U ∧ va_D (fun _ => True) [(h0, .inr (ci, fs0))]))
    (va_Qv (Bw h0) (fun ws' t => va_P D vwCl ws' t.heap ∧ va_D (va_A [(h0, .inr (ci, fs0))] sz) ws') (va_A [(h0, .inr (ci, fs0))] sz)) mc ms (va_A [(h0, .inr (ci, fs0))] sz)
set_option maxHeartbeats 4000000 in
theorem CI.of {D : va_G} {C : ClassId × ClassId} {y : MethodName} {cc : ByteArray} {fr lo mc ms ci : Nat} {fs0 : List Value} {Bw : Nat → va_W → Prop} (hy : plainName y.cls = true) (hyn : y.name = "<init>") (h : ∀ h0, Rc D C y.cls cc 1 true fr lo mc ms 0 [(0, .ref h0)] [] 0 0 [(h0, .inr (ci, fs0))] (FnI D cc mc ms (Bw h0))) : CI D C y cc fr lo mc ms ci fs0 Bw := by
  intro l h0 sz
  refine Met.ofW (cc := cc) (maxL := 1) (ret := none) hy rfl ?_
  intro p e s m args below meth c s₁ B hml hv
  obtain ⟨rfl, hsz, hP, hK, hD0⟩ := hv
  have hx := B.exec
  have hb := B.bytes
  have hr := B.returns
  have hts := atoms_spec (ws := .code y cc 1 none :: lw_big) B.pre
  have hown : s.vm.findClass y.cls = some m.cls := findClass_of_methodNamed B.named
  have hlocks := B.notSynchronized
  have hin : meth.name = "<init>" := hyn ▸ (name_of_methodNamed B.named B.method).1
  subst hsz
  have hD := hD0.self (sz := s.heap.size)
  have hl := lv_entry ([.ref h0]) (n := 1) (Nat.le_of_ble_eq_true rfl)
  rw [lg_entry_eq]
  refine h h0 (A := va_A [(h0, .inr (ci, fs0))] s.heap.size) ⟨⟨hx, hb, hml, hown, fun w hw => hts w (List.mem_cons_of_mem _ hw)⟩, fun _ => hin⟩ ⟨Nat.le_refl _, Nat.le_refl _, Nat.le_refl _, Nat.le_refl _, hK, fun q hq => Or.inr hq⟩ ⟨hP, hD, va_S.rf⟩ hl ?_
  intro ws' H' locs' ls' pc' hB hP' hD' hS' hd
  exact W.vret hx hb hr (fun t ht _ => ⟨⟨ws', rfl, hB, by rw [ht]; exact hP', hD'⟩, hS'.F ht⟩) hS'.2.2 hd
section RC
variable {D : va_G} {C : ClassId × ClassId} {own : String} {cc : ByteArray} {nL fr lo CE SL pc q : Nat} {ini : Bool} {lv : List (Nat × Value)} {st : List Value} {ce sl : Nat} {ws : va_W} {Fn : FnT}
theorem rc_aload {k : Fin 4} {x : Nat} (j : Nat) (hd : decode cc pc = .ok (.aload_n k, 1)) (hq : pc + 1 = q) (hv : lv[j]? = some ((k : Nat), .ref x)) (K : Rc D C own cc nL ini fr lo CE SL q lv (.ref x :: st) ce sl ws Fn) : Rc D C own cc nL ini fr lo CE SL pc lv st ce sl ws Fn := by
  subst hq
  intro p l e R s m args below meth c A H locs Q ls hf hr hw hl hE
  exact lv_aload_n hf.1.1 hf.1.2.1 hd rfl (lv_at hl j hv) (K hf hr hw hl hE)
theorem rc_astore {k : Fin 4} {x : Nat} {lv' : List (Nat × Value)} (hd : decode cc pc = .ok (.astore_n k, 1)) (hq : pc + 1 = q) (hk : (k : Nat) < nL) (hv : ((k : Nat), Value.ref x) :: lv.filter (fun q => !(q.1 == (k : Nat)) && !(q.1 + 1 == (k : Nat) && q.2.category == 2)) = lv') (K : Rc D C own cc nL ini fr lo CE SL q lv' st ce sl ws Fn) : Rc D C own cc nL ini fr lo CE SL pc lv (.ref x :: st) ce sl ws Fn := by
  subst hq
  intro p l e R s m args below meth c A H locs Q ls hf hr hw hl hE
  exact lv_astore_n hf.1.1 hf.1.2.1 hd rfl hl hk hv (fun ls' h => K hf hr hw h hE)
theorem rc_istore {k : Fin 4} {x : Int32} {lv' : List (Nat × Value)} (hd : decode cc pc = .ok (.istore_n k, 1)) (hq : pc + 1 = q) (hk : (k : Nat) < nL) (hv : ((k : Nat), Value.int x) :: lv.filter (fun q => !(q.1 == (k : Nat)) && !(q.1 + 1 == (k : Nat) && q.2.category == 2)) = lv') (K : Rc D C own cc nL ini fr lo CE SL q lv' st ce sl ws Fn) : Rc D C own cc nL ini fr lo CE SL pc lv (.int x :: st) ce sl ws Fn := by
  subst hq
  intro p l e R s m args below meth c A H locs Q ls hf hr hw hl hE
  exact lv_istore_n hf.1.1 hf.1.2.1 hd rfl hl hk hv (fun ls' h => K hf hr hw h hE)
theorem rc_dup {x : Nat} (hd : decode cc pc = .ok (.dup, 1)) (hq : pc + 1 = q) (K : Rc D C own cc nL ini fr lo CE SL q lv (.ref x :: .ref x :: st) ce sl ws Fn) : Rc D C own cc nL ini fr lo CE SL pc lv (.ref x :: st) ce sl ws Fn := by
  subst hq
  intro p l e R s m args below meth c A H locs Q ls hf hr hw hl hE
  exact lv_dup hf.1.1 hf.1.2.1 hd rfl (K hf hr hw hl hE)
theorem rc_iconst {n : Int} {v : Int32} (hd : decode cc pc = .ok (.iconst n, 1)) (hq : pc + 1 = q) (hv : Int32.ofInt n = v) (K : Rc D C own cc nL ini fr lo CE SL q lv (.int v :: st) ce sl ws Fn) : Rc D C own cc nL ini fr lo CE SL pc lv st ce sl ws Fn := by
  subst hq
  intro p l e R s m args below meth c A H locs Q ls hf hr hw hl hE
  exact lv_iconst hf.1.1 hf.1.2.1 hd hv (K hf hr hw hl hE)
theorem rc_bipush {n : Int} {v : Int32} (hd : decode cc pc = .ok (.bipush n, 2)) (hq : pc + 2 = q) (hv : (Int8.ofInt n).toInt32 = v) (K : Rc D C own cc nL ini fr lo CE SL q lv (.int v :: st) ce sl ws Fn) : Rc D C own cc nL ini fr lo CE SL pc lv st ce sl ws Fn := by
  subst hq
  intro p l e R s m args below meth c A H locs Q ls hf hr hw hl hE
  exact lv_bipush hf.1.1 hf.1.2.1 hd hv (K hf hr hw hl hE)
theorem rc_sipush {n : Int} {v : Int32} (hd : decode cc pc = .ok (.sipush n, 3)) (hq : pc + 3 = q) (hv : (Int16.ofInt n).toInt32 = v) (K : Rc D C own cc nL ini fr lo CE SL q lv (.int v :: st) ce sl ws Fn) : Rc D C own cc nL ini fr lo CE SL pc lv st ce sl ws Fn := by
  subst hq
  intro p l e R s m args below meth c A H locs Q ls hf hr hw hl hE
  exact lv_sipush hf.1.1 hf.1.2.1 hd hv (K hf hr hw hl hE)
theorem rc_newI {N : Nat} (hd : decode cc pc = .ok (.newarray .int, 2)) (hq : pc + 2 = q) (hN : N ≤ 10000) (hw0 : Cond.arrayClass .int ∈ lw_big) (hc : ce + 1 ≤ CE) (hs : sl + N ≤ SL) (K : ∀ x, Rc D C own cc nL ini fr lo CE SL q lv (.ref x :: st) (ce + 1) (sl + N) (ws ++ [(x, .inl (C.1, N, .inl (fun _ => 0)))]) Fn) : Rc D C own cc nL ini fr lo CE SL pc lv (.int (nI N) :: st) ce sl ws Fn := by
  subst hq
  intro p l e R s m args below meth c A H locs Q ls hf hr hw hl hE
  have hK := hr.2.2.2.2.1.1
  refine va_newa (atype := .int) (ty := .int) (N' := N) (a0 := (N, .inl (fun _ => 0))) hf.1.1 hf.1.2.1 (hf.1.2.2.2.2 _ hw0) rfl hK hw.1 hw.2.1 hw.2.2 hr.2.2.2.2.2 (fun cA => rfl) (nI_pos (by omega)) (nI_clamp (by omega)) (by show N * 4 ≤ 536870912; omega) (Nat.le_trans hc hr.2.2.1) (Nat.le_trans hs hr.2.2.2.1) hd (fun x cA H1 hK1 hP1 hD1 hS1 => ?_)
  have e1 : s.vm.findClass ("[" ++ (FieldType.int).toString) = some cA := (hK1.2 2 (cA, .int) rfl).2
  have e2 : s.vm.findClass ("[" ++ (FieldType.int).toString) = some C.1 := (hK.2 0 (C.1, .int) rfl).2
  have e3 : cA = C.1 := Option.some.inj (e1.symm.trans e2)
  rw [e3] at hP1 hD1
  exact K x hf hr ⟨hP1, hD1, hS1⟩ hl hE
theorem rc_newZ {N : Nat} (hd : decode cc pc = .ok (.newarray .boolean, 2)) (hq : pc + 2 = q) (hN : N ≤ 10000) (hw0 : Cond.arrayClass .boolean ∈ lw_big) (hc : ce + 1 ≤ CE) (hs : sl + N ≤ SL) (K : ∀ x, Rc D C own cc nL ini fr lo CE SL q lv (.ref x :: st) (ce + 1) (sl + N) (ws ++ [(x, .inl (C.2, N, .inl (fun _ => 0)))]) Fn) : Rc D C own cc nL ini fr lo CE SL pc lv (.int (nI N) :: st) ce sl ws Fn := by
  subst hq
  intro p l e R s m args below meth c A H locs Q ls hf hr hw hl hE
  have hK := hr.2.2.2.2.1.1
  refine va_newa (atype := .boolean) (ty := .boolean) (N' := N) (a0 := (N, .inl (fun _ => 0))) hf.1.1 hf.1.2.1 (hf.1.2.2.2.2 _ hw0) rfl hK hw.1 hw.2.1 hw.2.2 hr.2.2.2.2.2 (fun cA => rfl) (nI_pos (by omega)) (nI_clamp (by omega)) (by show N * 1 ≤ 536870912; omega) (Nat.le_trans hc hr.2.2.1) (Nat.le_trans hs hr.2.2.2.1) hd (fun x cA H1 hK1 hP1 hD1 hS1 => ?_)
  have e1 : s.vm.findClass ("[" ++ (FieldType.boolean).toString) = some cA := (hK1.2 2 (cA, .boolean) rfl).2
  have e2 : s.vm.findClass ("[" ++ (FieldType.boolean).toString) = some C.2 := (hK.2 1 (C.2, .boolean) rfl).2
  have e3 : cA = C.2 := Option.some.inj (e1.symm.trans e2)
  rw [e3] at hP1 hD1
  exact K x hf hr ⟨hP1, hD1, hS1⟩ hl hE
theorem rc_putF {h0 x idx ci j : Nat} {ty : FieldType} {fs fs' : List Value} {wr : va_W} (hf0 : FD own idx ci j ty true) (hdc : ∀ r, vwCl[ci]? = some r → (r.2.1 j).1 = own) (hfit : narrow ty (.ref x) = .ref x ∧ fits ty (.ref x) = true) (hd : decode cc pc = .ok (.putfield idx, 3)) (hq : pc + 3 = q) (hj : Nat.ble (j + 1) fs.length = true) (hs : fs.set j (.ref x) = fs') (K : Rc D C own cc nL true fr lo CE SL q lv st ce sl ((h0, .inr (ci, fs')) :: wr) Fn) : Rc D C own cc nL true fr lo CE SL pc lv (.ref x :: .ref h0 :: st) ce sl ((h0, .inr (ci, fs)) :: wr) Fn := by
  subst hq
  subst hs
  intro p l e R s m args below meth c A H locs Q ls hf hr hw hl hE
  obtain ⟨Cn, T, N, tf, h1, h2, h3, h4, h5, h6, h7, h8⟩ := hf0
  exact va_putF hf.1.1 hf.1.2.1 hf.1.2.2.2.2 h2 tf h3 h4 hf.1.2.2.2.1 hr.2.2.2.2.1.1 hw.1 hw.2.1 hw.2.2 0 rfl h1 j h5 (hf.1.2.2.2.2 _ h6) (fun _ h => h) h7 (hf.2 rfl) (hdc _ h1) h8 hfit.1 hfit.2 (Nat.le_of_ble_eq_true hj) hd (fun H1 locs1 hP hD hS => K hf hr ⟨hP, hD, hS⟩ hl hE)
theorem rc_putI {h0 idx ci j : Nat} {x : Int32} {fs fs' : List Value} {wr : va_W} (hf0 : FD own idx ci j .int false) (hd : decode cc pc = .ok (.putfield idx, 3)) (hq : pc + 3 = q) (hj : Nat.ble (j + 1) fs.length = true) (hs : fs.set j (.int x) = fs') (K : Rc D C own cc nL ini fr lo CE SL q lv st ce sl ((h0, .inr (ci, fs')) :: wr) Fn) : Rc D C own cc nL ini fr lo CE SL pc lv (.int x :: .ref h0 :: st) ce sl ((h0, .inr (ci, fs)) :: wr) Fn := by
  subst hq
  subst hs
  intro p l e R s m args below meth c A H locs Q ls hf hr hw hl hE
  obtain ⟨Cn, T, N, tf, h1, h2, h3, h4, h5, h6, h7, h8⟩ := hf0
  exact va_put hf.1.1 hf.1.2.1 hf.1.2.2.2.2 h2 tf h3 h4 hf.1.2.2.2.1 hr.2.2.2.2.1.1 hw.1 hw.2.1 hw.2.2 0 rfl h1 j h5 (hf.1.2.2.2.2 _ h6) (fun _ h => h) h7 h8 rfl rfl (Nat.le_of_ble_eq_true hj) hd (fun H1 locs1 hP hD hS => K hf hr ⟨hP, hD, hS⟩ hl hE)
theorem rc_obj {h0 idx : Nat} (h1 : Cond.methodLink own idx objectInit ∈ lw_big) (h2 : Cond.instanceMethod objectInit ∈ lw_big) (h3 : Cond.code objectInit ⟨#[0xb1]⟩ 1 none ∈ lw_big) (hd : decode cc pc = .ok (.invokespecial idx, 3)) (hq : pc + 3 = q) (hfr : 1 ≤ fr) (hlo : 12 ≤ lo) (K : Rc D C own cc nL ini fr lo CE SL q lv [] ce sl ws Fn) : Rc D C own cc nL ini fr lo CE SL pc lv [.ref h0] ce sl ws Fn := by
  subst hq
  intro p l e R s m args below meth c A H locs Q ls hf hr hw hl hE
  refine W.objInit hf.1.1 hf.1.2.1 hf.1.2.2.2.1 (hf.1.2.2.2.2 _ h1) (hf.1.2.2.2.2 _ h2) (hf.1.2.2.2.2 _ h3) rfl (by rw [hf.1.2.2.1]; exact hl.1) rfl hd (Nat.le_trans hfr hr.1) (Nat.le_trans (show 2 * (F0 m pc ls [Value.ref h0]).monitorRoom + (([] : List Value).map fun v => v.category).sum + 12 ≤ 12 from Nat.le_refl _) (Nat.le_trans hlo hr.2.1)) ?_
  refine W.eq (g2 := F0 m (pc + 3) ls []) rfl ?_
  exact K hf hr hw hl hE
theorem rc_new {idx ci N : Nat} {Cn : String} {T : u_T} {tf : Nat → FieldType} {fs0 : List Value} (hcl : Cond.classLink own idx Cn ∈ lw_big) (hin : Cond.instantiable Cn N ∈ lw_big) (hii : Cond.initialized Cn ∈ lw_big) (hu : ∀ w ∈ u_ws Cn T N, w ∈ lw_big) (hty : ∀ k, k < N → parseFieldDescriptor (T k).2.2.1 = some (tf k)) (hc : vwCl[ci]? = some (Cn, T, N)) (hfs : ∀ j, j < N → defaultValue (tf j) = vp_V fs0 j) (hd : decode cc pc = .ok (.new idx, 3)) (hq : pc + 3 = q) (hce : ce + 1 ≤ CE) (hsl : sl + N ≤ SL) (K : ∀ x, Rc D C own cc nL ini fr lo CE SL q lv (.ref x :: st) (ce + 1) (sl + N) (ws ++ [(x, .inr (ci, fs0))]) Fn) : Rc D C own cc nL ini fr lo CE SL pc lv st ce sl ws Fn := by
  subst hq
  intro p l e R s m args below meth c A H locs Q ls hf hr hw hl hE
  exact va_new hf.1.1 hf.1.2.1 hf.1.2.2.2.2 hu tf hty hf.1.2.2.2.1 (hf.1.2.2.2.2 _ hcl) (hf.1.2.2.2.2 _ hin) (hf.1.2.2.2.2 _ hii) hr.2.2.2.2.1.1 hw.1 hw.2.1 hw.2.2 hr.2.2.2.2.2 hc hfs (Nat.le_trans hce hr.2.2.1) (Nat.le_trans hsl hr.2.2.2.1) hd (fun x H1 hP hD hS => K x hf hr ⟨hP, hD, hS⟩ hl hE)
theorem one_D {x : Nat} {e : va_E} : va_D (fun _ => True) [(x, e)] := by
  refine ⟨fun i j a b ha hb _ => ?_, fun _ _ _ => trivial⟩
  have h1 : i < 1 := (List.getElem?_eq_some_iff.mp ha).1
  have h2 : j < 1 := (List.getElem?_eq_some_iff.mp hb).1
  omega
/-- the last cell of a world, alone; behind a call the rest stands, and what came of it -/
theorem last_P {x : Nat} {e : va_E} {H : Heap} (h : va_P D vwCl (ws ++ [(x, e)]) H) : va_P D vwCl [(x, e)] H := fun k z hz => h (ws.length + k) z (by rw [List.getElem?_append_right (Nat.le_add_right _ _), Nat.add_sub_cancel_left]; exact hz)
theorem last_A {x : Nat} {e : va_E} {A : Nat → Prop} {H0 H : Heap} {locs : List Loc} (hD : va_D A (ws ++ [(x, e)])) (hS : va_S A H0 H locs) (hA : ∀ q, H0.size ≤ q → A q) : ∀ q, va_A [(x, e)] H.size q → A q := by
  intro q h
  rcases h with ⟨k, e', hk⟩ | h
  · exact hD.2 (ws.length + k) (q, e') (by rw [List.getElem?_append_right (Nat.le_add_right _ _), Nat.add_sub_cancel_left]; exact hk)
  · exact hA q (Nat.le_trans hS.1 h)
theorem last_join {x : Nat} {e : va_E} {A : Nat → Prop} {w1 : va_W} {H0 H H1 : Heap} {locs : List Loc} (hP : va_P D vwCl (ws ++ [(x, e)]) H) (hD : va_D A (ws ++ [(x, e)])) (hS : va_S A H0 H locs) (hA : ∀ q, H0.size ≤ q → A q) (hk : ∀ q : Nat, q < H.size → ¬ va_A [(x, e)] H.size q → H1[q]? = H[q]?) (hP1 : va_P D vwCl w1 H1) (hD1 : va_D (va_A [(x, e)] H.size) w1) : va_P D vwCl (ws ++ w1) H1 ∧ va_D A (ws ++ w1) := by
  have hl : ∀ (k : Nat) (z : Nat × va_E), ws[k]? = some z → (ws ++ [(x, e)])[k]? = some z := fun k z hz => by
    rw [List.getElem?_append_left (List.getElem?_eq_some_iff.mp hz).1]
    exact hz
  have apart : ∀ (k : Nat) (z : Nat × va_E), ws[k]? = some z → z.1 < H.size ∧ ¬ va_A [(x, e)] H.size z.1 := by
    intro k z hz
    have h1 := (hP k z (hl k z hz)).lt
    refine ⟨h1, fun h => ?_⟩
    rcases h with ⟨k2, e', h2⟩ | h2
    · have h3 : k2 < 1 := (List.getElem?_eq_some_iff.mp h2).1
      have h4 := hD.1 k (ws.length + k2) z (z.1, e') (hl k z hz) (by rw [List.getElem?_append_right (Nat.le_add_right _ _), Nat.add_sub_cancel_left]; exact h2) rfl
      have h5 := (List.getElem?_eq_some_iff.mp hz).1
      omega
    · omega
  have hF := last_A hD hS hA
  refine ⟨va_P.app (fun k z hz => ?_) hP1, va_D.app ⟨fun i j a b ha hb => hD.1 i j a b (hl i a ha) (hl j b hb), fun k z hz => hD.2 k z (hl k z hz)⟩ (hD1.weaken (fun k z _ h => hF z.1 h)) (fun i j a b ha hb hab => ?_)⟩
  · obtain ⟨g1, g2⟩ := apart k z hz
    exact (hP k z (hl k z hz)).kept (hk z.1 g1 g2)
  · exact (apart i a ha).2 (by rw [hab]; exact hD1.2 j b hb)
set_option maxHeartbeats 4000000 in
theorem rc_callN {y : MethodName} {cc' : ByteArray} {fr' lo' mc ms ci idx x : Nat} {fs0 : List Value} {Bw : Nat → va_W → Prop} (hM : CI D C y cc' fr' lo' mc ms ci fs0 Bw) (cw : CwN own idx y cc' 1 none 0) (hin : Cond.instanceMethod y ∈ lw_big) (hyn : y.name = "<init>") (hd : decode cc pc = .ok (.invokespecial idx, 3)) (hq : pc + 3 = q) (hst : (st.map fun v => v.category).sum ≤ 8) (hf0 : fr' + 1 ≤ fr) (hl0 : 8 + (1 + 11) + lo' ≤ lo) (hc : ce + mc ≤ CE) (hs : sl + ms ≤ SL) (K : ∀ w1, Bw x w1 → Rc D C own cc nL ini fr lo CE SL q lv st (ce + mc) (sl + ms) (ws ++ w1) Fn) : Rc D C own cc nL ini fr lo CE SL pc lv (.ref x :: st) ce sl (ws ++ [(x, .inr (ci, fs0))]) Fn := by
  subst hq
  intro p l e R s m args below meth c A H locs Q ls hf hr hw hl hE
  obtain ⟨hP, hD, hS⟩ := hw
  have hFc := last_A hD hS hr.2.2.2.2.2
  refine va_callv (va_runIN (host := "SunCourt") (As := []) (rest := st) (n := 0) hf.1 (hM l x H.size) ⟨va_cnB 0 hf.1.2.2.2.2 (goodIn_law cw.1) rfl rfl rfl (hr.2.2.2.2.1.2 _ cw.2.2.1) (hf.1.2.2.2.2 _ cw.2.1) cw.2.2.2 ⟨Nat.le_trans hf0 hr.1, Nat.le_trans hl0 hr.2.1⟩, hyn, hf.1.2.2.2.2 _ hin⟩ ⟨cl_blind, fun U hU hWm => ⟨rfl, by rw [hU], by rw [hU]; exact last_P hP, hr.2.2.2.2.1.warm hWm, one_D⟩⟩ rfl rfl hl.1 rfl (lv_room hst) hd ⟨Nat.le_trans hc hr.2.2.1, Nat.le_trans hs hr.2.2.2.1⟩) hS (fun q _ h => hFc q h) hFc (fun w1 t H1 locs1 ht hvm hB hBB hz1 hk1 hS1 => ?_)
  obtain ⟨hP1, hD1⟩ := hBB
  rw [ht] at hP1
  obtain ⟨hP2, hD2⟩ := last_join hP hD hS hr.2.2.2.2.2 hk1 hP1 hD1
  exact K w1 hB hf hr ⟨hP2, hD2, hS1⟩ hl hE
set_option maxHeartbeats 4000000 in
theorem rc_callI {y : MethodName} {cc' : ByteArray} {fr' lo' mc ms ci idx x : Nat} {fs0 : List Value} {Bw : Nat → va_W → Prop} (hM : CI D C y cc' fr' lo' mc ms ci fs0 Bw) (cw : CwB own idx y cc' 1 none 0) (hin : Cond.instanceMethod y ∈ lw_big) (hyn : y.name = "<init>") (hd : decode cc pc = .ok (.invokespecial idx, 3)) (hq : pc + 3 = q) (hst : (st.map fun v => v.category).sum ≤ 8) (hf0 : fr' + 1 ≤ fr) (hl0 : 8 + (1 + 11) + lo' ≤ lo) (hc : ce + mc ≤ CE) (hs : sl + ms ≤ SL) (K : ∀ w1, Bw x w1 → Rc D C own cc nL ini fr lo CE SL q lv st (ce + mc) (sl + ms) (ws ++ w1) Fn) : Rc D C own cc nL ini fr lo CE SL pc lv (.ref x :: st) ce sl (ws ++ [(x, .inr (ci, fs0))]) Fn := by
  subst hq
  intro p l e R s m args below meth c A H locs Q ls hf hr hw hl hE
  obtain ⟨hP, hD, hS⟩ := hw
  have hFc := last_A hD hS hr.2.2.2.2.2
  refine va_callv (va_runI (As := []) (rest := st) (n := 0) hf.1 (hM l x H.size) ⟨callB_of 0 hf.1.2.2.2.2 (goodIn_law cw.1) rfl rfl rfl (hf.1.2.2.2.2 _ cw.2.1) (hf.1.2.2.2.2 _ cw.2.2.1) cw.2.2.2 ⟨Nat.le_trans hf0 hr.1, Nat.le_trans hl0 hr.2.1⟩, hyn, hf.1.2.2.2.2 _ hin⟩ ⟨cl_blind, fun U hU hWm => ⟨rfl, by rw [hU], by rw [hU]; exact last_P hP, hr.2.2.2.2.1.warm hWm, one_D⟩⟩ rfl rfl hl.1 rfl (lv_room hst) hd ⟨Nat.le_trans hc hr.2.2.1, Nat.le_trans hs hr.2.2.2.1⟩) hS (fun q _ h => hFc q h) hFc (fun w1 t H1 locs1 ht hvm hB hBB hz1 hk1 hS1 => ?_)
  obtain ⟨hP1, hD1⟩ := hBB
  rw [ht] at hP1
  obtain ⟨hP2, hD2⟩ := last_join hP hD hS hr.2.2.2.2.2 hk1 hP1 hD1
  exact K w1 hB hf hr ⟨hP2, hD2, hS1⟩ hl hE
theorem rc_ret {Bw : va_W → Prop} (hd : decode cc pc = .ok (.return_, 1)) (hc : ce = CE) (hs : sl = SL) (hB : Bw ws) : Rc D C own cc nL ini fr lo CE SL pc lv [] ce sl ws (FnI D cc CE SL Bw) := by
  subst hc hs
  intro p l e R s m args below meth c A H locs Q ls hf hr hw hl hE
  exact hE ws H locs ls pc hB hw.1 hw.2.1 hw.2.2 hd
/-- the rest of a constructor, in a layout that stands -/
theorem rc_rn {h0 : Nat} {ly : List LyE} {ad : Nat → Nat} {σ : St} {P : St → Prop} {Bw : va_W → Prop} (hws : ws = wd C ad ly σ) (h0e : ad 0 = h0) (hc : ce = CE) (hs : sl = SL) (h : Rn ly none own cc 1 fr lo pc [some (.ref 0)] [] σ (EV P)) (hB : ∀ τ, P τ → Bw (wd C ad ly τ)) : Rc D C own cc 1 ini fr lo CE SL pc [(0, .ref h0)] [] ce sl ws (FnI D cc CE SL Bw) := by
  subst hws
  subst h0e
  subst hc hs
  intro p l e R s m args below meth c A H locs Q ls hf hr hw hl hE
  refine h (cells := ce) (slots := sl) ⟨hf.1, hr.1, hr.2.1, hr.2.2.1, hr.2.2.2.1, hr.2.2.2.2.1⟩ ⟨hr.2.2.2.2.2, fun n xs e => by cases e⟩ hw (lh.entry (av := [.ref 0]) 0 rfl hl) ?_
  rintro r τ H' locs' ls' pc' ⟨rfl, hp⟩ hW hRet
  exact hE _ H' locs' ls' pc' (hB τ hp) hW.1 hW.2.1 hW.2.2 hRet
/-! the same rows over a world whose first cell is the object itself -/
theorem rc_mkI {N h0 : Nat} {e0 : va_E} {wr : va_W} (hd : decode cc pc = .ok (.newarray .int, 2)) (hq : pc + 2 = q) (hN : N ≤ 10000) (hw0 : Cond.arrayClass .int ∈ lw_big) (hc : ce + 1 ≤ CE) (hs : sl + N ≤ SL) (K : ∀ x, Rc D C own cc nL ini fr lo CE SL q lv (.ref x :: st) (ce + 1) (sl + N) ((h0, e0) :: (wr ++ [(x, .inl (C.1, N, .inl (fun _ => 0)))])) Fn) : Rc D C own cc nL ini fr lo CE SL pc lv (.int (nI N) :: st) ce sl ((h0, e0) :: wr) Fn := rc_newI hd hq hN hw0 hc hs K
theorem rc_mkZ {N h0 : Nat} {e0 : va_E} {wr : va_W} (hd : decode cc pc = .ok (.newarray .boolean, 2)) (hq : pc + 2 = q) (hN : N ≤ 10000) (hw0 : Cond.arrayClass .boolean ∈ lw_big) (hc : ce + 1 ≤ CE) (hs : sl + N ≤ SL) (K : ∀ x, Rc D C own cc nL ini fr lo CE SL q lv (.ref x :: st) (ce + 1) (sl + N) ((h0, e0) :: (wr ++ [(x, .inl (C.2, N, .inl (fun _ => 0)))])) Fn) : Rc D C own cc nL ini fr lo CE SL pc lv (.int (nI N) :: st) ce sl ((h0, e0) :: wr) Fn := rc_newZ hd hq hN hw0 hc hs K
theorem rc_mk {idx ci N h0 : Nat} {e0 : va_E} {wr : va_W} {Cn : String} {T : u_T} {tf : Nat → FieldType} {fs0 : List Value} (hcl : Cond.classLink own idx Cn ∈ lw_big) (hin : Cond.instantiable Cn N ∈ lw_big) (hii : Cond.initialized Cn ∈ lw_big) (hu : ∀ w ∈ u_ws Cn T N, w ∈ lw_big) (hty : ∀ k, k < N → parseFieldDescriptor (T k).2.2.1 = some (tf k)) (hc : vwCl[ci]? = some (Cn, T, N)) (hfs : ∀ j, j < N → defaultValue (tf j) = vp_V fs0 j) (hd : decode cc pc = .ok (.new idx, 3)) (hq : pc + 3 = q) (hce : ce + 1 ≤ CE) (hsl : sl + N ≤ SL) (K : ∀ x, Rc D C own cc nL ini fr lo CE SL q lv (.ref x :: st) (ce + 1) (sl + N) ((h0, e0) :: (wr ++ [(x, .inr (ci, fs0))])) Fn) : Rc D C own cc nL ini fr lo CE SL pc lv st ce sl ((h0, e0) :: wr) Fn := rc_new hcl hin hii hu hty hc hfs hd hq hce hsl K
theorem rc_mkN {y : MethodName} {cc' : ByteArray} {fr' lo' mc ms ci idx x h0 : Nat} {e0 : va_E} {wr : va_W} {fs0 : List Value} {Bw : Nat → va_W → Prop} (hM : CI D C y cc' fr' lo' mc ms ci fs0 Bw) (cw : CwN own idx y cc' 1 none 0) (hin : Cond.instanceMethod y ∈ lw_big) (hyn : y.name = "<init>") (hd : decode cc pc = .ok (.invokespecial idx, 3)) (hq : pc + 3 = q) (hst : (st.map fun v => v.category).sum ≤ 8) (hf0 : fr' + 1 ≤ fr) (hl0 : 8 + (1 + 11) + lo' ≤ lo) (hc : ce + mc ≤ CE) (hs : sl + ms ≤ SL) (K : ∀ w1, Bw x w1 → Rc D C own cc nL ini fr lo CE SL q lv st (ce + mc) (sl + ms) ((h0, e0) :: (wr ++ w1)) Fn) : Rc D C own cc nL ini fr lo CE SL pc lv (.ref x :: st) ce sl ((h0, e0) :: (wr ++ [(x, .inr (ci, fs0))])) Fn := rc_callN (ws := (h0, e0) :: wr) hM cw hin hyn hd hq hst hf0 hl0 hc hs K
theorem rc_eq {ce' sl' : Nat} {ws' : va_W} (h1 : ce = ce') (h2 : sl = sl') (h3 : ws = ws') (K : Rc D C own cc nL ini fr lo CE SL pc lv st ce' sl' ws' Fn) : Rc D C own cc nL ini fr lo CE SL pc lv st ce sl ws Fn := h1 ▸ h2 ▸ h3 ▸ K
end RC
end
