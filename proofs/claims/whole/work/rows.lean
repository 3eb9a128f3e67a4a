section
-- ===== PART A: goes FIRST, ahead of the names: the tables' words, and 'selects' of the private methods out of them =====
/-- a private method of a class that the tables say can be made, by its rows of tables_1 -/
def lw_okq (q : MethodName × Nat) : Prop := (q.1.cls ≠ "java/lang/invoke/MethodHandle" ∧ q.1.cls ≠ "java/lang/invoke/VarHandle") ∧ Cond.instantiable q.1.cls q.2 ∈ tables_1 ∧ Cond.privateMethod q.1 ∈ tables_1 ∧ Cond.instanceMethod q.1 ∈ tables_1
theorem lw_p0 : lw_okq (⟨"SunCourt", "refuse", "(I)I"⟩, 10) := ⟨⟨by decide +kernel, by decide +kernel⟩, List.mem_of_getElem? (i := 12) (by decide +kernel), List.mem_of_getElem? (i := 206) (by decide +kernel), List.mem_of_getElem? (i := 207) (by decide +kernel)⟩
theorem lw_p1 : lw_okq (⟨"SunCourt", "forgetLight", "()V"⟩, 10) := ⟨⟨by decide +kernel, by decide +kernel⟩, List.mem_of_getElem? (i := 12) (by decide +kernel), List.mem_of_getElem? (i := 214) (by decide +kernel), List.mem_of_getElem? (i := 215) (by decide +kernel)⟩
theorem lw_p2 : lw_okq (⟨"SunCourt", "sunAt", "(IIIII)I"⟩, 10) := ⟨⟨by decide +kernel, by decide +kernel⟩, List.mem_of_getElem? (i := 12) (by decide +kernel), List.mem_of_getElem? (i := 312) (by decide +kernel), List.mem_of_getElem? (i := 313) (by decide +kernel)⟩
theorem lw_p3 : lw_okq (⟨"SunCourt", "aim", "(III)Z"⟩, 10) := ⟨⟨by decide +kernel, by decide +kernel⟩, List.mem_of_getElem? (i := 12) (by decide +kernel), List.mem_of_getElem? (i := 316) (by decide +kernel), List.mem_of_getElem? (i := 317) (by decide +kernel)⟩
theorem lw_p4 : lw_okq (⟨"SunCourt", "refuseAsTold", "(I)I"⟩, 10) := ⟨⟨by decide +kernel, by decide +kernel⟩, List.mem_of_getElem? (i := 12) (by decide +kernel), List.mem_of_getElem? (i := 377) (by decide +kernel), List.mem_of_getElem? (i := 378) (by decide +kernel)⟩
theorem lw_p5 : lw_okq (⟨"SunCourt", "cellsTaken", "(IIII)I"⟩, 10) := ⟨⟨by decide +kernel, by decide +kernel⟩, List.mem_of_getElem? (i := 12) (by decide +kernel), List.mem_of_getElem? (i := 390) (by decide +kernel), List.mem_of_getElem? (i := 391) (by decide +kernel)⟩
theorem lw_p6 : lw_okq (⟨"SunCourt", "litMinutes", "(II)I"⟩, 10) := ⟨⟨by decide +kernel, by decide +kernel⟩, List.mem_of_getElem? (i := 12) (by decide +kernel), List.mem_of_getElem? (i := 398) (by decide +kernel), List.mem_of_getElem? (i := 399) (by decide +kernel)⟩
theorem lw_p7 : lw_okq (⟨"SunCourt", "isLitBy", "(II)Z"⟩, 10) := ⟨⟨by decide +kernel, by decide +kernel⟩, List.mem_of_getElem? (i := 12) (by decide +kernel), List.mem_of_getElem? (i := 402) (by decide +kernel), List.mem_of_getElem? (i := 403) (by decide +kernel)⟩
theorem lw_p8 : lw_okq (⟨"SunCourt", "hoursWith", "(IIIII)I"⟩, 10) := ⟨⟨by decide +kernel, by decide +kernel⟩, List.mem_of_getElem? (i := 12) (by decide +kernel), List.mem_of_getElem? (i := 416) (by decide +kernel), List.mem_of_getElem? (i := 417) (by decide +kernel)⟩
theorem lw_p9 : lw_okq (⟨"SunCourt", "firstBreach", "(II)I"⟩, 10) := ⟨⟨by decide +kernel, by decide +kernel⟩, List.mem_of_getElem? (i := 12) (by decide +kernel), List.mem_of_getElem? (i := 424) (by decide +kernel), List.mem_of_getElem? (i := 425) (by decide +kernel)⟩
theorem lw_p10 : lw_okq (⟨"SunCourt", "firstFall", "(I)I"⟩, 10) := ⟨⟨by decide +kernel, by decide +kernel⟩, List.mem_of_getElem? (i := 12) (by decide +kernel), List.mem_of_getElem? (i := 432) (by decide +kernel), List.mem_of_getElem? (i := 433) (by decide +kernel)⟩
theorem lw_p11 : lw_okq (⟨"SunCourt", "firstFallWith", "(III)I"⟩, 10) := ⟨⟨by decide +kernel, by decide +kernel⟩, List.mem_of_getElem? (i := 12) (by decide +kernel), List.mem_of_getElem? (i := 436) (by decide +kernel), List.mem_of_getElem? (i := 437) (by decide +kernel)⟩
theorem lw_p12 : lw_okq (⟨"SunCourt", "passYear", "()V"⟩, 10) := ⟨⟨by decide +kernel, by decide +kernel⟩, List.mem_of_getElem? (i := 12) (by decide +kernel), List.mem_of_getElem? (i := 448) (by decide +kernel), List.mem_of_getElem? (i := 449) (by decide +kernel)⟩
theorem lw_p13 : lw_okq (⟨"SunCourt", "lawfulWindows", "()I"⟩, 10) := ⟨⟨by decide +kernel, by decide +kernel⟩, List.mem_of_getElem? (i := 12) (by decide +kernel), List.mem_of_getElem? (i := 478) (by decide +kernel), List.mem_of_getElem? (i := 479) (by decide +kernel)⟩
theorem lw_p14 : lw_okq (⟨"SunCourtModel", "refuse", "(I)I"⟩, 43) := ⟨⟨by decide +kernel, by decide +kernel⟩, List.mem_of_getElem? (i := 487) (by decide +kernel), List.mem_of_getElem? (i := 633) (by decide +kernel), List.mem_of_getElem? (i := 634) (by decide +kernel)⟩
theorem lw_p15 : lw_okq (⟨"SunCourtModel", "isBlock", "(I)Z"⟩, 43) := ⟨⟨by decide +kernel, by decide +kernel⟩, List.mem_of_getElem? (i := 487) (by decide +kernel), List.mem_of_getElem? (i := 645) (by decide +kernel), List.mem_of_getElem? (i := 646) (by decide +kernel)⟩
def lw_privs_1 : List (MethodName × Nat) := [(⟨"SunCourt", "refuse", "(I)I"⟩, 10), (⟨"SunCourt", "forgetLight", "()V"⟩, 10), (⟨"SunCourt", "sunAt", "(IIIII)I"⟩, 10), (⟨"SunCourt", "aim", "(III)Z"⟩, 10), (⟨"SunCourt", "refuseAsTold", "(I)I"⟩, 10), (⟨"SunCourt", "cellsTaken", "(IIII)I"⟩, 10), (⟨"SunCourt", "litMinutes", "(II)I"⟩, 10), (⟨"SunCourt", "isLitBy", "(II)Z"⟩, 10), (⟨"SunCourt", "hoursWith", "(IIIII)I"⟩, 10), (⟨"SunCourt", "firstBreach", "(II)I"⟩, 10), (⟨"SunCourt", "firstFall", "(I)I"⟩, 10), (⟨"SunCourt", "firstFallWith", "(III)I"⟩, 10), (⟨"SunCourt", "passYear", "()V"⟩, 10), (⟨"SunCourt", "lawfulWindows", "()I"⟩, 10), (⟨"SunCourtModel", "refuse", "(I)I"⟩, 43), (⟨"SunCourtModel", "isBlock", "(I)Z"⟩, 43)]
theorem lw_r1 : ∀ q ∈ lw_privs_1, lw_okq q := List.forall_mem_cons.mpr ⟨lw_p0, List.forall_mem_cons.mpr ⟨lw_p1, List.forall_mem_cons.mpr ⟨lw_p2, List.forall_mem_cons.mpr ⟨lw_p3, List.forall_mem_cons.mpr ⟨lw_p4, List.forall_mem_cons.mpr ⟨lw_p5, List.forall_mem_cons.mpr ⟨lw_p6, List.forall_mem_cons.mpr ⟨lw_p7, List.forall_mem_cons.mpr ⟨lw_p8, List.forall_mem_cons.mpr ⟨lw_p9, List.forall_mem_cons.mpr ⟨lw_p10, List.forall_mem_cons.mpr ⟨lw_p11, List.forall_mem_cons.mpr ⟨lw_p12, List.forall_mem_cons.mpr ⟨lw_p13, List.forall_mem_cons.mpr ⟨lw_p14, List.forall_mem_cons.mpr ⟨lw_p15, fun _ h => absurd h List.not_mem_nil⟩⟩⟩⟩⟩⟩⟩⟩⟩⟩⟩⟩⟩⟩⟩⟩
theorem lw_p16 : lw_okq (⟨"SunCourtModel", "lackOfPlan", "(I)I"⟩, 43) := ⟨⟨by decide +kernel, by decide +kernel⟩, List.mem_of_getElem? (i := 487) (by decide +kernel), List.mem_of_getElem? (i := 661) (by decide +kernel), List.mem_of_getElem? (i := 662) (by decide +kernel)⟩
theorem lw_p17 : lw_okq (⟨"SunCourtModel", "isWindow", "(I)Z"⟩, 43) := ⟨⟨by decide +kernel, by decide +kernel⟩, List.mem_of_getElem? (i := 487) (by decide +kernel), List.mem_of_getElem? (i := 685) (by decide +kernel), List.mem_of_getElem? (i := 686) (by decide +kernel)⟩
theorem lw_p18 : lw_okq (⟨"SunCourtModel", "isMinute", "(II)Z"⟩, 43) := ⟨⟨by decide +kernel, by decide +kernel⟩, List.mem_of_getElem? (i := 487) (by decide +kernel), List.mem_of_getElem? (i := 689) (by decide +kernel), List.mem_of_getElem? (i := 690) (by decide +kernel)⟩
theorem lw_p19 : lw_okq (⟨"SunCourtModel", "sunOf", "(III)I"⟩, 43) := ⟨⟨by decide +kernel, by decide +kernel⟩, List.mem_of_getElem? (i := 487) (by decide +kernel), List.mem_of_getElem? (i := 693) (by decide +kernel), List.mem_of_getElem? (i := 694) (by decide +kernel)⟩
theorem lw_p20 : lw_okq (⟨"SunCourtModel", "cellsOf", "(I)I"⟩, 43) := ⟨⟨by decide +kernel, by decide +kernel⟩, List.mem_of_getElem? (i := 487) (by decide +kernel), List.mem_of_getElem? (i := 697) (by decide +kernel), List.mem_of_getElem? (i := 698) (by decide +kernel)⟩
theorem lw_p21 : lw_okq (⟨"SunCourtModel", "isInFront", "(II)Z"⟩, 43) := ⟨⟨by decide +kernel, by decide +kernel⟩, List.mem_of_getElem? (i := 487) (by decide +kernel), List.mem_of_getElem? (i := 701) (by decide +kernel), List.mem_of_getElem? (i := 702) (by decide +kernel)⟩
theorem lw_p22 : lw_okq (⟨"SunCourtModel", "lightOf", "(IIII)I"⟩, 43) := ⟨⟨by decide +kernel, by decide +kernel⟩, List.mem_of_getElem? (i := 487) (by decide +kernel), List.mem_of_getElem? (i := 705) (by decide +kernel), List.mem_of_getElem? (i := 706) (by decide +kernel)⟩
theorem lw_p23 : lw_okq (⟨"SunCourtModel", "show", "(III)V"⟩, 43) := ⟨⟨by decide +kernel, by decide +kernel⟩, List.mem_of_getElem? (i := 487) (by decide +kernel), List.mem_of_getElem? (i := 709) (by decide +kernel), List.mem_of_getElem? (i := 710) (by decide +kernel)⟩
theorem lw_p24 : lw_okq (⟨"SunCourtModel", "isThere", "(I)Z"⟩, 43) := ⟨⟨by decide +kernel, by decide +kernel⟩, List.mem_of_getElem? (i := 487) (by decide +kernel), List.mem_of_getElem? (i := 713) (by decide +kernel), List.mem_of_getElem? (i := 714) (by decide +kernel)⟩
theorem lw_p25 : lw_okq (⟨"SunCourtModel", "stands", "(I)Z"⟩, 43) := ⟨⟨by decide +kernel, by decide +kernel⟩, List.mem_of_getElem? (i := 487) (by decide +kernel), List.mem_of_getElem? (i := 717) (by decide +kernel), List.mem_of_getElem? (i := 718) (by decide +kernel)⟩
theorem lw_p26 : lw_okq (⟨"SunCourtModel", "bound", "(IIII)V"⟩, 43) := ⟨⟨by decide +kernel, by decide +kernel⟩, List.mem_of_getElem? (i := 487) (by decide +kernel), List.mem_of_getElem? (i := 721) (by decide +kernel), List.mem_of_getElem? (i := 722) (by decide +kernel)⟩
theorem lw_p27 : lw_okq (⟨"SunCourtModel", "topOf", "(I)I"⟩, 43) := ⟨⟨by decide +kernel, by decide +kernel⟩, List.mem_of_getElem? (i := 487) (by decide +kernel), List.mem_of_getElem? (i := 725) (by decide +kernel), List.mem_of_getElem? (i := 726) (by decide +kernel)⟩
theorem lw_p28 : lw_okq (⟨"SunCourtModel", "takerOf", "(IIII)I"⟩, 43) := ⟨⟨by decide +kernel, by decide +kernel⟩, List.mem_of_getElem? (i := 487) (by decide +kernel), List.mem_of_getElem? (i := 737) (by decide +kernel), List.mem_of_getElem? (i := 738) (by decide +kernel)⟩
theorem lw_p29 : lw_okq (⟨"SunCourtModel", "refuseBig", "(I)I"⟩, 43) := ⟨⟨by decide +kernel, by decide +kernel⟩, List.mem_of_getElem? (i := 487) (by decide +kernel), List.mem_of_getElem? (i := 741) (by decide +kernel), List.mem_of_getElem? (i := 742) (by decide +kernel)⟩
theorem lw_p30 : lw_okq (⟨"SunCourtModel", "hoursOf", "(II)I"⟩, 43) := ⟨⟨by decide +kernel, by decide +kernel⟩, List.mem_of_getElem? (i := 487) (by decide +kernel), List.mem_of_getElem? (i := 754) (by decide +kernel), List.mem_of_getElem? (i := 755) (by decide +kernel)⟩
theorem lw_p31 : lw_okq (⟨"SunCourtModel", "think", "(II)V"⟩, 43) := ⟨⟨by decide +kernel, by decide +kernel⟩, List.mem_of_getElem? (i := 487) (by decide +kernel), List.mem_of_getElem? (i := 762) (by decide +kernel), List.mem_of_getElem? (i := 763) (by decide +kernel)⟩
def lw_privs_2 : List (MethodName × Nat) := [(⟨"SunCourtModel", "lackOfPlan", "(I)I"⟩, 43), (⟨"SunCourtModel", "isWindow", "(I)Z"⟩, 43), (⟨"SunCourtModel", "isMinute", "(II)Z"⟩, 43), (⟨"SunCourtModel", "sunOf", "(III)I"⟩, 43), (⟨"SunCourtModel", "cellsOf", "(I)I"⟩, 43), (⟨"SunCourtModel", "isInFront", "(II)Z"⟩, 43), (⟨"SunCourtModel", "lightOf", "(IIII)I"⟩, 43), (⟨"SunCourtModel", "show", "(III)V"⟩, 43), (⟨"SunCourtModel", "isThere", "(I)Z"⟩, 43), (⟨"SunCourtModel", "stands", "(I)Z"⟩, 43), (⟨"SunCourtModel", "bound", "(IIII)V"⟩, 43), (⟨"SunCourtModel", "topOf", "(I)I"⟩, 43), (⟨"SunCourtModel", "takerOf", "(IIII)I"⟩, 43), (⟨"SunCourtModel", "refuseBig", "(I)I"⟩, 43), (⟨"SunCourtModel", "hoursOf", "(II)I"⟩, 43), (⟨"SunCourtModel", "think", "(II)V"⟩, 43)]
theorem lw_r2 : ∀ q ∈ lw_privs_2, lw_okq q := List.forall_mem_cons.mpr ⟨lw_p16, List.forall_mem_cons.mpr ⟨lw_p17, List.forall_mem_cons.mpr ⟨lw_p18, List.forall_mem_cons.mpr ⟨lw_p19, List.forall_mem_cons.mpr ⟨lw_p20, List.forall_mem_cons.mpr ⟨lw_p21, List.forall_mem_cons.mpr ⟨lw_p22, List.forall_mem_cons.mpr ⟨lw_p23, List.forall_mem_cons.mpr ⟨lw_p24, List.forall_mem_cons.mpr ⟨lw_p25, List.forall_mem_cons.mpr ⟨lw_p26, List.forall_mem_cons.mpr ⟨lw_p27, List.forall_mem_cons.mpr ⟨lw_p28, List.forall_mem_cons.mpr ⟨lw_p29, List.forall_mem_cons.mpr ⟨lw_p30, List.forall_mem_cons.mpr ⟨lw_p31, fun _ h => absurd h List.not_mem_nil⟩⟩⟩⟩⟩⟩⟩⟩⟩⟩⟩⟩⟩⟩⟩⟩
theorem lw_p32 : lw_okq (⟨"SunCourtModel", "ask", "()V"⟩, 43) := ⟨⟨by decide +kernel, by decide +kernel⟩, List.mem_of_getElem? (i := 487) (by decide +kernel), List.mem_of_getElem? (i := 770) (by decide +kernel), List.mem_of_getElem? (i := 771) (by decide +kernel)⟩
theorem lw_p33 : lw_okq (⟨"SunCourtModel", "isKept", "(I)Z"⟩, 43) := ⟨⟨by decide +kernel, by decide +kernel⟩, List.mem_of_getElem? (i := 487) (by decide +kernel), List.mem_of_getElem? (i := 774) (by decide +kernel), List.mem_of_getElem? (i := 775) (by decide +kernel)⟩
theorem lw_p34 : lw_okq (⟨"SunCourtModel", "fallsOn", "(I)I"⟩, 43) := ⟨⟨by decide +kernel, by decide +kernel⟩, List.mem_of_getElem? (i := 487) (by decide +kernel), List.mem_of_getElem? (i := 778) (by decide +kernel), List.mem_of_getElem? (i := 779) (by decide +kernel)⟩
theorem lw_p35 : lw_okq (⟨"SunCourtModel", "firstBreach", "(II)I"⟩, 43) := ⟨⟨by decide +kernel, by decide +kernel⟩, List.mem_of_getElem? (i := 487) (by decide +kernel), List.mem_of_getElem? (i := 782) (by decide +kernel), List.mem_of_getElem? (i := 783) (by decide +kernel)⟩
def lw_privs_3 : List (MethodName × Nat) := [(⟨"SunCourtModel", "ask", "()V"⟩, 43), (⟨"SunCourtModel", "isKept", "(I)Z"⟩, 43), (⟨"SunCourtModel", "fallsOn", "(I)I"⟩, 43), (⟨"SunCourtModel", "firstBreach", "(II)I"⟩, 43)]
theorem lw_r3 : ∀ q ∈ lw_privs_3, lw_okq q := List.forall_mem_cons.mpr ⟨lw_p32, List.forall_mem_cons.mpr ⟨lw_p33, List.forall_mem_cons.mpr ⟨lw_p34, List.forall_mem_cons.mpr ⟨lw_p35, fun _ h => absurd h List.not_mem_nil⟩⟩⟩⟩
def lw_privs : List (MethodName × Nat) := lw_privs_1 ++ (lw_privs_2 ++ (lw_privs_3))
def lw_tbl : List Cond := k2_sels lw_privs ++ tables_1
theorem lw_privs_ok : ∀ q ∈ lw_privs, lw_okq q := by
  show ∀ q ∈ lw_privs_1 ++ (lw_privs_2 ++ (lw_privs_3)), lw_okq q
  exact List.forall_mem_append.mpr ⟨lw_r1, List.forall_mem_append.mpr ⟨lw_r2, lw_r3⟩⟩
end
section
/-! ===== BEGIN words of one list among another's, by their places ===== -/
theorem goodIn_r {big : List Cond} (ws : List Cond) (ps : List Nat) (hp : ws = ps.filterMap (fun i => big[i]?)) (h : ws.all goodWord = true) : GoodIn big ws := by
  intro w hw
  have h1 := List.all_eq_true.mp h w hw
  rw [hp] at hw
  obtain ⟨i, -, hi⟩ := List.mem_filterMap.mp hw
  have hm : w ∈ big := by first | exact List.mem_of_getElem? hi | exact List.getElem?_mem hi
  exact ⟨hm, good_of_word h1⟩
theorem goodIn_app {big a b : List Cond} (ha : GoodIn big a) (hb : GoodIn big b) : GoodIn big (a ++ b) := fun w h => (List.mem_append.mp h).elim (ha w) (hb w)
theorem goodIn_ca {big a b : List Cond} {c : Cond} (ha : GoodIn big (c :: a)) (hb : GoodIn big b) : GoodIn big (c :: (a ++ b)) := fun w h => (List.mem_cons.mp h).elim (fun e => ha w (List.mem_cons.mpr (Or.inl e))) (fun h => (List.mem_append.mp h).elim (fun h => ha w (List.mem_cons.mpr (Or.inr h))) (hb w))
theorem goodIn_sub {big ws : List Cond} (hm : ∀ w ∈ ws, w ∈ big) (h : ws.all goodWord = true) : GoodIn big ws := fun w hw => ⟨hm w hw, good_of_word (List.all_eq_true.mp h w hw)⟩
/-! ===== END ===== -/

/-! ===== BEGIN printed: names, fields, word lists, decode rows ===== -/
def RX0 : String := "SunCourt$Beam"
def TX0 : u_T := fun k => match k with
  | 0 => ("SunCourt$Beam", "way", "[I", true)
  | 1 => ("SunCourt$Beam", "startLeast", "[I", true)
  | 2 => ("SunCourt$Beam", "startMost", "[I", true)
  | 3 => ("SunCourt$Beam", "enterOver", "I", false)
  | _ => ("SunCourt$Beam", "enterUnder", "I", false)
def tyX0 : Nat → FieldType := fun k => match k with
  | 0 => .array .int
  | 1 => .array .int
  | 2 => .array .int
  | 3 => .int
  | _ => .int
abbrev wsX00 : List Cond := u_ws RX0 TX0 5
theorem nmX0 : ∀ a, a < 5 → ∀ b, b < 5 → a ≠ b → (TX0 a).2.1 ≠ (TX0 b).2.1 := by decide +kernel
theorem tyX0_ok : ∀ k, k < 5 → parseFieldDescriptor (TX0 k).2.2.1 = some (tyX0 k) := by decide +kernel
abbrev cX0_init : ByteArray := prog_2_method_1_code
def yX0_init : MethodName := ⟨RX0, "<init>", "()V"⟩
abbrev cX0_startAt : ByteArray := prog_2_method_2_code
def yX0_startAt : MethodName := ⟨RX0, "startAt", "(III)V"⟩
abbrev cX0_meets : ByteArray := prog_2_method_3_code
def yX0_meets : MethodName := ⟨RX0, "meets", "(LSunCourt$Blocks;II)Z"⟩
def RX1 : String := "SunCourt$Blocks"
def TX1 : u_T := fun k => match k with
  | 0 => ("SunCourt$Blocks", "size", "I", false)
  | 1 => ("SunCourt$Blocks", "kind", "[I", true)
  | 2 => ("SunCourt$Blocks", "lesser", "[I", true)
  | 3 => ("SunCourt$Blocks", "greater", "[I", true)
  | 4 => ("SunCourt$Blocks", "greatestTop", "[I", true)
  | 5 => ("SunCourt$Blocks", "through", "[I", true)
  | 6 => ("SunCourt$Blocks", "there", "[Z", true)
  | _ => ("SunCourt$Blocks", "gone", "[Z", true)
def tyX1 : Nat → FieldType := fun k => match k with
  | 0 => .int
  | 1 => .array .int
  | 2 => .array .int
  | 3 => .array .int
  | 4 => .array .int
  | 5 => .array .int
  | 6 => .array .boolean
  | _ => .array .boolean
abbrev wsX10 : List Cond := u_ws RX1 TX1 8
theorem nmX1 : ∀ a, a < 8 → ∀ b, b < 8 → a ≠ b → (TX1 a).2.1 ≠ (TX1 b).2.1 := by decide +kernel
theorem tyX1_ok : ∀ k, k < 8 → parseFieldDescriptor (TX1 k).2.2.1 = some (tyX1 k) := by decide +kernel
abbrev cX1_init : ByteArray := prog_3_method_1_code
def yX1_init : MethodName := ⟨RX1, "<init>", "()V"⟩
abbrev cX1_has : ByteArray := prog_3_method_2_code
def yX1_has : MethodName := ⟨RX1, "has", "(I)Z"⟩
abbrev cX1_isFull : ByteArray := prog_3_method_3_code
def yX1_isFull : MethodName := ⟨RX1, "isFull", "()Z"⟩
abbrev cX1_add : ByteArray := prog_3_method_4_code
def yX1_add : MethodName := ⟨RX1, "add", "(IIIIIII)I"⟩
abbrev cX1_footOf : ByteArray := prog_3_method_5_code
def yX1_footOf : MethodName := ⟨RX1, "footOf", "(I)I"⟩
abbrev cX1_topOf : ByteArray := prog_3_method_6_code
def yX1_topOf : MethodName := ⟨RX1, "topOf", "(I)I"⟩
abbrev cX1_setTop : ByteArray := prog_3_method_7_code
def yX1_setTop : MethodName := ⟨RX1, "setTop", "(II)V"⟩
abbrev cX1_treeFault : ByteArray := prog_3_method_8_code
def yX1_treeFault : MethodName := ⟨RX1, "treeFault", "(I)I"⟩
abbrev cX1_planFault : ByteArray := prog_3_method_9_code
def yX1_planFault : MethodName := ⟨RX1, "planFault", "(I)I"⟩
abbrev cX1_growTrees : ByteArray := prog_3_method_10_code
def yX1_growTrees : MethodName := ⟨RX1, "growTrees", "()Z"⟩
def RX2 : String := "SunCourt$Shade"
def TX2 : u_T := fun k => match k with
  | 0 => ("SunCourt$Shade", "size", "I", false)
  | 1 => ("SunCourt$Shade", "number", "[I", true)
  | 2 => ("SunCourt$Shade", "top", "[I", true)
  | _ => ("SunCourt$Shade", "passes", "[I", true)
def tyX2 : Nat → FieldType := fun k => match k with
  | 0 => .int
  | 1 => .array .int
  | 2 => .array .int
  | _ => .array .int
abbrev wsX20 : List Cond := u_ws RX2 TX2 4
theorem nmX2 : ∀ a, a < 4 → ∀ b, b < 4 → a ≠ b → (TX2 a).2.1 ≠ (TX2 b).2.1 := by decide +kernel
theorem tyX2_ok : ∀ k, k < 4 → parseFieldDescriptor (TX2 k).2.2.1 = some (tyX2 k) := by decide +kernel
abbrev cX2_init : ByteArray := prog_4_method_1_code
def yX2_init : MethodName := ⟨RX2, "<init>", "()V"⟩
abbrev cX2_gather : ByteArray := prog_4_method_2_code
def yX2_gather : MethodName := ⟨RX2, "gather", "(LSunCourt$Blocks;LSunCourt$Beam;III)V"⟩
abbrev cX2_lightAlong : ByteArray := prog_4_method_3_code
def yX2_lightAlong : MethodName := ⟨RX2, "lightAlong", "(LSunCourt$Blocks;LSunCourt$Beam;)I"⟩
abbrev cX2_nearestAlong : ByteArray := prog_4_method_4_code
def yX2_nearestAlong : MethodName := ⟨RX2, "nearestAlong", "(LSunCourt$Blocks;LSunCourt$Beam;)I"⟩
def RX3 : String := "SunCourt$Sky"
def TX3 : u_T := fun k => match k with
  | 0 => ("SunCourt$Sky", "minutes", "[I", true)
  | _ => ("SunCourt$Sky", "ways", "[I", true)
def tyX3 : Nat → FieldType := fun k => match k with
  | 0 => .array .int
  | _ => .array .int
abbrev wsX30 : List Cond := u_ws RX3 TX3 2
theorem nmX3 : ∀ a, a < 2 → ∀ b, b < 2 → a ≠ b → (TX3 a).2.1 ≠ (TX3 b).2.1 := by decide +kernel
theorem tyX3_ok : ∀ k, k < 2 → parseFieldDescriptor (TX3 k).2.2.1 = some (tyX3 k) := by decide +kernel
abbrev cX3_init : ByteArray := prog_5_method_1_code
def yX3_init : MethodName := ⟨RX3, "<init>", "()V"⟩
abbrev cX3_has : ByteArray := prog_5_method_2_code
def yX3_has : MethodName := ⟨RX3, "has", "(II)Z"⟩
abbrev cX3_isFull : ByteArray := prog_5_method_3_code
def yX3_isFull : MethodName := ⟨RX3, "isFull", "(I)Z"⟩
abbrev cX3_add : ByteArray := prog_5_method_4_code
def yX3_add : MethodName := ⟨RX3, "add", "(IIII)I"⟩
abbrev cX3_minutesInAll : ByteArray := prog_5_method_5_code
def yX3_minutesInAll : MethodName := ⟨RX3, "minutesInAll", "()I"⟩
abbrev cX3_turn : ByteArray := prog_5_method_6_code
def yX3_turn : MethodName := ⟨RX3, "turn", "(IILSunCourt$Beam;)V"⟩
def RX4 : String := "SunCourt$Windows"
def TX4 : u_T := fun k => match k with
  | 0 => ("SunCourt$Windows", "size", "I", false)
  | 1 => ("SunCourt$Windows", "side", "[I", true)
  | 2 => ("SunCourt$Windows", "wallAxis", "[I", true)
  | 3 => ("SunCourt$Windows", "wall", "[I", true)
  | 4 => ("SunCourt$Windows", "leastU", "[I", true)
  | 5 => ("SunCourt$Windows", "leastZ", "[I", true)
  | 6 => ("SunCourt$Windows", "width", "[I", true)
  | 7 => ("SunCourt$Windows", "height", "[I", true)
  | 8 => ("SunCourt$Windows", "right", "[I", true)
  | _ => ("SunCourt$Windows", "released", "[Z", true)
def tyX4 : Nat → FieldType := fun k => match k with
  | 0 => .int
  | 1 => .array .int
  | 2 => .array .int
  | 3 => .array .int
  | 4 => .array .int
  | 5 => .array .int
  | 6 => .array .int
  | 7 => .array .int
  | 8 => .array .int
  | _ => .array .boolean
abbrev wsX40 : List Cond := u_ws RX4 TX4 10
theorem nmX4 : ∀ a, a < 10 → ∀ b, b < 10 → a ≠ b → (TX4 a).2.1 ≠ (TX4 b).2.1 := by decide +kernel
theorem tyX4_ok : ∀ k, k < 10 → parseFieldDescriptor (TX4 k).2.2.1 = some (tyX4 k) := by decide +kernel
abbrev cX4_init : ByteArray := prog_6_method_1_code
def yX4_init : MethodName := ⟨RX4, "<init>", "()V"⟩
abbrev cX4_has : ByteArray := prog_6_method_2_code
def yX4_has : MethodName := ⟨RX4, "has", "(I)Z"⟩
abbrev cX4_hasCell : ByteArray := prog_6_method_3_code
def yX4_hasCell : MethodName := ⟨RX4, "hasCell", "(II)Z"⟩
abbrev cX4_isFull : ByteArray := prog_6_method_4_code
def yX4_isFull : MethodName := ⟨RX4, "isFull", "()Z"⟩
abbrev cX4_add : ByteArray := prog_6_method_5_code
def yX4_add : MethodName := ⟨RX4, "add", "(IIIIII)I"⟩
abbrev cX4_cellsOf : ByteArray := prog_6_method_6_code
def yX4_cellsOf : MethodName := ⟨RX4, "cellsOf", "(I)I"⟩
abbrev cX4_isKept : ByteArray := prog_6_method_7_code
def yX4_isKept : MethodName := ⟨RX4, "isKept", "(I)Z"⟩
abbrev cX4_keptOnes : ByteArray := prog_6_method_8_code
def yX4_keptOnes : MethodName := ⟨RX4, "keptOnes", "()I"⟩
abbrev cX4_faces : ByteArray := prog_6_method_9_code
def yX4_faces : MethodName := ⟨RX4, "faces", "(ILSunCourt$Beam;)Z"⟩
abbrev cX4_standOn : ByteArray := prog_6_method_10_code
def yX4_standOn : MethodName := ⟨RX4, "standOn", "(IILSunCourt$Beam;)V"⟩
abbrev cX4_standOnAll : ByteArray := prog_6_method_11_code
def yX4_standOnAll : MethodName := ⟨RX4, "standOnAll", "(ILSunCourt$Beam;)V"⟩
abbrev cX4_middle : ByteArray := prog_6_method_12_code
def yX4_middle : MethodName := ⟨RX4, "middle", "(I)I"⟩
def RX5 : String := "SunCourt"
def TX5 : u_T := fun k => match k with
  | 0 => ("SunCourt", "sky", "LSunCourt$Sky;", true)
  | 1 => ("SunCourt", "blocks", "LSunCourt$Blocks;", true)
  | 2 => ("SunCourt", "windows", "LSunCourt$Windows;", true)
  | 3 => ("SunCourt", "beam", "LSunCourt$Beam;", true)
  | 4 => ("SunCourt", "shade", "LSunCourt$Shade;", true)
  | 5 => ("SunCourt", "leastHours", "[I", true)
  | 6 => ("SunCourt", "refusals", "[I", true)
  | 7 => ("SunCourt", "litBits", "[I", true)
  | 8 => ("SunCourt", "litPart", "I", false)
  | _ => ("SunCourt", "year", "I", false)
def tyX5 : Nat → FieldType := fun k => match k with
  | 0 => .object "SunCourt$Sky"
  | 1 => .object "SunCourt$Blocks"
  | 2 => .object "SunCourt$Windows"
  | 3 => .object "SunCourt$Beam"
  | 4 => .object "SunCourt$Shade"
  | 5 => .array .int
  | 6 => .array .int
  | 7 => .array .int
  | 8 => .int
  | _ => .int
abbrev wsX50 : List Cond := u_ws RX5 TX5 10
theorem nmX5 : ∀ a, a < 10 → ∀ b, b < 10 → a ≠ b → (TX5 a).2.1 ≠ (TX5 b).2.1 := by decide +kernel
theorem tyX5_ok : ∀ k, k < 10 → parseFieldDescriptor (TX5 k).2.2.1 = some (tyX5 k) := by decide +kernel
abbrev cX5_init : ByteArray := prog_1_method_1_code
def yX5_init : MethodName := ⟨RX5, "<init>", "()V"⟩
abbrev cX5_minute : ByteArray := prog_1_method_2_code
def yX5_minute : MethodName := ⟨RX5, "minute", "(IIII)I"⟩
abbrev cX5_block : ByteArray := prog_1_method_3_code
def yX5_block : MethodName := ⟨RX5, "block", "(IIIIIII)I"⟩
abbrev cX5_share : ByteArray := prog_1_method_4_code
def yX5_share : MethodName := ⟨RX5, "share", "(III)I"⟩
abbrev cX5_most : ByteArray := prog_1_method_5_code
def yX5_most : MethodName := ⟨RX5, "most", "(II)I"⟩
abbrev cX5_cut : ByteArray := prog_1_method_6_code
def yX5_cut : MethodName := ⟨RX5, "cut", "(II)I"⟩
abbrev cX5_build : ByteArray := prog_1_method_7_code
def yX5_build : MethodName := ⟨RX5, "build", "(I)I"⟩
abbrev cX5_go : ByteArray := prog_1_method_8_code
def yX5_go : MethodName := ⟨RX5, "go", "(I)I"⟩
abbrev cX5_window : ByteArray := prog_1_method_9_code
def yX5_window : MethodName := ⟨RX5, "window", "(IIIIII)I"⟩
abbrev cX5_part : ByteArray := prog_1_method_10_code
def yX5_part : MethodName := ⟨RX5, "part", "(I)I"⟩
abbrev cX5_law : ByteArray := prog_1_method_11_code
def yX5_law : MethodName := ⟨RX5, "law", "(II)I"⟩
abbrev cX5_sun : ByteArray := prog_1_method_12_code
def yX5_sun : MethodName := ⟨RX5, "sun", "(III)I"⟩
abbrev cX5_light : ByteArray := prog_1_method_13_code
def yX5_light : MethodName := ⟨RX5, "light", "(IIII)I"⟩
abbrev cX5_taker : ByteArray := prog_1_method_14_code
def yX5_taker : MethodName := ⟨RX5, "taker", "(IIII)I"⟩
abbrev cX5_takes : ByteArray := prog_1_method_15_code
def yX5_takes : MethodName := ⟨RX5, "takes", "(III)I"⟩
abbrev cX5_hours : ByteArray := prog_1_method_16_code
def yX5_hours : MethodName := ⟨RX5, "hours", "(II)I"⟩
abbrev cX5_loss : ByteArray := prog_1_method_17_code
def yX5_loss : MethodName := ⟨RX5, "loss", "(III)I"⟩
abbrev cX5_high : ByteArray := prog_1_method_18_code
def yX5_high : MethodName := ⟨RX5, "high", "(I)I"⟩
abbrev cX5_breach : ByteArray := prog_1_method_19_code
def yX5_breach : MethodName := ⟨RX5, "breach", "(II)I"⟩
abbrev cX5_years : ByteArray := prog_1_method_20_code
def yX5_years : MethodName := ⟨RX5, "years", "(I)I"⟩
abbrev cX5_release : ByteArray := prog_1_method_21_code
def yX5_release : MethodName := ⟨RX5, "release", "(I)Z"⟩
abbrev cX5_blockOf : ByteArray := prog_1_method_22_code
def yX5_blockOf : MethodName := ⟨RX5, "blockOf", "(II)I"⟩
abbrev cX5_windowOf : ByteArray := prog_1_method_23_code
def yX5_windowOf : MethodName := ⟨RX5, "windowOf", "(II)I"⟩
abbrev cX5_count : ByteArray := prog_1_method_24_code
def yX5_count : MethodName := ⟨RX5, "count", "(I)I"⟩
abbrev cX5_isDay : ByteArray := prog_1_method_25_code
def yX5_isDay : MethodName := ⟨RX5, "isDay", "(I)Z"⟩
abbrev cX5_refuse : ByteArray := prog_1_method_26_code
def yX5_refuse : MethodName := ⟨RX5, "refuse", "(I)I"⟩
abbrev cX5_refuseAsTold : ByteArray := prog_1_method_27_code
def yX5_refuseAsTold : MethodName := ⟨RX5, "refuseAsTold", "(I)I"⟩
abbrev cX5_forgetLight : ByteArray := prog_1_method_28_code
def yX5_forgetLight : MethodName := ⟨RX5, "forgetLight", "()V"⟩
abbrev cX5_aim : ByteArray := prog_1_method_29_code
def yX5_aim : MethodName := ⟨RX5, "aim", "(III)Z"⟩
abbrev cX5_sunAt : ByteArray := prog_1_method_30_code
def yX5_sunAt : MethodName := ⟨RX5, "sunAt", "(IIIII)I"⟩
abbrev cX5_cellsTaken : ByteArray := prog_1_method_31_code
def yX5_cellsTaken : MethodName := ⟨RX5, "cellsTaken", "(IIII)I"⟩
abbrev cX5_isLitBy : ByteArray := prog_1_method_32_code
def yX5_isLitBy : MethodName := ⟨RX5, "isLitBy", "(II)Z"⟩
abbrev cX5_litMinutes : ByteArray := prog_1_method_33_code
def yX5_litMinutes : MethodName := ⟨RX5, "litMinutes", "(II)I"⟩
abbrev cX5_hoursWith : ByteArray := prog_1_method_34_code
def yX5_hoursWith : MethodName := ⟨RX5, "hoursWith", "(IIIII)I"⟩
abbrev cX5_firstFall : ByteArray := prog_1_method_35_code
def yX5_firstFall : MethodName := ⟨RX5, "firstFall", "(I)I"⟩
abbrev cX5_firstFallWith : ByteArray := prog_1_method_36_code
def yX5_firstFallWith : MethodName := ⟨RX5, "firstFallWith", "(III)I"⟩
abbrev cX5_firstBreach : ByteArray := prog_1_method_37_code
def yX5_firstBreach : MethodName := ⟨RX5, "firstBreach", "(II)I"⟩
abbrev cX5_lawfulWindows : ByteArray := prog_1_method_38_code
def yX5_lawfulWindows : MethodName := ⟨RX5, "lawfulWindows", "()I"⟩
abbrev cX5_passYear : ByteArray := prog_1_method_39_code
def yX5_passYear : MethodName := ⟨RX5, "passYear", "()V"⟩
def RX6 : String := "SunCourtModel"
def TX6 : u_T := fun k => match k with
  | 0 => ("SunCourtModel", "minutes", "[I", true)
  | 1 => ("SunCourtModel", "wayX", "[I", true)
  | 2 => ("SunCourtModel", "wayY", "[I", true)
  | 3 => ("SunCourtModel", "wayZ", "[I", true)
  | 4 => ("SunCourtModel", "law", "[I", true)
  | 5 => ("SunCourtModel", "part", "I", false)
  | 6 => ("SunCourtModel", "year", "I", false)
  | 7 => ("SunCourtModel", "blocks", "I", false)
  | 8 => ("SunCourtModel", "kind", "[I", true)
  | 9 => ("SunCourtModel", "x0", "[I", true)
  | 10 => ("SunCourtModel", "x1", "[I", true)
  | 11 => ("SunCourtModel", "y0", "[I", true)
  | 12 => ("SunCourtModel", "y1", "[I", true)
  | 13 => ("SunCourtModel", "foot", "[I", true)
  | 14 => ("SunCourtModel", "top", "[I", true)
  | 15 => ("SunCourtModel", "most", "[I", true)
  | 16 => ("SunCourtModel", "share", "[I", true)
  | 17 => ("SunCourtModel", "built", "[Z", true)
  | 18 => ("SunCourtModel", "gone", "[Z", true)
  | 19 => ("SunCourtModel", "windows", "I", false)
  | 20 => ("SunCourtModel", "side", "[I", true)
  | 21 => ("SunCourtModel", "at", "[I", true)
  | 22 => ("SunCourtModel", "u0", "[I", true)
  | 23 => ("SunCourtModel", "u1", "[I", true)
  | 24 => ("SunCourtModel", "z0", "[I", true)
  | 25 => ("SunCourtModel", "z1", "[I", true)
  | 26 => ("SunCourtModel", "right", "[I", true)
  | 27 => ("SunCourtModel", "released", "[Z", true)
  | 28 => ("SunCourtModel", "refused", "[I", true)
  | 29 => ("SunCourtModel", "thought", "I", false)
  | 30 => ("SunCourtModel", "thoughtTop", "I", false)
  | 31 => ("SunCourtModel", "lowTop", "I", false)
  | 32 => ("SunCourtModel", "lowUnder", "I", false)
  | 33 => ("SunCourtModel", "highTop", "I", false)
  | 34 => ("SunCourtModel", "highUnder", "I", false)
  | 35 => ("SunCourtModel", "isOut", "Z", false)
  | 36 => ("SunCourtModel", "pointX", "I", false)
  | 37 => ("SunCourtModel", "pointY", "I", false)
  | 38 => ("SunCourtModel", "pointZ", "I", false)
  | 39 => ("SunCourtModel", "toX", "I", false)
  | 40 => ("SunCourtModel", "toY", "I", false)
  | 41 => ("SunCourtModel", "toZ", "I", false)
  | _ => ("SunCourtModel", "asked", "[Z", true)
def tyX6 : Nat → FieldType := fun k => match k with
  | 0 => .array .int
  | 1 => .array .int
  | 2 => .array .int
  | 3 => .array .int
  | 4 => .array .int
  | 5 => .int
  | 6 => .int
  | 7 => .int
  | 8 => .array .int
  | 9 => .array .int
  | 10 => .array .int
  | 11 => .array .int
  | 12 => .array .int
  | 13 => .array .int
  | 14 => .array .int
  | 15 => .array .int
  | 16 => .array .int
  | 17 => .array .boolean
  | 18 => .array .boolean
  | 19 => .int
  | 20 => .array .int
  | 21 => .array .int
  | 22 => .array .int
  | 23 => .array .int
  | 24 => .array .int
  | 25 => .array .int
  | 26 => .array .int
  | 27 => .array .boolean
  | 28 => .array .int
  | 29 => .int
  | 30 => .int
  | 31 => .int
  | 32 => .int
  | 33 => .int
  | 34 => .int
  | 35 => .boolean
  | 36 => .int
  | 37 => .int
  | 38 => .int
  | 39 => .int
  | 40 => .int
  | 41 => .int
  | _ => .array .boolean
abbrev wsX60 : List Cond := u_ws RX6 TX6 43
theorem nmX6 : ∀ a, a < 43 → ∀ b, b < 43 → a ≠ b → (TX6 a).2.1 ≠ (TX6 b).2.1 := by decide +kernel
theorem tyX6_ok : ∀ k, k < 43 → parseFieldDescriptor (TX6 k).2.2.1 = some (tyX6 k) := by decide +kernel
abbrev cX6_init : ByteArray := prog_8_method_1_code
def yX6_init : MethodName := ⟨RX6, "<init>", "()V"⟩
abbrev cX6_in : ByteArray := prog_8_method_3_code
def yX6_in : MethodName := ⟨RX6, "in", "(III)Z"⟩
abbrev cX6_refuse : ByteArray := prog_8_method_4_code
def yX6_refuse : MethodName := ⟨RX6, "refuse", "(I)I"⟩
abbrev cX6_refuseBig : ByteArray := prog_8_method_5_code
def yX6_refuseBig : MethodName := ⟨RX6, "refuseBig", "(I)I"⟩
abbrev cX6_isBlock : ByteArray := prog_8_method_6_code
def yX6_isBlock : MethodName := ⟨RX6, "isBlock", "(I)Z"⟩
abbrev cX6_isWindow : ByteArray := prog_8_method_7_code
def yX6_isWindow : MethodName := ⟨RX6, "isWindow", "(I)Z"⟩
abbrev cX6_isDay : ByteArray := prog_8_method_8_code
def yX6_isDay : MethodName := ⟨RX6, "isDay", "(I)Z"⟩
abbrev cX6_isMinute : ByteArray := prog_8_method_9_code
def yX6_isMinute : MethodName := ⟨RX6, "isMinute", "(II)Z"⟩
abbrev cX6_cellsOf : ByteArray := prog_8_method_10_code
def yX6_cellsOf : MethodName := ⟨RX6, "cellsOf", "(I)I"⟩
abbrev cX6_minute : ByteArray := prog_8_method_11_code
def yX6_minute : MethodName := ⟨RX6, "minute", "(IIII)I"⟩
abbrev cX6_block : ByteArray := prog_8_method_12_code
def yX6_block : MethodName := ⟨RX6, "block", "(IIIIIII)I"⟩
abbrev cX6_share : ByteArray := prog_8_method_13_code
def yX6_share : MethodName := ⟨RX6, "share", "(III)I"⟩
abbrev cX6_most : ByteArray := prog_8_method_14_code
def yX6_most : MethodName := ⟨RX6, "most", "(II)I"⟩
abbrev cX6_cut : ByteArray := prog_8_method_15_code
def yX6_cut : MethodName := ⟨RX6, "cut", "(II)I"⟩
abbrev cX6_lackOfPlan : ByteArray := prog_8_method_16_code
def yX6_lackOfPlan : MethodName := ⟨RX6, "lackOfPlan", "(I)I"⟩
abbrev cX6_build : ByteArray := prog_8_method_17_code
def yX6_build : MethodName := ⟨RX6, "build", "(I)I"⟩
abbrev cX6_go : ByteArray := prog_8_method_18_code
def yX6_go : MethodName := ⟨RX6, "go", "(I)I"⟩
abbrev cX6_window : ByteArray := prog_8_method_19_code
def yX6_window : MethodName := ⟨RX6, "window", "(IIIIII)I"⟩
abbrev cX6_part : ByteArray := prog_8_method_20_code
def yX6_part : MethodName := ⟨RX6, "part", "(I)I"⟩
abbrev cX6_law : ByteArray := prog_8_method_21_code
def yX6_law : MethodName := ⟨RX6, "law", "(II)I"⟩
abbrev cX6_isThere : ByteArray := prog_8_method_22_code
def yX6_isThere : MethodName := ⟨RX6, "isThere", "(I)Z"⟩
abbrev cX6_topOf : ByteArray := prog_8_method_23_code
def yX6_topOf : MethodName := ⟨RX6, "topOf", "(I)I"⟩
abbrev cX6_show : ByteArray := prog_8_method_24_code
def yX6_show : MethodName := ⟨RX6, "show", "(III)V"⟩
abbrev cX6_isInFront : ByteArray := prog_8_method_25_code
def yX6_isInFront : MethodName := ⟨RX6, "isInFront", "(II)Z"⟩
abbrev cX6_bound : ByteArray := prog_8_method_26_code
def yX6_bound : MethodName := ⟨RX6, "bound", "(IIII)V"⟩
abbrev cX6_stands : ByteArray := prog_8_method_27_code
def yX6_stands : MethodName := ⟨RX6, "stands", "(I)Z"⟩
abbrev cX6_lightOf : ByteArray := prog_8_method_28_code
def yX6_lightOf : MethodName := ⟨RX6, "lightOf", "(IIII)I"⟩
abbrev cX6_sunOf : ByteArray := prog_8_method_29_code
def yX6_sunOf : MethodName := ⟨RX6, "sunOf", "(III)I"⟩
abbrev cX6_hoursOf : ByteArray := prog_8_method_30_code
def yX6_hoursOf : MethodName := ⟨RX6, "hoursOf", "(II)I"⟩
abbrev cX6_fallsOn : ByteArray := prog_8_method_31_code
def yX6_fallsOn : MethodName := ⟨RX6, "fallsOn", "(I)I"⟩
abbrev cX6_sun : ByteArray := prog_8_method_32_code
def yX6_sun : MethodName := ⟨RX6, "sun", "(III)I"⟩
abbrev cX6_light : ByteArray := prog_8_method_33_code
def yX6_light : MethodName := ⟨RX6, "light", "(IIII)I"⟩
abbrev cX6_takerOf : ByteArray := prog_8_method_34_code
def yX6_takerOf : MethodName := ⟨RX6, "takerOf", "(IIII)I"⟩
abbrev cX6_taker : ByteArray := prog_8_method_35_code
def yX6_taker : MethodName := ⟨RX6, "taker", "(IIII)I"⟩
abbrev cX6_takes : ByteArray := prog_8_method_36_code
def yX6_takes : MethodName := ⟨RX6, "takes", "(III)I"⟩
abbrev cX6_hours : ByteArray := prog_8_method_37_code
def yX6_hours : MethodName := ⟨RX6, "hours", "(II)I"⟩
abbrev cX6_think : ByteArray := prog_8_method_38_code
def yX6_think : MethodName := ⟨RX6, "think", "(II)V"⟩
abbrev cX6_loss : ByteArray := prog_8_method_39_code
def yX6_loss : MethodName := ⟨RX6, "loss", "(III)I"⟩
abbrev cX6_isKept : ByteArray := prog_8_method_40_code
def yX6_isKept : MethodName := ⟨RX6, "isKept", "(I)Z"⟩
abbrev cX6_ask : ByteArray := prog_8_method_41_code
def yX6_ask : MethodName := ⟨RX6, "ask", "()V"⟩
abbrev cX6_firstBreach : ByteArray := prog_8_method_42_code
def yX6_firstBreach : MethodName := ⟨RX6, "firstBreach", "(II)I"⟩
abbrev cX6_high : ByteArray := prog_8_method_43_code
def yX6_high : MethodName := ⟨RX6, "high", "(I)I"⟩
abbrev cX6_breach : ByteArray := prog_8_method_44_code
def yX6_breach : MethodName := ⟨RX6, "breach", "(II)I"⟩
abbrev cX6_years : ByteArray := prog_8_method_45_code
def yX6_years : MethodName := ⟨RX6, "years", "(I)I"⟩
abbrev cX6_release : ByteArray := prog_8_method_46_code
def yX6_release : MethodName := ⟨RX6, "release", "(I)Z"⟩
abbrev cX6_blockOf : ByteArray := prog_8_method_47_code
def yX6_blockOf : MethodName := ⟨RX6, "blockOf", "(II)I"⟩
abbrev cX6_windowOf : ByteArray := prog_8_method_48_code
def yX6_windowOf : MethodName := ⟨RX6, "windowOf", "(II)I"⟩
abbrev cX6_count : ByteArray := prog_8_method_49_code
def yX6_count : MethodName := ⟨RX6, "count", "(I)I"⟩
def RJ6 : String := "java/lang/Integer"
def TJ6 : u_T := fun k => match k with
  | _ => ("", "", "", false)
def tyJ6 : Nat → FieldType := fun k => match k with
  | _ => .int
abbrev wsJ60 : List Cond := u_ws RJ6 TJ6 0
theorem nmJ6 : ∀ a, a < 0 → ∀ b, b < 0 → a ≠ b → (TJ6 a).2.1 ≠ (TJ6 b).2.1 := by decide +kernel
theorem tyJ6_ok : ∀ k, k < 0 → parseFieldDescriptor (TJ6 k).2.2.1 = some (tyJ6 k) := by decide +kernel
abbrev cJ6_bitCount_0f7a4 : ByteArray := prog_9_method_49_code
def yJ6_bitCount_0f7a4 : MethodName := ⟨RJ6, "bitCount", "(I)I"⟩
def RJ9 : String := "java/lang/Math"
def TJ9 : u_T := fun k => match k with
  | _ => ("", "", "", false)
def tyJ9 : Nat → FieldType := fun k => match k with
  | _ => .int
abbrev wsJ90 : List Cond := u_ws RJ9 TJ9 0
theorem nmJ9 : ∀ a, a < 0 → ∀ b, b < 0 → a ≠ b → (TJ9 a).2.1 ≠ (TJ9 b).2.1 := by decide +kernel
theorem tyJ9_ok : ∀ k, k < 0 → parseFieldDescriptor (TJ9 k).2.2.1 = some (tyJ9 k) := by decide +kernel
abbrev cJ9_max_7cf53 : ByteArray := prog_10_method_65_code
def yJ9_max_7cf53 : MethodName := ⟨RJ9, "max", "(II)I"⟩
def RJ7 : String := "java/util/Arrays"
def TJ7 : u_T := fun k => match k with
  | _ => ("", "", "", false)
def tyJ7 : Nat → FieldType := fun k => match k with
  | _ => .int
abbrev wsJ70 : List Cond := u_ws RJ7 TJ7 0
theorem nmJ7 : ∀ a, a < 0 → ∀ b, b < 0 → a ≠ b → (TJ7 a).2.1 ≠ (TJ7 b).2.1 := by decide +kernel
theorem tyJ7_ok : ∀ k, k < 0 → parseFieldDescriptor (TJ7 k).2.2.1 = some (tyJ7 k) := by decide +kernel
abbrev cJ7_fill_53178 : ByteArray := prog_11_method_103_code
def yJ7_fill_53178 : MethodName := ⟨RJ7, "fill", "([II)V"⟩
def RL : String := "SunCourtLaw"
abbrev cL_law : ByteArray := code
def yL_law : MethodName := ⟨RL, "law", "([I)Z"⟩
abbrev vwCl : List vw_C := [(RX0, TX0, 5), (RX1, TX1, 8), (RX2, TX2, 4), (RX3, TX3, 2), (RX4, TX4, 10), (RX5, TX5, 10), (RX6, TX6, 43)]
/-- the words that every method's contract takes -/
def lw_big : List Cond := lw_tbl.filter goodWord
theorem big_of {w : Cond} (h : w ∈ lw_tbl) (g : goodWord w = true) : w ∈ lw_big := List.mem_filter.mpr ⟨h, g⟩
theorem big_s {w : Cond} {i : Nat} (h : (k2_sels lw_privs)[i]? = some w) (g : goodWord w = true) : w ∈ lw_big := big_of (List.mem_append_left _ (List.mem_of_getElem? h)) g
theorem big_t {w : Cond} (h : w ∈ tables_1) (g : goodWord w = true) : w ∈ lw_big := big_of (List.mem_append_right _ h) g
theorem big_1 {w : Cond} {i : Nat} (h : tables_1_1[i]? = some w) (g : goodWord w = true) : w ∈ lw_big := big_t (List.mem_append_left _ (List.mem_of_getElem? h)) g
theorem big_2 {w : Cond} {i : Nat} (h : tables_1_2[i]? = some w) (g : goodWord w = true) : w ∈ lw_big := big_t (List.mem_append_right _ (List.mem_append_left _ (List.mem_of_getElem? h))) g
theorem big_3 {w : Cond} {i : Nat} (h : tables_1_3[i]? = some w) (g : goodWord w = true) : w ∈ lw_big := big_t (List.mem_append_right _ (List.mem_append_right _ (List.mem_append_left _ (List.mem_of_getElem? h)))) g
theorem big_4 {w : Cond} {i : Nat} (h : tables_1_4[i]? = some w) (g : goodWord w = true) : w ∈ lw_big := big_t (List.mem_append_right _ (List.mem_append_right _ (List.mem_append_right _ (List.mem_of_getElem? h)))) g
theorem big_in : ∀ w ∈ lw_big, w ∈ lw_tbl := fun _ h => (List.mem_filter.mp h).1
theorem big_good {w : Cond} (h : w ∈ lw_big) : goodWord w = true := (List.mem_filter.mp h).2
theorem layX0_k : ∀ k, k < 5 → u_lay RX0 TX0 k ∈ lw_big := fun k hk => match k, hk with
  | 0, _ => big_1 (i := 133) rfl rfl
  | 1, _ => big_1 (i := 135) rfl rfl
  | 2, _ => big_1 (i := 137) rfl rfl
  | 3, _ => big_1 (i := 139) rfl rfl
  | 4, _ => big_1 (i := 141) rfl rfl
  | _ + 5, h => absurd h (by omega)
theorem inlX0 : ∀ w ∈ u_ws RX0 TX0 5, w ∈ lw_big := fun w h => by
  obtain ⟨k, hk, rfl⟩ := List.mem_map.mp h
  exact layX0_k k (List.mem_range.mp hk)
theorem layX1_k : ∀ k, k < 8 → u_lay RX1 TX1 k ∈ lw_big := fun k hk => match k, hk with
  | 0, _ => big_1 (i := 59) rfl rfl
  | 1, _ => big_1 (i := 61) rfl rfl
  | 2, _ => big_1 (i := 63) rfl rfl
  | 3, _ => big_1 (i := 65) rfl rfl
  | 4, _ => big_1 (i := 67) rfl rfl
  | 5, _ => big_1 (i := 69) rfl rfl
  | 6, _ => big_1 (i := 71) rfl rfl
  | 7, _ => big_1 (i := 73) rfl rfl
  | _ + 8, h => absurd h (by omega)
theorem inlX1 : ∀ w ∈ u_ws RX1 TX1 8, w ∈ lw_big := fun w h => by
  obtain ⟨k, hk, rfl⟩ := List.mem_map.mp h
  exact layX1_k k (List.mem_range.mp hk)
theorem layX2_k : ∀ k, k < 4 → u_lay RX2 TX2 k ∈ lw_big := fun k hk => match k, hk with
  | 0, _ => big_1 (i := 155) rfl rfl
  | 1, _ => big_1 (i := 157) rfl rfl
  | 2, _ => big_1 (i := 159) rfl rfl
  | 3, _ => big_1 (i := 161) rfl rfl
  | _ + 4, h => absurd h (by omega)
theorem inlX2 : ∀ w ∈ u_ws RX2 TX2 4, w ∈ lw_big := fun w h => by
  obtain ⟨k, hk, rfl⟩ := List.mem_map.mp h
  exact layX2_k k (List.mem_range.mp hk)
theorem layX3_k : ∀ k, k < 2 → u_lay RX3 TX3 k ∈ lw_big := fun k hk => match k, hk with
  | 0, _ => big_1 (i := 28) rfl rfl
  | 1, _ => big_1 (i := 30) rfl rfl
  | _ + 2, h => absurd h (by omega)
theorem inlX3 : ∀ w ∈ u_ws RX3 TX3 2, w ∈ lw_big := fun w h => by
  obtain ⟨k, hk, rfl⟩ := List.mem_map.mp h
  exact layX3_k k (List.mem_range.mp hk)
theorem layX4_k : ∀ k, k < 10 → u_lay RX4 TX4 k ∈ lw_big := fun k hk => match k, hk with
  | 0, _ => big_1 (i := 97) rfl rfl
  | 1, _ => big_1 (i := 99) rfl rfl
  | 2, _ => big_1 (i := 101) rfl rfl
  | 3, _ => big_1 (i := 103) rfl rfl
  | 4, _ => big_1 (i := 105) rfl rfl
  | 5, _ => big_1 (i := 107) rfl rfl
  | 6, _ => big_1 (i := 109) rfl rfl
  | 7, _ => big_1 (i := 111) rfl rfl
  | 8, _ => big_1 (i := 113) rfl rfl
  | 9, _ => big_1 (i := 115) rfl rfl
  | _ + 10, h => absurd h (by omega)
theorem inlX4 : ∀ w ∈ u_ws RX4 TX4 10, w ∈ lw_big := fun w h => by
  obtain ⟨k, hk, rfl⟩ := List.mem_map.mp h
  exact layX4_k k (List.mem_range.mp hk)
theorem layX5_k : ∀ k, k < 10 → u_lay RX5 TX5 k ∈ lw_big := fun k hk => match k, hk with
  | 0, _ => big_1 (i := 177) rfl rfl
  | 1, _ => big_1 (i := 179) rfl rfl
  | 2, _ => big_1 (i := 181) rfl rfl
  | 3, _ => big_1 (i := 183) rfl rfl
  | 4, _ => big_1 (i := 185) rfl rfl
  | 5, _ => big_1 (i := 187) rfl rfl
  | 6, _ => big_1 (i := 189) rfl rfl
  | 7, _ => big_1 (i := 191) rfl rfl
  | 8, _ => big_1 (i := 193) rfl rfl
  | 9, _ => big_1 (i := 195) rfl rfl
  | _ + 10, h => absurd h (by omega)
theorem inlX5 : ∀ w ∈ u_ws RX5 TX5 10, w ∈ lw_big := fun w h => by
  obtain ⟨k, hk, rfl⟩ := List.mem_map.mp h
  exact layX5_k k (List.mem_range.mp hk)
theorem layX6_k : ∀ k, k < 43 → u_lay RX6 TX6 k ∈ lw_big := fun k hk => match k, hk with
  | 0, _ => big_3 (i := 55) rfl rfl
  | 1, _ => big_3 (i := 57) rfl rfl
  | 2, _ => big_3 (i := 59) rfl rfl
  | 3, _ => big_3 (i := 61) rfl rfl
  | 4, _ => big_3 (i := 63) rfl rfl
  | 5, _ => big_3 (i := 65) rfl rfl
  | 6, _ => big_3 (i := 67) rfl rfl
  | 7, _ => big_3 (i := 69) rfl rfl
  | 8, _ => big_3 (i := 71) rfl rfl
  | 9, _ => big_3 (i := 73) rfl rfl
  | 10, _ => big_3 (i := 75) rfl rfl
  | 11, _ => big_3 (i := 77) rfl rfl
  | 12, _ => big_3 (i := 79) rfl rfl
  | 13, _ => big_3 (i := 81) rfl rfl
  | 14, _ => big_3 (i := 83) rfl rfl
  | 15, _ => big_3 (i := 85) rfl rfl
  | 16, _ => big_3 (i := 87) rfl rfl
  | 17, _ => big_3 (i := 89) rfl rfl
  | 18, _ => big_3 (i := 91) rfl rfl
  | 19, _ => big_3 (i := 93) rfl rfl
  | 20, _ => big_3 (i := 95) rfl rfl
  | 21, _ => big_3 (i := 97) rfl rfl
  | 22, _ => big_3 (i := 99) rfl rfl
  | 23, _ => big_3 (i := 101) rfl rfl
  | 24, _ => big_3 (i := 103) rfl rfl
  | 25, _ => big_3 (i := 105) rfl rfl
  | 26, _ => big_3 (i := 107) rfl rfl
  | 27, _ => big_3 (i := 109) rfl rfl
  | 28, _ => big_3 (i := 111) rfl rfl
  | 29, _ => big_3 (i := 113) rfl rfl
  | 30, _ => big_3 (i := 115) rfl rfl
  | 31, _ => big_3 (i := 117) rfl rfl
  | 32, _ => big_3 (i := 119) rfl rfl
  | 33, _ => big_3 (i := 121) rfl rfl
  | 34, _ => big_3 (i := 123) rfl rfl
  | 35, _ => big_3 (i := 125) rfl rfl
  | 36, _ => big_3 (i := 127) rfl rfl
  | 37, _ => big_3 (i := 129) rfl rfl
  | 38, _ => big_3 (i := 131) rfl rfl
  | 39, _ => big_3 (i := 133) rfl rfl
  | 40, _ => big_3 (i := 135) rfl rfl
  | 41, _ => big_3 (i := 137) rfl rfl
  | 42, _ => big_3 (i := 139) rfl rfl
  | _ + 43, h => absurd h (by omega)
theorem inlX6 : ∀ w ∈ u_ws RX6 TX6 43, w ∈ lw_big := fun w h => by
  obtain ⟨k, hk, rfl⟩ := List.mem_map.mp h
  exact layX6_k k (List.mem_range.mp hk)
end
section
theorem dX0_init_0 : decode cX0_init 0 = .ok (.aload_n 0, 1) := by decide +kernel
theorem dX0_init_1 : decode cX0_init 1 = .ok (.invokespecial 3, 3) := by decide +kernel
theorem dX0_init_4 : decode cX0_init 4 = .ok (.aload_n 0, 1) := by decide +kernel
theorem dX0_init_5 : decode cX0_init 5 = .ok (.iconst 3, 1) := by decide +kernel
theorem dX0_init_6 : decode cX0_init 6 = .ok (.newarray .int, 2) := by decide +kernel
theorem dX0_init_8 : decode cX0_init 8 = .ok (.putfield 9, 3) := by decide +kernel
theorem dX0_init_11 : decode cX0_init 11 = .ok (.aload_n 0, 1) := by decide +kernel
theorem dX0_init_12 : decode cX0_init 12 = .ok (.iconst 3, 1) := by decide +kernel
theorem dX0_init_13 : decode cX0_init 13 = .ok (.newarray .int, 2) := by decide +kernel
theorem dX0_init_15 : decode cX0_init 15 = .ok (.putfield 15, 3) := by decide +kernel
theorem dX0_init_18 : decode cX0_init 18 = .ok (.aload_n 0, 1) := by decide +kernel
theorem dX0_init_19 : decode cX0_init 19 = .ok (.iconst 3, 1) := by decide +kernel
theorem dX0_init_20 : decode cX0_init 20 = .ok (.newarray .int, 2) := by decide +kernel
theorem dX0_init_22 : decode cX0_init 22 = .ok (.putfield 18, 3) := by decide +kernel
theorem dX0_init_25 : decode cX0_init 25 = .ok (.aload_n 0, 1) := by decide +kernel
theorem dX0_init_26 : decode cX0_init 26 = .ok (.iconst 0, 1) := by decide +kernel
theorem dX0_init_27 : decode cX0_init 27 = .ok (.putfield 21, 3) := by decide +kernel
theorem dX0_init_30 : decode cX0_init 30 = .ok (.aload_n 0, 1) := by decide +kernel
theorem dX0_init_31 : decode cX0_init 31 = .ok (.iconst 1, 1) := by decide +kernel
theorem dX0_init_32 : decode cX0_init 32 = .ok (.putfield 25, 3) := by decide +kernel
theorem dX0_init_35 : decode cX0_init 35 = .ok (.return_, 1) := by decide +kernel
theorem dX0_startAt_0 : decode cX0_startAt 0 = .ok (.aload_n 0, 1) := by decide +kernel
theorem dX0_startAt_1 : decode cX0_startAt 1 = .ok (.getfield 15, 3) := by decide +kernel
theorem dX0_startAt_4 : decode cX0_startAt 4 = .ok (.iload_n 1, 1) := by decide +kernel
theorem dX0_startAt_5 : decode cX0_startAt 5 = .ok (.iload_n 2, 1) := by decide +kernel
theorem dX0_startAt_6 : decode cX0_startAt 6 = .ok (.iastore, 1) := by decide +kernel
theorem dX0_startAt_7 : decode cX0_startAt 7 = .ok (.aload_n 0, 1) := by decide +kernel
theorem dX0_startAt_8 : decode cX0_startAt 8 = .ok (.getfield 18, 3) := by decide +kernel
theorem dX0_startAt_11 : decode cX0_startAt 11 = .ok (.iload_n 1, 1) := by decide +kernel
theorem dX0_startAt_12 : decode cX0_startAt 12 = .ok (.iload_n 3, 1) := by decide +kernel
theorem dX0_startAt_13 : decode cX0_startAt 13 = .ok (.iastore, 1) := by decide +kernel
theorem dX0_startAt_14 : decode cX0_startAt 14 = .ok (.return_, 1) := by decide +kernel
theorem dX0_meets_0 : decode cX0_meets 0 = .ok (.aload_n 0, 1) := by decide +kernel
theorem dX0_meets_1 : decode cX0_meets 1 = .ok (.iconst 0, 1) := by decide +kernel
theorem dX0_meets_2 : decode cX0_meets 2 = .ok (.putfield 21, 3) := by decide +kernel
theorem dX0_meets_5 : decode cX0_meets 5 = .ok (.aload_n 0, 1) := by decide +kernel
theorem dX0_meets_6 : decode cX0_meets 6 = .ok (.iconst 1, 1) := by decide +kernel
theorem dX0_meets_7 : decode cX0_meets 7 = .ok (.putfield 25, 3) := by decide +kernel
theorem dX0_meets_10 : decode cX0_meets 10 = .ok (.iconst 1, 1) := by decide +kernel
theorem dX0_meets_11 : decode cX0_meets 11 = .ok (.istore 4, 2) := by decide +kernel
theorem dX0_meets_13 : decode cX0_meets 13 = .ok (.iconst 0, 1) := by decide +kernel
theorem dX0_meets_14 : decode cX0_meets 14 = .ok (.istore 5, 2) := by decide +kernel
theorem dX0_meets_16 : decode cX0_meets 16 = .ok (.iconst 0, 1) := by decide +kernel
theorem dX0_meets_17 : decode cX0_meets 17 = .ok (.istore 6, 2) := by decide +kernel
theorem dX0_meets_19 : decode cX0_meets 19 = .ok (.iload 6, 2) := by decide +kernel
theorem dX0_meets_21 : decode cX0_meets 21 = .ok (.iconst 3, 1) := by decide +kernel
theorem dX0_meets_22 : decode cX0_meets 22 = .ok (.if_icmp .ge 214, 3) := by decide +kernel
theorem dX0_meets_25 : decode cX0_meets 25 = .ok (.iconst 2, 1) := by decide +kernel
theorem dX0_meets_26 : decode cX0_meets 26 = .ok (.aload_n 1, 1) := by decide +kernel
theorem dX0_meets_27 : decode cX0_meets 27 = .ok (.getfield 28, 3) := by decide +kernel
theorem dX0_meets_30 : decode cX0_meets 30 = .ok (.iload_n 2, 1) := by decide +kernel
theorem dX0_meets_31 : decode cX0_meets 31 = .ok (.iconst 3, 1) := by decide +kernel
theorem dX0_meets_32 : decode cX0_meets 32 = .ok (.imul, 1) := by decide +kernel
theorem dX0_meets_33 : decode cX0_meets 33 = .ok (.iload 6, 2) := by decide +kernel
theorem dX0_meets_35 : decode cX0_meets 35 = .ok (.iadd, 1) := by decide +kernel
theorem dX0_meets_36 : decode cX0_meets 36 = .ok (.iaload, 1) := by decide +kernel
theorem dX0_meets_37 : decode cX0_meets 37 = .ok (.imul, 1) := by decide +kernel
theorem dX0_meets_38 : decode cX0_meets 38 = .ok (.istore 7, 2) := by decide +kernel
theorem dX0_meets_40 : decode cX0_meets 40 = .ok (.iconst 2, 1) := by decide +kernel
theorem dX0_meets_41 : decode cX0_meets 41 = .ok (.iload 6, 2) := by decide +kernel
theorem dX0_meets_43 : decode cX0_meets 43 = .ok (.iconst 2, 1) := by decide +kernel
theorem dX0_meets_44 : decode cX0_meets 44 = .ok (.if_icmp .ne 7, 3) := by decide +kernel
theorem dX0_meets_47 : decode cX0_meets 47 = .ok (.iload_n 3, 1) := by decide +kernel
theorem dX0_meets_48 : decode cX0_meets 48 = .ok (.goto 14, 3) := by decide +kernel
theorem dX0_meets_51 : decode cX0_meets 51 = .ok (.aload_n 1, 1) := by decide +kernel
theorem dX0_meets_52 : decode cX0_meets 52 = .ok (.getfield 33, 3) := by decide +kernel
theorem dX0_meets_55 : decode cX0_meets 55 = .ok (.iload_n 2, 1) := by decide +kernel
theorem dX0_meets_56 : decode cX0_meets 56 = .ok (.iconst 3, 1) := by decide +kernel
theorem dX0_meets_57 : decode cX0_meets 57 = .ok (.imul, 1) := by decide +kernel
theorem dX0_meets_58 : decode cX0_meets 58 = .ok (.iload 6, 2) := by decide +kernel
theorem dX0_meets_60 : decode cX0_meets 60 = .ok (.iadd, 1) := by decide +kernel
theorem dX0_meets_61 : decode cX0_meets 61 = .ok (.iaload, 1) := by decide +kernel
theorem dX0_meets_62 : decode cX0_meets 62 = .ok (.imul, 1) := by decide +kernel
theorem dX0_meets_63 : decode cX0_meets 63 = .ok (.istore 8, 2) := by decide +kernel
theorem dX0_meets_65 : decode cX0_meets 65 = .ok (.aload_n 0, 1) := by decide +kernel
theorem dX0_meets_66 : decode cX0_meets 66 = .ok (.getfield 9, 3) := by decide +kernel
theorem dX0_meets_69 : decode cX0_meets 69 = .ok (.iload 6, 2) := by decide +kernel
theorem dX0_meets_71 : decode cX0_meets 71 = .ok (.iaload, 1) := by decide +kernel
theorem dX0_meets_72 : decode cX0_meets 72 = .ok (.istore 9, 2) := by decide +kernel
theorem dX0_meets_74 : decode cX0_meets 74 = .ok (.iload 9, 2) := by decide +kernel
theorem dX0_meets_76 : decode cX0_meets 76 = .ok (.ifCond .ne 29, 3) := by decide +kernel
theorem dX0_meets_79 : decode cX0_meets 79 = .ok (.aload_n 0, 1) := by decide +kernel
theorem dX0_meets_80 : decode cX0_meets 80 = .ok (.getfield 18, 3) := by decide +kernel
theorem dX0_meets_83 : decode cX0_meets 83 = .ok (.iload 6, 2) := by decide +kernel
theorem dX0_meets_85 : decode cX0_meets 85 = .ok (.iaload, 1) := by decide +kernel
theorem dX0_meets_86 : decode cX0_meets 86 = .ok (.iload 7, 2) := by decide +kernel
theorem dX0_meets_88 : decode cX0_meets 88 = .ok (.if_icmp .le 15, 3) := by decide +kernel
theorem dX0_meets_91 : decode cX0_meets 91 = .ok (.aload_n 0, 1) := by decide +kernel
theorem dX0_meets_92 : decode cX0_meets 92 = .ok (.getfield 15, 3) := by decide +kernel
theorem dX0_meets_95 : decode cX0_meets 95 = .ok (.iload 6, 2) := by decide +kernel
theorem dX0_meets_97 : decode cX0_meets 97 = .ok (.iaload, 1) := by decide +kernel
theorem dX0_meets_98 : decode cX0_meets 98 = .ok (.iload 8, 2) := by decide +kernel
theorem dX0_meets_100 : decode cX0_meets 100 = .ok (.if_icmp .lt 130, 3) := by decide +kernel
theorem dX0_meets_103 : decode cX0_meets 103 = .ok (.iconst 0, 1) := by decide +kernel
theorem dX0_meets_104 : decode cX0_meets 104 = .ok (.ireturn, 1) := by decide +kernel
theorem dX0_meets_105 : decode cX0_meets 105 = .ok (.iload 9, 2) := by decide +kernel
theorem dX0_meets_107 : decode cX0_meets 107 = .ok (.ifCond .le 8, 3) := by decide +kernel
theorem dX0_meets_110 : decode cX0_meets 110 = .ok (.iload 9, 2) := by decide +kernel
theorem dX0_meets_112 : decode cX0_meets 112 = .ok (.goto 6, 3) := by decide +kernel
theorem dX0_meets_115 : decode cX0_meets 115 = .ok (.iload 9, 2) := by decide +kernel
theorem dX0_meets_117 : decode cX0_meets 117 = .ok (.ineg, 1) := by decide +kernel
theorem dX0_meets_118 : decode cX0_meets 118 = .ok (.istore 10, 2) := by decide +kernel
theorem dX0_meets_120 : decode cX0_meets 120 = .ok (.iload 9, 2) := by decide +kernel
theorem dX0_meets_122 : decode cX0_meets 122 = .ok (.ifCond .le 16, 3) := by decide +kernel
theorem dX0_meets_125 : decode cX0_meets 125 = .ok (.iload 7, 2) := by decide +kernel
theorem dX0_meets_127 : decode cX0_meets 127 = .ok (.aload_n 0, 1) := by decide +kernel
theorem dX0_meets_128 : decode cX0_meets 128 = .ok (.getfield 18, 3) := by decide +kernel
theorem dX0_meets_131 : decode cX0_meets 131 = .ok (.iload 6, 2) := by decide +kernel
theorem dX0_meets_133 : decode cX0_meets 133 = .ok (.iaload, 1) := by decide +kernel
theorem dX0_meets_134 : decode cX0_meets 134 = .ok (.isub, 1) := by decide +kernel
theorem dX0_meets_135 : decode cX0_meets 135 = .ok (.goto 13, 3) := by decide +kernel
theorem dX0_meets_138 : decode cX0_meets 138 = .ok (.aload_n 0, 1) := by decide +kernel
theorem dX0_meets_139 : decode cX0_meets 139 = .ok (.getfield 15, 3) := by decide +kernel
theorem dX0_meets_142 : decode cX0_meets 142 = .ok (.iload 6, 2) := by decide +kernel
theorem dX0_meets_144 : decode cX0_meets 144 = .ok (.iaload, 1) := by decide +kernel
theorem dX0_meets_145 : decode cX0_meets 145 = .ok (.iload 8, 2) := by decide +kernel
theorem dX0_meets_147 : decode cX0_meets 147 = .ok (.isub, 1) := by decide +kernel
theorem dX0_meets_148 : decode cX0_meets 148 = .ok (.istore 11, 2) := by decide +kernel
theorem dX0_meets_150 : decode cX0_meets 150 = .ok (.iload 9, 2) := by decide +kernel
theorem dX0_meets_152 : decode cX0_meets 152 = .ok (.ifCond .le 16, 3) := by decide +kernel
theorem dX0_meets_155 : decode cX0_meets 155 = .ok (.iload 8, 2) := by decide +kernel
theorem dX0_meets_157 : decode cX0_meets 157 = .ok (.aload_n 0, 1) := by decide +kernel
theorem dX0_meets_158 : decode cX0_meets 158 = .ok (.getfield 15, 3) := by decide +kernel
theorem dX0_meets_161 : decode cX0_meets 161 = .ok (.iload 6, 2) := by decide +kernel
theorem dX0_meets_163 : decode cX0_meets 163 = .ok (.iaload, 1) := by decide +kernel
theorem dX0_meets_164 : decode cX0_meets 164 = .ok (.isub, 1) := by decide +kernel
theorem dX0_meets_165 : decode cX0_meets 165 = .ok (.goto 13, 3) := by decide +kernel
theorem dX0_meets_168 : decode cX0_meets 168 = .ok (.aload_n 0, 1) := by decide +kernel
theorem dX0_meets_169 : decode cX0_meets 169 = .ok (.getfield 18, 3) := by decide +kernel
theorem dX0_meets_172 : decode cX0_meets 172 = .ok (.iload 6, 2) := by decide +kernel
theorem dX0_meets_174 : decode cX0_meets 174 = .ok (.iaload, 1) := by decide +kernel
theorem dX0_meets_175 : decode cX0_meets 175 = .ok (.iload 7, 2) := by decide +kernel
theorem dX0_meets_177 : decode cX0_meets 177 = .ok (.isub, 1) := by decide +kernel
theorem dX0_meets_178 : decode cX0_meets 178 = .ok (.istore 12, 2) := by decide +kernel
theorem dX0_meets_180 : decode cX0_meets 180 = .ok (.iload 11, 2) := by decide +kernel
theorem dX0_meets_182 : decode cX0_meets 182 = .ok (.aload_n 0, 1) := by decide +kernel
theorem dX0_meets_183 : decode cX0_meets 183 = .ok (.getfield 25, 3) := by decide +kernel
theorem dX0_meets_186 : decode cX0_meets 186 = .ok (.imul, 1) := by decide +kernel
theorem dX0_meets_187 : decode cX0_meets 187 = .ok (.aload_n 0, 1) := by decide +kernel
theorem dX0_meets_188 : decode cX0_meets 188 = .ok (.getfield 21, 3) := by decide +kernel
theorem dX0_meets_191 : decode cX0_meets 191 = .ok (.iload 10, 2) := by decide +kernel
theorem dX0_meets_193 : decode cX0_meets 193 = .ok (.imul, 1) := by decide +kernel
theorem dX0_meets_194 : decode cX0_meets 194 = .ok (.if_icmp .le 15, 3) := by decide +kernel
theorem dX0_meets_197 : decode cX0_meets 197 = .ok (.aload_n 0, 1) := by decide +kernel
theorem dX0_meets_198 : decode cX0_meets 198 = .ok (.iload 11, 2) := by decide +kernel
theorem dX0_meets_200 : decode cX0_meets 200 = .ok (.putfield 21, 3) := by decide +kernel
theorem dX0_meets_203 : decode cX0_meets 203 = .ok (.aload_n 0, 1) := by decide +kernel
theorem dX0_meets_204 : decode cX0_meets 204 = .ok (.iload 10, 2) := by decide +kernel
theorem dX0_meets_206 : decode cX0_meets 206 = .ok (.putfield 25, 3) := by decide +kernel
theorem dX0_meets_209 : decode cX0_meets 209 = .ok (.iload 12, 2) := by decide +kernel
theorem dX0_meets_211 : decode cX0_meets 211 = .ok (.iload 5, 2) := by decide +kernel
theorem dX0_meets_213 : decode cX0_meets 213 = .ok (.imul, 1) := by decide +kernel
theorem dX0_meets_214 : decode cX0_meets 214 = .ok (.iload 4, 2) := by decide +kernel
theorem dX0_meets_216 : decode cX0_meets 216 = .ok (.iload 10, 2) := by decide +kernel
theorem dX0_meets_218 : decode cX0_meets 218 = .ok (.imul, 1) := by decide +kernel
theorem dX0_meets_219 : decode cX0_meets 219 = .ok (.if_icmp .ge 11, 3) := by decide +kernel
theorem dX0_meets_222 : decode cX0_meets 222 = .ok (.iload 12, 2) := by decide +kernel
theorem dX0_meets_224 : decode cX0_meets 224 = .ok (.istore 4, 2) := by decide +kernel
theorem dX0_meets_226 : decode cX0_meets 226 = .ok (.iload 10, 2) := by decide +kernel
theorem dX0_meets_228 : decode cX0_meets 228 = .ok (.istore 5, 2) := by decide +kernel
theorem dX0_meets_230 : decode cX0_meets 230 = .ok (.iinc 6 1, 3) := by decide +kernel
theorem dX0_meets_233 : decode cX0_meets 233 = .ok (.goto (-214), 3) := by decide +kernel
theorem dX0_meets_236 : decode cX0_meets 236 = .ok (.aload_n 0, 1) := by decide +kernel
theorem dX0_meets_237 : decode cX0_meets 237 = .ok (.getfield 21, 3) := by decide +kernel
theorem dX0_meets_240 : decode cX0_meets 240 = .ok (.iload 5, 2) := by decide +kernel
theorem dX0_meets_242 : decode cX0_meets 242 = .ok (.imul, 1) := by decide +kernel
theorem dX0_meets_243 : decode cX0_meets 243 = .ok (.iload 4, 2) := by decide +kernel
theorem dX0_meets_245 : decode cX0_meets 245 = .ok (.aload_n 0, 1) := by decide +kernel
theorem dX0_meets_246 : decode cX0_meets 246 = .ok (.getfield 25, 3) := by decide +kernel
theorem dX0_meets_249 : decode cX0_meets 249 = .ok (.imul, 1) := by decide +kernel
theorem dX0_meets_250 : decode cX0_meets 250 = .ok (.if_icmp .ge 7, 3) := by decide +kernel
theorem dX0_meets_253 : decode cX0_meets 253 = .ok (.iconst 1, 1) := by decide +kernel
theorem dX0_meets_254 : decode cX0_meets 254 = .ok (.goto 4, 3) := by decide +kernel
theorem dX0_meets_257 : decode cX0_meets 257 = .ok (.iconst 0, 1) := by decide +kernel
theorem dX0_meets_258 : decode cX0_meets 258 = .ok (.ireturn, 1) := by decide +kernel
theorem dX1_init_0 : decode cX1_init 0 = .ok (.aload_n 0, 1) := by decide +kernel
theorem dX1_init_1 : decode cX1_init 1 = .ok (.invokespecial 3, 3) := by decide +kernel
theorem dX1_init_4 : decode cX1_init 4 = .ok (.aload_n 0, 1) := by decide +kernel
theorem dX1_init_5 : decode cX1_init 5 = .ok (.iconst 0, 1) := by decide +kernel
theorem dX1_init_6 : decode cX1_init 6 = .ok (.putfield 9, 3) := by decide +kernel
theorem dX1_init_9 : decode cX1_init 9 = .ok (.aload_n 0, 1) := by decide +kernel
theorem dX1_init_10 : decode cX1_init 10 = .ok (.bipush 40, 2) := by decide +kernel
theorem dX1_init_12 : decode cX1_init 12 = .ok (.newarray .int, 2) := by decide +kernel
theorem dX1_init_14 : decode cX1_init 14 = .ok (.putfield 15, 3) := by decide +kernel
theorem dX1_init_17 : decode cX1_init 17 = .ok (.aload_n 0, 1) := by decide +kernel
theorem dX1_init_18 : decode cX1_init 18 = .ok (.bipush 120, 2) := by decide +kernel
theorem dX1_init_20 : decode cX1_init 20 = .ok (.newarray .int, 2) := by decide +kernel
theorem dX1_init_22 : decode cX1_init 22 = .ok (.putfield 19, 3) := by decide +kernel
theorem dX1_init_25 : decode cX1_init 25 = .ok (.aload_n 0, 1) := by decide +kernel
theorem dX1_init_26 : decode cX1_init 26 = .ok (.bipush 120, 2) := by decide +kernel
theorem dX1_init_28 : decode cX1_init 28 = .ok (.newarray .int, 2) := by decide +kernel
theorem dX1_init_30 : decode cX1_init 30 = .ok (.putfield 22, 3) := by decide +kernel
theorem dX1_init_33 : decode cX1_init 33 = .ok (.aload_n 0, 1) := by decide +kernel
theorem dX1_init_34 : decode cX1_init 34 = .ok (.bipush 40, 2) := by decide +kernel
theorem dX1_init_36 : decode cX1_init 36 = .ok (.newarray .int, 2) := by decide +kernel
theorem dX1_init_38 : decode cX1_init 38 = .ok (.putfield 25, 3) := by decide +kernel
theorem dX1_init_41 : decode cX1_init 41 = .ok (.aload_n 0, 1) := by decide +kernel
theorem dX1_init_42 : decode cX1_init 42 = .ok (.sipush 320, 3) := by decide +kernel
theorem dX1_init_45 : decode cX1_init 45 = .ok (.newarray .int, 2) := by decide +kernel
theorem dX1_init_47 : decode cX1_init 47 = .ok (.putfield 28, 3) := by decide +kernel
theorem dX1_init_50 : decode cX1_init 50 = .ok (.aload_n 0, 1) := by decide +kernel
theorem dX1_init_51 : decode cX1_init 51 = .ok (.bipush 40, 2) := by decide +kernel
theorem dX1_init_53 : decode cX1_init 53 = .ok (.newarray .boolean, 2) := by decide +kernel
theorem dX1_init_55 : decode cX1_init 55 = .ok (.putfield 31, 3) := by decide +kernel
theorem dX1_init_58 : decode cX1_init 58 = .ok (.aload_n 0, 1) := by decide +kernel
theorem dX1_init_59 : decode cX1_init 59 = .ok (.bipush 40, 2) := by decide +kernel
theorem dX1_init_61 : decode cX1_init 61 = .ok (.newarray .boolean, 2) := by decide +kernel
theorem dX1_init_63 : decode cX1_init 63 = .ok (.putfield 35, 3) := by decide +kernel
theorem dX1_init_66 : decode cX1_init 66 = .ok (.return_, 1) := by decide +kernel
theorem dX1_has_0 : decode cX1_has 0 = .ok (.iload_n 1, 1) := by decide +kernel
theorem dX1_has_1 : decode cX1_has 1 = .ok (.ifCond .lt 15, 3) := by decide +kernel
theorem dX1_has_4 : decode cX1_has 4 = .ok (.iload_n 1, 1) := by decide +kernel
theorem dX1_has_5 : decode cX1_has 5 = .ok (.aload_n 0, 1) := by decide +kernel
theorem dX1_has_6 : decode cX1_has 6 = .ok (.getfield 9, 3) := by decide +kernel
theorem dX1_has_9 : decode cX1_has 9 = .ok (.if_icmp .ge 7, 3) := by decide +kernel
theorem dX1_has_12 : decode cX1_has 12 = .ok (.iconst 1, 1) := by decide +kernel
theorem dX1_has_13 : decode cX1_has 13 = .ok (.goto 4, 3) := by decide +kernel
theorem dX1_has_16 : decode cX1_has 16 = .ok (.iconst 0, 1) := by decide +kernel
theorem dX1_has_17 : decode cX1_has 17 = .ok (.ireturn, 1) := by decide +kernel
theorem dX1_isFull_0 : decode cX1_isFull 0 = .ok (.aload_n 0, 1) := by decide +kernel
theorem dX1_isFull_1 : decode cX1_isFull 1 = .ok (.getfield 9, 3) := by decide +kernel
theorem dX1_isFull_4 : decode cX1_isFull 4 = .ok (.bipush 40, 2) := by decide +kernel
theorem dX1_isFull_6 : decode cX1_isFull 6 = .ok (.if_icmp .lt 7, 3) := by decide +kernel
theorem dX1_isFull_9 : decode cX1_isFull 9 = .ok (.iconst 1, 1) := by decide +kernel
theorem dX1_isFull_10 : decode cX1_isFull 10 = .ok (.goto 4, 3) := by decide +kernel
theorem dX1_isFull_13 : decode cX1_isFull 13 = .ok (.iconst 0, 1) := by decide +kernel
theorem dX1_isFull_14 : decode cX1_isFull 14 = .ok (.ireturn, 1) := by decide +kernel
theorem dX1_add_0 : decode cX1_add 0 = .ok (.aload_n 0, 1) := by decide +kernel
theorem dX1_add_1 : decode cX1_add 1 = .ok (.getfield 9, 3) := by decide +kernel
theorem dX1_add_4 : decode cX1_add 4 = .ok (.istore 8, 2) := by decide +kernel
theorem dX1_add_6 : decode cX1_add 6 = .ok (.aload_n 0, 1) := by decide +kernel
theorem dX1_add_7 : decode cX1_add 7 = .ok (.getfield 15, 3) := by decide +kernel
theorem dX1_add_10 : decode cX1_add 10 = .ok (.iload 8, 2) := by decide +kernel
theorem dX1_add_12 : decode cX1_add 12 = .ok (.iload_n 1, 1) := by decide +kernel
theorem dX1_add_13 : decode cX1_add 13 = .ok (.iastore, 1) := by decide +kernel
theorem dX1_add_14 : decode cX1_add 14 = .ok (.aload_n 0, 1) := by decide +kernel
theorem dX1_add_15 : decode cX1_add 15 = .ok (.getfield 19, 3) := by decide +kernel
theorem dX1_add_18 : decode cX1_add 18 = .ok (.iload 8, 2) := by decide +kernel
theorem dX1_add_20 : decode cX1_add 20 = .ok (.iconst 3, 1) := by decide +kernel
theorem dX1_add_21 : decode cX1_add 21 = .ok (.imul, 1) := by decide +kernel
theorem dX1_add_22 : decode cX1_add 22 = .ok (.iconst 0, 1) := by decide +kernel
theorem dX1_add_23 : decode cX1_add 23 = .ok (.iadd, 1) := by decide +kernel
theorem dX1_add_24 : decode cX1_add 24 = .ok (.iload_n 2, 1) := by decide +kernel
theorem dX1_add_25 : decode cX1_add 25 = .ok (.iastore, 1) := by decide +kernel
theorem dX1_add_26 : decode cX1_add 26 = .ok (.aload_n 0, 1) := by decide +kernel
theorem dX1_add_27 : decode cX1_add 27 = .ok (.getfield 22, 3) := by decide +kernel
theorem dX1_add_30 : decode cX1_add 30 = .ok (.iload 8, 2) := by decide +kernel
theorem dX1_add_32 : decode cX1_add 32 = .ok (.iconst 3, 1) := by decide +kernel
theorem dX1_add_33 : decode cX1_add 33 = .ok (.imul, 1) := by decide +kernel
theorem dX1_add_34 : decode cX1_add 34 = .ok (.iconst 0, 1) := by decide +kernel
theorem dX1_add_35 : decode cX1_add 35 = .ok (.iadd, 1) := by decide +kernel
theorem dX1_add_36 : decode cX1_add 36 = .ok (.iload_n 3, 1) := by decide +kernel
theorem dX1_add_37 : decode cX1_add 37 = .ok (.iastore, 1) := by decide +kernel
theorem dX1_add_38 : decode cX1_add 38 = .ok (.aload_n 0, 1) := by decide +kernel
theorem dX1_add_39 : decode cX1_add 39 = .ok (.getfield 19, 3) := by decide +kernel
theorem dX1_add_42 : decode cX1_add 42 = .ok (.iload 8, 2) := by decide +kernel
theorem dX1_add_44 : decode cX1_add 44 = .ok (.iconst 3, 1) := by decide +kernel
theorem dX1_add_45 : decode cX1_add 45 = .ok (.imul, 1) := by decide +kernel
theorem dX1_add_46 : decode cX1_add 46 = .ok (.iconst 1, 1) := by decide +kernel
theorem dX1_add_47 : decode cX1_add 47 = .ok (.iadd, 1) := by decide +kernel
theorem dX1_add_48 : decode cX1_add 48 = .ok (.iload 4, 2) := by decide +kernel
theorem dX1_add_50 : decode cX1_add 50 = .ok (.iastore, 1) := by decide +kernel
theorem dX1_add_51 : decode cX1_add 51 = .ok (.aload_n 0, 1) := by decide +kernel
theorem dX1_add_52 : decode cX1_add 52 = .ok (.getfield 22, 3) := by decide +kernel
theorem dX1_add_55 : decode cX1_add 55 = .ok (.iload 8, 2) := by decide +kernel
theorem dX1_add_57 : decode cX1_add 57 = .ok (.iconst 3, 1) := by decide +kernel
theorem dX1_add_58 : decode cX1_add 58 = .ok (.imul, 1) := by decide +kernel
theorem dX1_add_59 : decode cX1_add 59 = .ok (.iconst 1, 1) := by decide +kernel
theorem dX1_add_60 : decode cX1_add 60 = .ok (.iadd, 1) := by decide +kernel
theorem dX1_add_61 : decode cX1_add 61 = .ok (.iload 5, 2) := by decide +kernel
theorem dX1_add_63 : decode cX1_add 63 = .ok (.iastore, 1) := by decide +kernel
theorem dX1_add_64 : decode cX1_add 64 = .ok (.aload_n 0, 1) := by decide +kernel
theorem dX1_add_65 : decode cX1_add 65 = .ok (.getfield 19, 3) := by decide +kernel
theorem dX1_add_68 : decode cX1_add 68 = .ok (.iload 8, 2) := by decide +kernel
theorem dX1_add_70 : decode cX1_add 70 = .ok (.iconst 3, 1) := by decide +kernel
theorem dX1_add_71 : decode cX1_add 71 = .ok (.imul, 1) := by decide +kernel
theorem dX1_add_72 : decode cX1_add 72 = .ok (.iconst 2, 1) := by decide +kernel
theorem dX1_add_73 : decode cX1_add 73 = .ok (.iadd, 1) := by decide +kernel
theorem dX1_add_74 : decode cX1_add 74 = .ok (.iload 6, 2) := by decide +kernel
theorem dX1_add_76 : decode cX1_add 76 = .ok (.iastore, 1) := by decide +kernel
theorem dX1_add_77 : decode cX1_add 77 = .ok (.aload_n 0, 1) := by decide +kernel
theorem dX1_add_78 : decode cX1_add 78 = .ok (.getfield 22, 3) := by decide +kernel
theorem dX1_add_81 : decode cX1_add 81 = .ok (.iload 8, 2) := by decide +kernel
theorem dX1_add_83 : decode cX1_add 83 = .ok (.iconst 3, 1) := by decide +kernel
theorem dX1_add_84 : decode cX1_add 84 = .ok (.imul, 1) := by decide +kernel
theorem dX1_add_85 : decode cX1_add 85 = .ok (.iconst 2, 1) := by decide +kernel
theorem dX1_add_86 : decode cX1_add 86 = .ok (.iadd, 1) := by decide +kernel
theorem dX1_add_87 : decode cX1_add 87 = .ok (.iload 7, 2) := by decide +kernel
theorem dX1_add_89 : decode cX1_add 89 = .ok (.iastore, 1) := by decide +kernel
theorem dX1_add_90 : decode cX1_add 90 = .ok (.aload_n 0, 1) := by decide +kernel
theorem dX1_add_91 : decode cX1_add 91 = .ok (.getfield 25, 3) := by decide +kernel
theorem dX1_add_94 : decode cX1_add 94 = .ok (.iload 8, 2) := by decide +kernel
theorem dX1_add_96 : decode cX1_add 96 = .ok (.sipush 200, 3) := by decide +kernel
theorem dX1_add_99 : decode cX1_add 99 = .ok (.iastore, 1) := by decide +kernel
theorem dX1_add_100 : decode cX1_add 100 = .ok (.aload_n 0, 1) := by decide +kernel
theorem dX1_add_101 : decode cX1_add 101 = .ok (.getfield 31, 3) := by decide +kernel
theorem dX1_add_104 : decode cX1_add 104 = .ok (.iload 8, 2) := by decide +kernel
theorem dX1_add_106 : decode cX1_add 106 = .ok (.iload_n 1, 1) := by decide +kernel
theorem dX1_add_107 : decode cX1_add 107 = .ok (.iconst 3, 1) := by decide +kernel
theorem dX1_add_108 : decode cX1_add 108 = .ok (.if_icmp .eq 7, 3) := by decide +kernel
theorem dX1_add_111 : decode cX1_add 111 = .ok (.iconst 1, 1) := by decide +kernel
theorem dX1_add_112 : decode cX1_add 112 = .ok (.goto 4, 3) := by decide +kernel
theorem dX1_add_115 : decode cX1_add 115 = .ok (.iconst 0, 1) := by decide +kernel
theorem dX1_add_116 : decode cX1_add 116 = .ok (.bastore, 1) := by decide +kernel
theorem dX1_add_117 : decode cX1_add 117 = .ok (.iconst 0, 1) := by decide +kernel
theorem dX1_add_118 : decode cX1_add 118 = .ok (.istore 9, 2) := by decide +kernel
theorem dX1_add_120 : decode cX1_add 120 = .ok (.iload 9, 2) := by decide +kernel
theorem dX1_add_122 : decode cX1_add 122 = .ok (.bipush 8, 2) := by decide +kernel
theorem dX1_add_124 : decode cX1_add 124 = .ok (.if_icmp .ge 33, 3) := by decide +kernel
theorem dX1_add_127 : decode cX1_add 127 = .ok (.aload_n 0, 1) := by decide +kernel
theorem dX1_add_128 : decode cX1_add 128 = .ok (.getfield 28, 3) := by decide +kernel
theorem dX1_add_131 : decode cX1_add 131 = .ok (.iload 8, 2) := by decide +kernel
theorem dX1_add_133 : decode cX1_add 133 = .ok (.bipush 8, 2) := by decide +kernel
theorem dX1_add_135 : decode cX1_add 135 = .ok (.imul, 1) := by decide +kernel
theorem dX1_add_136 : decode cX1_add 136 = .ok (.iload 9, 2) := by decide +kernel
theorem dX1_add_138 : decode cX1_add 138 = .ok (.iadd, 1) := by decide +kernel
theorem dX1_add_139 : decode cX1_add 139 = .ok (.iload_n 1, 1) := by decide +kernel
theorem dX1_add_140 : decode cX1_add 140 = .ok (.iconst 2, 1) := by decide +kernel
theorem dX1_add_141 : decode cX1_add 141 = .ok (.if_icmp .ne 8, 3) := by decide +kernel
theorem dX1_add_144 : decode cX1_add 144 = .ok (.bipush 8, 2) := by decide +kernel
theorem dX1_add_146 : decode cX1_add 146 = .ok (.goto 4, 3) := by decide +kernel
theorem dX1_add_149 : decode cX1_add 149 = .ok (.iconst 0, 1) := by decide +kernel
theorem dX1_add_150 : decode cX1_add 150 = .ok (.iastore, 1) := by decide +kernel
theorem dX1_add_151 : decode cX1_add 151 = .ok (.iinc 9 1, 3) := by decide +kernel
theorem dX1_add_154 : decode cX1_add 154 = .ok (.goto (-34), 3) := by decide +kernel
theorem dX1_add_157 : decode cX1_add 157 = .ok (.aload_n 0, 1) := by decide +kernel
theorem dX1_add_158 : decode cX1_add 158 = .ok (.iload 8, 2) := by decide +kernel
theorem dX1_add_160 : decode cX1_add 160 = .ok (.iconst 1, 1) := by decide +kernel
theorem dX1_add_161 : decode cX1_add 161 = .ok (.iadd, 1) := by decide +kernel
theorem dX1_add_162 : decode cX1_add 162 = .ok (.putfield 9, 3) := by decide +kernel
theorem dX1_add_165 : decode cX1_add 165 = .ok (.iload 8, 2) := by decide +kernel
theorem dX1_add_167 : decode cX1_add 167 = .ok (.ireturn, 1) := by decide +kernel
theorem dX1_footOf_0 : decode cX1_footOf 0 = .ok (.aload_n 0, 1) := by decide +kernel
theorem dX1_footOf_1 : decode cX1_footOf 1 = .ok (.getfield 19, 3) := by decide +kernel
theorem dX1_footOf_4 : decode cX1_footOf 4 = .ok (.iload_n 1, 1) := by decide +kernel
theorem dX1_footOf_5 : decode cX1_footOf 5 = .ok (.iconst 3, 1) := by decide +kernel
theorem dX1_footOf_6 : decode cX1_footOf 6 = .ok (.imul, 1) := by decide +kernel
theorem dX1_footOf_7 : decode cX1_footOf 7 = .ok (.iconst 2, 1) := by decide +kernel
theorem dX1_footOf_8 : decode cX1_footOf 8 = .ok (.iadd, 1) := by decide +kernel
theorem dX1_footOf_9 : decode cX1_footOf 9 = .ok (.iaload, 1) := by decide +kernel
theorem dX1_footOf_10 : decode cX1_footOf 10 = .ok (.ireturn, 1) := by decide +kernel
theorem dX1_topOf_0 : decode cX1_topOf 0 = .ok (.aload_n 0, 1) := by decide +kernel
theorem dX1_topOf_1 : decode cX1_topOf 1 = .ok (.getfield 22, 3) := by decide +kernel
theorem dX1_topOf_4 : decode cX1_topOf 4 = .ok (.iload_n 1, 1) := by decide +kernel
theorem dX1_topOf_5 : decode cX1_topOf 5 = .ok (.iconst 3, 1) := by decide +kernel
theorem dX1_topOf_6 : decode cX1_topOf 6 = .ok (.imul, 1) := by decide +kernel
theorem dX1_topOf_7 : decode cX1_topOf 7 = .ok (.iconst 2, 1) := by decide +kernel
theorem dX1_topOf_8 : decode cX1_topOf 8 = .ok (.iadd, 1) := by decide +kernel
theorem dX1_topOf_9 : decode cX1_topOf 9 = .ok (.iaload, 1) := by decide +kernel
theorem dX1_topOf_10 : decode cX1_topOf 10 = .ok (.ireturn, 1) := by decide +kernel
theorem dX1_setTop_0 : decode cX1_setTop 0 = .ok (.aload_n 0, 1) := by decide +kernel
theorem dX1_setTop_1 : decode cX1_setTop 1 = .ok (.getfield 22, 3) := by decide +kernel
theorem dX1_setTop_4 : decode cX1_setTop 4 = .ok (.iload_n 1, 1) := by decide +kernel
theorem dX1_setTop_5 : decode cX1_setTop 5 = .ok (.iconst 3, 1) := by decide +kernel
theorem dX1_setTop_6 : decode cX1_setTop 6 = .ok (.imul, 1) := by decide +kernel
theorem dX1_setTop_7 : decode cX1_setTop 7 = .ok (.iconst 2, 1) := by decide +kernel
theorem dX1_setTop_8 : decode cX1_setTop 8 = .ok (.iadd, 1) := by decide +kernel
theorem dX1_setTop_9 : decode cX1_setTop 9 = .ok (.iload_n 2, 1) := by decide +kernel
theorem dX1_setTop_10 : decode cX1_setTop 10 = .ok (.iastore, 1) := by decide +kernel
theorem dX1_setTop_11 : decode cX1_setTop 11 = .ok (.return_, 1) := by decide +kernel
theorem dX1_treeFault_0 : decode cX1_treeFault 0 = .ok (.aload_n 0, 1) := by decide +kernel
theorem dX1_treeFault_1 : decode cX1_treeFault 1 = .ok (.iload_n 1, 1) := by decide +kernel
theorem dX1_treeFault_2 : decode cX1_treeFault 2 = .ok (.invokevirtual 38, 3) := by decide +kernel
theorem dX1_treeFault_5 : decode cX1_treeFault 5 = .ok (.ifCond .ne 5, 3) := by decide +kernel
theorem dX1_treeFault_8 : decode cX1_treeFault 8 = .ok (.iconst (-1), 1) := by decide +kernel
theorem dX1_treeFault_9 : decode cX1_treeFault 9 = .ok (.ireturn, 1) := by decide +kernel
theorem dX1_treeFault_10 : decode cX1_treeFault 10 = .ok (.aload_n 0, 1) := by decide +kernel
theorem dX1_treeFault_11 : decode cX1_treeFault 11 = .ok (.getfield 15, 3) := by decide +kernel
theorem dX1_treeFault_14 : decode cX1_treeFault 14 = .ok (.iload_n 1, 1) := by decide +kernel
theorem dX1_treeFault_15 : decode cX1_treeFault 15 = .ok (.iaload, 1) := by decide +kernel
theorem dX1_treeFault_16 : decode cX1_treeFault 16 = .ok (.iconst 1, 1) := by decide +kernel
theorem dX1_treeFault_17 : decode cX1_treeFault 17 = .ok (.if_icmp .ne 7, 3) := by decide +kernel
theorem dX1_treeFault_20 : decode cX1_treeFault 20 = .ok (.iconst 0, 1) := by decide +kernel
theorem dX1_treeFault_21 : decode cX1_treeFault 21 = .ok (.goto 5, 3) := by decide +kernel
theorem dX1_treeFault_24 : decode cX1_treeFault 24 = .ok (.bipush (-2), 2) := by decide +kernel
theorem dX1_treeFault_26 : decode cX1_treeFault 26 = .ok (.ireturn, 1) := by decide +kernel
theorem dX1_planFault_0 : decode cX1_planFault 0 = .ok (.aload_n 0, 1) := by decide +kernel
theorem dX1_planFault_1 : decode cX1_planFault 1 = .ok (.iload_n 1, 1) := by decide +kernel
theorem dX1_planFault_2 : decode cX1_planFault 2 = .ok (.invokevirtual 38, 3) := by decide +kernel
theorem dX1_planFault_5 : decode cX1_planFault 5 = .ok (.ifCond .ne 5, 3) := by decide +kernel
theorem dX1_planFault_8 : decode cX1_planFault 8 = .ok (.iconst (-1), 1) := by decide +kernel
theorem dX1_planFault_9 : decode cX1_planFault 9 = .ok (.ireturn, 1) := by decide +kernel
theorem dX1_planFault_10 : decode cX1_planFault 10 = .ok (.aload_n 0, 1) := by decide +kernel
theorem dX1_planFault_11 : decode cX1_planFault 11 = .ok (.getfield 15, 3) := by decide +kernel
theorem dX1_planFault_14 : decode cX1_planFault 14 = .ok (.iload_n 1, 1) := by decide +kernel
theorem dX1_planFault_15 : decode cX1_planFault 15 = .ok (.iaload, 1) := by decide +kernel
theorem dX1_planFault_16 : decode cX1_planFault 16 = .ok (.iconst 3, 1) := by decide +kernel
theorem dX1_planFault_17 : decode cX1_planFault 17 = .ok (.if_icmp .eq 6, 3) := by decide +kernel
theorem dX1_planFault_20 : decode cX1_planFault 20 = .ok (.bipush (-2), 2) := by decide +kernel
theorem dX1_planFault_22 : decode cX1_planFault 22 = .ok (.ireturn, 1) := by decide +kernel
theorem dX1_planFault_23 : decode cX1_planFault 23 = .ok (.aload_n 0, 1) := by decide +kernel
theorem dX1_planFault_24 : decode cX1_planFault 24 = .ok (.getfield 35, 3) := by decide +kernel
theorem dX1_planFault_27 : decode cX1_planFault 27 = .ok (.iload_n 1, 1) := by decide +kernel
theorem dX1_planFault_28 : decode cX1_planFault 28 = .ok (.baload, 1) := by decide +kernel
theorem dX1_planFault_29 : decode cX1_planFault 29 = .ok (.ifCond .ne 12, 3) := by decide +kernel
theorem dX1_planFault_32 : decode cX1_planFault 32 = .ok (.aload_n 0, 1) := by decide +kernel
theorem dX1_planFault_33 : decode cX1_planFault 33 = .ok (.getfield 31, 3) := by decide +kernel
theorem dX1_planFault_36 : decode cX1_planFault 36 = .ok (.iload_n 1, 1) := by decide +kernel
theorem dX1_planFault_37 : decode cX1_planFault 37 = .ok (.baload, 1) := by decide +kernel
theorem dX1_planFault_38 : decode cX1_planFault 38 = .ok (.ifCond .eq 8, 3) := by decide +kernel
theorem dX1_planFault_41 : decode cX1_planFault 41 = .ok (.bipush (-3), 2) := by decide +kernel
theorem dX1_planFault_43 : decode cX1_planFault 43 = .ok (.goto 4, 3) := by decide +kernel
theorem dX1_planFault_46 : decode cX1_planFault 46 = .ok (.iconst 0, 1) := by decide +kernel
theorem dX1_planFault_47 : decode cX1_planFault 47 = .ok (.ireturn, 1) := by decide +kernel
theorem dX1_growTrees_0 : decode cX1_growTrees 0 = .ok (.iconst 0, 1) := by decide +kernel
theorem dX1_growTrees_1 : decode cX1_growTrees 1 = .ok (.istore_n 1, 1) := by decide +kernel
theorem dX1_growTrees_2 : decode cX1_growTrees 2 = .ok (.iconst 0, 1) := by decide +kernel
theorem dX1_growTrees_3 : decode cX1_growTrees 3 = .ok (.istore_n 2, 1) := by decide +kernel
theorem dX1_growTrees_4 : decode cX1_growTrees 4 = .ok (.iload_n 2, 1) := by decide +kernel
theorem dX1_growTrees_5 : decode cX1_growTrees 5 = .ok (.aload_n 0, 1) := by decide +kernel
theorem dX1_growTrees_6 : decode cX1_growTrees 6 = .ok (.getfield 9, 3) := by decide +kernel
theorem dX1_growTrees_9 : decode cX1_growTrees 9 = .ok (.if_icmp .ge 47, 3) := by decide +kernel
theorem dX1_growTrees_12 : decode cX1_growTrees 12 = .ok (.aload_n 0, 1) := by decide +kernel
theorem dX1_growTrees_13 : decode cX1_growTrees 13 = .ok (.getfield 15, 3) := by decide +kernel
theorem dX1_growTrees_16 : decode cX1_growTrees 16 = .ok (.iload_n 2, 1) := by decide +kernel
theorem dX1_growTrees_17 : decode cX1_growTrees 17 = .ok (.iaload, 1) := by decide +kernel
theorem dX1_growTrees_18 : decode cX1_growTrees 18 = .ok (.iconst 1, 1) := by decide +kernel
theorem dX1_growTrees_19 : decode cX1_growTrees 19 = .ok (.if_icmp .ne 31, 3) := by decide +kernel
theorem dX1_growTrees_22 : decode cX1_growTrees 22 = .ok (.aload_n 0, 1) := by decide +kernel
theorem dX1_growTrees_23 : decode cX1_growTrees 23 = .ok (.iload_n 2, 1) := by decide +kernel
theorem dX1_growTrees_24 : decode cX1_growTrees 24 = .ok (.invokevirtual 42, 3) := by decide +kernel
theorem dX1_growTrees_27 : decode cX1_growTrees 27 = .ok (.aload_n 0, 1) := by decide +kernel
theorem dX1_growTrees_28 : decode cX1_growTrees 28 = .ok (.getfield 25, 3) := by decide +kernel
theorem dX1_growTrees_31 : decode cX1_growTrees 31 = .ok (.iload_n 2, 1) := by decide +kernel
theorem dX1_growTrees_32 : decode cX1_growTrees 32 = .ok (.iaload, 1) := by decide +kernel
theorem dX1_growTrees_33 : decode cX1_growTrees 33 = .ok (.if_icmp .ge 17, 3) := by decide +kernel
theorem dX1_growTrees_36 : decode cX1_growTrees 36 = .ok (.aload_n 0, 1) := by decide +kernel
theorem dX1_growTrees_37 : decode cX1_growTrees 37 = .ok (.iload_n 2, 1) := by decide +kernel
theorem dX1_growTrees_38 : decode cX1_growTrees 38 = .ok (.aload_n 0, 1) := by decide +kernel
theorem dX1_growTrees_39 : decode cX1_growTrees 39 = .ok (.iload_n 2, 1) := by decide +kernel
theorem dX1_growTrees_40 : decode cX1_growTrees 40 = .ok (.invokevirtual 42, 3) := by decide +kernel
theorem dX1_growTrees_43 : decode cX1_growTrees 43 = .ok (.iconst 1, 1) := by decide +kernel
theorem dX1_growTrees_44 : decode cX1_growTrees 44 = .ok (.iadd, 1) := by decide +kernel
theorem dX1_growTrees_45 : decode cX1_growTrees 45 = .ok (.invokevirtual 46, 3) := by decide +kernel
theorem dX1_growTrees_48 : decode cX1_growTrees 48 = .ok (.iconst 1, 1) := by decide +kernel
theorem dX1_growTrees_49 : decode cX1_growTrees 49 = .ok (.istore_n 1, 1) := by decide +kernel
theorem dX1_growTrees_50 : decode cX1_growTrees 50 = .ok (.iinc 2 1, 3) := by decide +kernel
theorem dX1_growTrees_53 : decode cX1_growTrees 53 = .ok (.goto (-49), 3) := by decide +kernel
theorem dX1_growTrees_56 : decode cX1_growTrees 56 = .ok (.iload_n 1, 1) := by decide +kernel
theorem dX1_growTrees_57 : decode cX1_growTrees 57 = .ok (.ireturn, 1) := by decide +kernel
theorem dX2_init_0 : decode cX2_init 0 = .ok (.aload_n 0, 1) := by decide +kernel
theorem dX2_init_1 : decode cX2_init 1 = .ok (.invokespecial 3, 3) := by decide +kernel
theorem dX2_init_4 : decode cX2_init 4 = .ok (.aload_n 0, 1) := by decide +kernel
theorem dX2_init_5 : decode cX2_init 5 = .ok (.iconst 0, 1) := by decide +kernel
theorem dX2_init_6 : decode cX2_init 6 = .ok (.putfield 9, 3) := by decide +kernel
theorem dX2_init_9 : decode cX2_init 9 = .ok (.aload_n 0, 1) := by decide +kernel
theorem dX2_init_10 : decode cX2_init 10 = .ok (.bipush 40, 2) := by decide +kernel
theorem dX2_init_12 : decode cX2_init 12 = .ok (.newarray .int, 2) := by decide +kernel
theorem dX2_init_14 : decode cX2_init 14 = .ok (.putfield 15, 3) := by decide +kernel
theorem dX2_init_17 : decode cX2_init 17 = .ok (.aload_n 0, 1) := by decide +kernel
theorem dX2_init_18 : decode cX2_init 18 = .ok (.bipush 40, 2) := by decide +kernel
theorem dX2_init_20 : decode cX2_init 20 = .ok (.newarray .int, 2) := by decide +kernel
theorem dX2_init_22 : decode cX2_init 22 = .ok (.putfield 19, 3) := by decide +kernel
theorem dX2_init_25 : decode cX2_init 25 = .ok (.aload_n 0, 1) := by decide +kernel
theorem dX2_init_26 : decode cX2_init 26 = .ok (.bipush 40, 2) := by decide +kernel
theorem dX2_init_28 : decode cX2_init 28 = .ok (.newarray .int, 2) := by decide +kernel
theorem dX2_init_30 : decode cX2_init 30 = .ok (.putfield 22, 3) := by decide +kernel
theorem dX2_init_33 : decode cX2_init 33 = .ok (.return_, 1) := by decide +kernel
theorem dX2_gather_0 : decode cX2_gather 0 = .ok (.aload_n 0, 1) := by decide +kernel
theorem dX2_gather_1 : decode cX2_gather 1 = .ok (.iconst 0, 1) := by decide +kernel
theorem dX2_gather_2 : decode cX2_gather 2 = .ok (.putfield 9, 3) := by decide +kernel
theorem dX2_gather_5 : decode cX2_gather 5 = .ok (.iconst 0, 1) := by decide +kernel
theorem dX2_gather_6 : decode cX2_gather 6 = .ok (.istore 6, 2) := by decide +kernel
theorem dX2_gather_8 : decode cX2_gather 8 = .ok (.iload 6, 2) := by decide +kernel
theorem dX2_gather_10 : decode cX2_gather 10 = .ok (.aload_n 1, 1) := by decide +kernel
theorem dX2_gather_11 : decode cX2_gather 11 = .ok (.getfield 25, 3) := by decide +kernel
theorem dX2_gather_14 : decode cX2_gather 14 = .ok (.if_icmp .ge 144, 3) := by decide +kernel
theorem dX2_gather_17 : decode cX2_gather 17 = .ok (.iload 6, 2) := by decide +kernel
theorem dX2_gather_19 : decode cX2_gather 19 = .ok (.iload 4, 2) := by decide +kernel
theorem dX2_gather_21 : decode cX2_gather 21 = .ok (.if_icmp .ne 7, 3) := by decide +kernel
theorem dX2_gather_24 : decode cX2_gather 24 = .ok (.iconst 1, 1) := by decide +kernel
theorem dX2_gather_25 : decode cX2_gather 25 = .ok (.goto 4, 3) := by decide +kernel
theorem dX2_gather_28 : decode cX2_gather 28 = .ok (.iconst 0, 1) := by decide +kernel
theorem dX2_gather_29 : decode cX2_gather 29 = .ok (.istore 7, 2) := by decide +kernel
theorem dX2_gather_31 : decode cX2_gather 31 = .ok (.aload_n 1, 1) := by decide +kernel
theorem dX2_gather_32 : decode cX2_gather 32 = .ok (.getfield 28, 3) := by decide +kernel
theorem dX2_gather_35 : decode cX2_gather 35 = .ok (.iload 6, 2) := by decide +kernel
theorem dX2_gather_37 : decode cX2_gather 37 = .ok (.bipush 8, 2) := by decide +kernel
theorem dX2_gather_39 : decode cX2_gather 39 = .ok (.imul, 1) := by decide +kernel
theorem dX2_gather_40 : decode cX2_gather 40 = .ok (.iload_n 3, 1) := by decide +kernel
theorem dX2_gather_41 : decode cX2_gather 41 = .ok (.iadd, 1) := by decide +kernel
theorem dX2_gather_42 : decode cX2_gather 42 = .ok (.iaload, 1) := by decide +kernel
theorem dX2_gather_43 : decode cX2_gather 43 = .ok (.istore 8, 2) := by decide +kernel
theorem dX2_gather_45 : decode cX2_gather 45 = .ok (.iload 7, 2) := by decide +kernel
theorem dX2_gather_47 : decode cX2_gather 47 = .ok (.ifCond .eq 8, 3) := by decide +kernel
theorem dX2_gather_50 : decode cX2_gather 50 = .ok (.iload 5, 2) := by decide +kernel
theorem dX2_gather_52 : decode cX2_gather 52 = .ok (.goto 9, 3) := by decide +kernel
theorem dX2_gather_55 : decode cX2_gather 55 = .ok (.aload_n 1, 1) := by decide +kernel
theorem dX2_gather_56 : decode cX2_gather 56 = .ok (.iload 6, 2) := by decide +kernel
theorem dX2_gather_58 : decode cX2_gather 58 = .ok (.invokevirtual 31, 3) := by decide +kernel
theorem dX2_gather_61 : decode cX2_gather 61 = .ok (.istore 9, 2) := by decide +kernel
theorem dX2_gather_63 : decode cX2_gather 63 = .ok (.iload 7, 2) := by decide +kernel
theorem dX2_gather_65 : decode cX2_gather 65 = .ok (.ifCond .ne 13, 3) := by decide +kernel
theorem dX2_gather_68 : decode cX2_gather 68 = .ok (.aload_n 1, 1) := by decide +kernel
theorem dX2_gather_69 : decode cX2_gather 69 = .ok (.getfield 35, 3) := by decide +kernel
theorem dX2_gather_72 : decode cX2_gather 72 = .ok (.iload 6, 2) := by decide +kernel
theorem dX2_gather_74 : decode cX2_gather 74 = .ok (.baload, 1) := by decide +kernel
theorem dX2_gather_75 : decode cX2_gather 75 = .ok (.ifCond .eq 14, 3) := by decide +kernel
theorem dX2_gather_78 : decode cX2_gather 78 = .ok (.iload 8, 2) := by decide +kernel
theorem dX2_gather_80 : decode cX2_gather 80 = .ok (.bipush 8, 2) := by decide +kernel
theorem dX2_gather_82 : decode cX2_gather 82 = .ok (.if_icmp .ge 7, 3) := by decide +kernel
theorem dX2_gather_85 : decode cX2_gather 85 = .ok (.iconst 1, 1) := by decide +kernel
theorem dX2_gather_86 : decode cX2_gather 86 = .ok (.goto 4, 3) := by decide +kernel
theorem dX2_gather_89 : decode cX2_gather 89 = .ok (.iconst 0, 1) := by decide +kernel
theorem dX2_gather_90 : decode cX2_gather 90 = .ok (.istore 10, 2) := by decide +kernel
theorem dX2_gather_92 : decode cX2_gather 92 = .ok (.iload 10, 2) := by decide +kernel
theorem dX2_gather_94 : decode cX2_gather 94 = .ok (.ifCond .eq 58, 3) := by decide +kernel
theorem dX2_gather_97 : decode cX2_gather 97 = .ok (.aload_n 2, 1) := by decide +kernel
theorem dX2_gather_98 : decode cX2_gather 98 = .ok (.aload_n 1, 1) := by decide +kernel
theorem dX2_gather_99 : decode cX2_gather 99 = .ok (.iload 6, 2) := by decide +kernel
theorem dX2_gather_101 : decode cX2_gather 101 = .ok (.iload 9, 2) := by decide +kernel
theorem dX2_gather_103 : decode cX2_gather 103 = .ok (.invokevirtual 39, 3) := by decide +kernel
theorem dX2_gather_106 : decode cX2_gather 106 = .ok (.ifCond .eq 46, 3) := by decide +kernel
theorem dX2_gather_109 : decode cX2_gather 109 = .ok (.aload_n 0, 1) := by decide +kernel
theorem dX2_gather_110 : decode cX2_gather 110 = .ok (.getfield 15, 3) := by decide +kernel
theorem dX2_gather_113 : decode cX2_gather 113 = .ok (.aload_n 0, 1) := by decide +kernel
theorem dX2_gather_114 : decode cX2_gather 114 = .ok (.getfield 9, 3) := by decide +kernel
theorem dX2_gather_117 : decode cX2_gather 117 = .ok (.iload 6, 2) := by decide +kernel
theorem dX2_gather_119 : decode cX2_gather 119 = .ok (.iastore, 1) := by decide +kernel
theorem dX2_gather_120 : decode cX2_gather 120 = .ok (.aload_n 0, 1) := by decide +kernel
theorem dX2_gather_121 : decode cX2_gather 121 = .ok (.getfield 19, 3) := by decide +kernel
theorem dX2_gather_124 : decode cX2_gather 124 = .ok (.aload_n 0, 1) := by decide +kernel
theorem dX2_gather_125 : decode cX2_gather 125 = .ok (.getfield 9, 3) := by decide +kernel
theorem dX2_gather_128 : decode cX2_gather 128 = .ok (.iload 9, 2) := by decide +kernel
theorem dX2_gather_130 : decode cX2_gather 130 = .ok (.iastore, 1) := by decide +kernel
theorem dX2_gather_131 : decode cX2_gather 131 = .ok (.aload_n 0, 1) := by decide +kernel
theorem dX2_gather_132 : decode cX2_gather 132 = .ok (.getfield 22, 3) := by decide +kernel
theorem dX2_gather_135 : decode cX2_gather 135 = .ok (.aload_n 0, 1) := by decide +kernel
theorem dX2_gather_136 : decode cX2_gather 136 = .ok (.getfield 9, 3) := by decide +kernel
theorem dX2_gather_139 : decode cX2_gather 139 = .ok (.iload 8, 2) := by decide +kernel
theorem dX2_gather_141 : decode cX2_gather 141 = .ok (.iastore, 1) := by decide +kernel
theorem dX2_gather_142 : decode cX2_gather 142 = .ok (.aload_n 0, 1) := by decide +kernel
theorem dX2_gather_143 : decode cX2_gather 143 = .ok (.dup, 1) := by decide +kernel
theorem dX2_gather_144 : decode cX2_gather 144 = .ok (.getfield 9, 3) := by decide +kernel
theorem dX2_gather_147 : decode cX2_gather 147 = .ok (.iconst 1, 1) := by decide +kernel
theorem dX2_gather_148 : decode cX2_gather 148 = .ok (.iadd, 1) := by decide +kernel
theorem dX2_gather_149 : decode cX2_gather 149 = .ok (.putfield 9, 3) := by decide +kernel
theorem dX2_gather_152 : decode cX2_gather 152 = .ok (.iinc 6 1, 3) := by decide +kernel
theorem dX2_gather_155 : decode cX2_gather 155 = .ok (.goto (-147), 3) := by decide +kernel
theorem dX2_gather_158 : decode cX2_gather 158 = .ok (.return_, 1) := by decide +kernel
theorem dX2_lightAlong_0 : decode cX2_lightAlong 0 = .ok (.sipush 4096, 3) := by decide +kernel
theorem dX2_lightAlong_3 : decode cX2_lightAlong 3 = .ok (.istore_n 3, 1) := by decide +kernel
theorem dX2_lightAlong_4 : decode cX2_lightAlong 4 = .ok (.iconst 0, 1) := by decide +kernel
theorem dX2_lightAlong_5 : decode cX2_lightAlong 5 = .ok (.istore 4, 2) := by decide +kernel
theorem dX2_lightAlong_7 : decode cX2_lightAlong 7 = .ok (.iload 4, 2) := by decide +kernel
theorem dX2_lightAlong_9 : decode cX2_lightAlong 9 = .ok (.aload_n 0, 1) := by decide +kernel
theorem dX2_lightAlong_10 : decode cX2_lightAlong 10 = .ok (.getfield 9, 3) := by decide +kernel
theorem dX2_lightAlong_13 : decode cX2_lightAlong 13 = .ok (.if_icmp .ge 48, 3) := by decide +kernel
theorem dX2_lightAlong_16 : decode cX2_lightAlong 16 = .ok (.iload_n 3, 1) := by decide +kernel
theorem dX2_lightAlong_17 : decode cX2_lightAlong 17 = .ok (.ifCond .le 44, 3) := by decide +kernel
theorem dX2_lightAlong_20 : decode cX2_lightAlong 20 = .ok (.aload_n 2, 1) := by decide +kernel
theorem dX2_lightAlong_21 : decode cX2_lightAlong 21 = .ok (.aload_n 1, 1) := by decide +kernel
theorem dX2_lightAlong_22 : decode cX2_lightAlong 22 = .ok (.aload_n 0, 1) := by decide +kernel
theorem dX2_lightAlong_23 : decode cX2_lightAlong 23 = .ok (.getfield 15, 3) := by decide +kernel
theorem dX2_lightAlong_26 : decode cX2_lightAlong 26 = .ok (.iload 4, 2) := by decide +kernel
theorem dX2_lightAlong_28 : decode cX2_lightAlong 28 = .ok (.iaload, 1) := by decide +kernel
theorem dX2_lightAlong_29 : decode cX2_lightAlong 29 = .ok (.aload_n 0, 1) := by decide +kernel
theorem dX2_lightAlong_30 : decode cX2_lightAlong 30 = .ok (.getfield 19, 3) := by decide +kernel
theorem dX2_lightAlong_33 : decode cX2_lightAlong 33 = .ok (.iload 4, 2) := by decide +kernel
theorem dX2_lightAlong_35 : decode cX2_lightAlong 35 = .ok (.iaload, 1) := by decide +kernel
theorem dX2_lightAlong_36 : decode cX2_lightAlong 36 = .ok (.invokevirtual 39, 3) := by decide +kernel
theorem dX2_lightAlong_39 : decode cX2_lightAlong 39 = .ok (.ifCond .eq 16, 3) := by decide +kernel
theorem dX2_lightAlong_42 : decode cX2_lightAlong 42 = .ok (.iload_n 3, 1) := by decide +kernel
theorem dX2_lightAlong_43 : decode cX2_lightAlong 43 = .ok (.aload_n 0, 1) := by decide +kernel
theorem dX2_lightAlong_44 : decode cX2_lightAlong 44 = .ok (.getfield 22, 3) := by decide +kernel
theorem dX2_lightAlong_47 : decode cX2_lightAlong 47 = .ok (.iload 4, 2) := by decide +kernel
theorem dX2_lightAlong_49 : decode cX2_lightAlong 49 = .ok (.iaload, 1) := by decide +kernel
theorem dX2_lightAlong_50 : decode cX2_lightAlong 50 = .ok (.imul, 1) := by decide +kernel
theorem dX2_lightAlong_51 : decode cX2_lightAlong 51 = .ok (.bipush 8, 2) := by decide +kernel
theorem dX2_lightAlong_53 : decode cX2_lightAlong 53 = .ok (.idiv, 1) := by decide +kernel
theorem dX2_lightAlong_54 : decode cX2_lightAlong 54 = .ok (.istore_n 3, 1) := by decide +kernel
theorem dX2_lightAlong_55 : decode cX2_lightAlong 55 = .ok (.iinc 4 1, 3) := by decide +kernel
theorem dX2_lightAlong_58 : decode cX2_lightAlong 58 = .ok (.goto (-51), 3) := by decide +kernel
theorem dX2_lightAlong_61 : decode cX2_lightAlong 61 = .ok (.iload_n 3, 1) := by decide +kernel
theorem dX2_lightAlong_62 : decode cX2_lightAlong 62 = .ok (.ireturn, 1) := by decide +kernel
theorem dX2_nearestAlong_0 : decode cX2_nearestAlong 0 = .ok (.bipush (-9), 2) := by decide +kernel
theorem dX2_nearestAlong_2 : decode cX2_nearestAlong 2 = .ok (.istore_n 3, 1) := by decide +kernel
theorem dX2_nearestAlong_3 : decode cX2_nearestAlong 3 = .ok (.iconst 0, 1) := by decide +kernel
theorem dX2_nearestAlong_4 : decode cX2_nearestAlong 4 = .ok (.istore 4, 2) := by decide +kernel
theorem dX2_nearestAlong_6 : decode cX2_nearestAlong 6 = .ok (.iconst 1, 1) := by decide +kernel
theorem dX2_nearestAlong_7 : decode cX2_nearestAlong 7 = .ok (.istore 5, 2) := by decide +kernel
theorem dX2_nearestAlong_9 : decode cX2_nearestAlong 9 = .ok (.iconst 0, 1) := by decide +kernel
theorem dX2_nearestAlong_10 : decode cX2_nearestAlong 10 = .ok (.istore 6, 2) := by decide +kernel
theorem dX2_nearestAlong_12 : decode cX2_nearestAlong 12 = .ok (.iload 6, 2) := by decide +kernel
theorem dX2_nearestAlong_14 : decode cX2_nearestAlong 14 = .ok (.aload_n 0, 1) := by decide +kernel
theorem dX2_nearestAlong_15 : decode cX2_nearestAlong 15 = .ok (.getfield 9, 3) := by decide +kernel
theorem dX2_nearestAlong_18 : decode cX2_nearestAlong 18 = .ok (.if_icmp .ge 74, 3) := by decide +kernel
theorem dX2_nearestAlong_21 : decode cX2_nearestAlong 21 = .ok (.aload_n 2, 1) := by decide +kernel
theorem dX2_nearestAlong_22 : decode cX2_nearestAlong 22 = .ok (.aload_n 1, 1) := by decide +kernel
theorem dX2_nearestAlong_23 : decode cX2_nearestAlong 23 = .ok (.aload_n 0, 1) := by decide +kernel
theorem dX2_nearestAlong_24 : decode cX2_nearestAlong 24 = .ok (.getfield 15, 3) := by decide +kernel
theorem dX2_nearestAlong_27 : decode cX2_nearestAlong 27 = .ok (.iload 6, 2) := by decide +kernel
theorem dX2_nearestAlong_29 : decode cX2_nearestAlong 29 = .ok (.iaload, 1) := by decide +kernel
theorem dX2_nearestAlong_30 : decode cX2_nearestAlong 30 = .ok (.aload_n 0, 1) := by decide +kernel
theorem dX2_nearestAlong_31 : decode cX2_nearestAlong 31 = .ok (.getfield 19, 3) := by decide +kernel
theorem dX2_nearestAlong_34 : decode cX2_nearestAlong 34 = .ok (.iload 6, 2) := by decide +kernel
theorem dX2_nearestAlong_36 : decode cX2_nearestAlong 36 = .ok (.iaload, 1) := by decide +kernel
theorem dX2_nearestAlong_37 : decode cX2_nearestAlong 37 = .ok (.invokevirtual 39, 3) := by decide +kernel
theorem dX2_nearestAlong_40 : decode cX2_nearestAlong 40 = .ok (.ifCond .eq 46, 3) := by decide +kernel
theorem dX2_nearestAlong_43 : decode cX2_nearestAlong 43 = .ok (.iload_n 3, 1) := by decide +kernel
theorem dX2_nearestAlong_44 : decode cX2_nearestAlong 44 = .ok (.bipush (-9), 2) := by decide +kernel
theorem dX2_nearestAlong_46 : decode cX2_nearestAlong 46 = .ok (.if_icmp .eq 20, 3) := by decide +kernel
theorem dX2_nearestAlong_49 : decode cX2_nearestAlong 49 = .ok (.aload_n 2, 1) := by decide +kernel
theorem dX2_nearestAlong_50 : decode cX2_nearestAlong 50 = .ok (.getfield 45, 3) := by decide +kernel
theorem dX2_nearestAlong_53 : decode cX2_nearestAlong 53 = .ok (.iload 5, 2) := by decide +kernel
theorem dX2_nearestAlong_55 : decode cX2_nearestAlong 55 = .ok (.imul, 1) := by decide +kernel
theorem dX2_nearestAlong_56 : decode cX2_nearestAlong 56 = .ok (.iload 4, 2) := by decide +kernel
theorem dX2_nearestAlong_58 : decode cX2_nearestAlong 58 = .ok (.aload_n 2, 1) := by decide +kernel
theorem dX2_nearestAlong_59 : decode cX2_nearestAlong 59 = .ok (.getfield 48, 3) := by decide +kernel
theorem dX2_nearestAlong_62 : decode cX2_nearestAlong 62 = .ok (.imul, 1) := by decide +kernel
theorem dX2_nearestAlong_63 : decode cX2_nearestAlong 63 = .ok (.if_icmp .ge 23, 3) := by decide +kernel
theorem dX2_nearestAlong_66 : decode cX2_nearestAlong 66 = .ok (.aload_n 0, 1) := by decide +kernel
theorem dX2_nearestAlong_67 : decode cX2_nearestAlong 67 = .ok (.getfield 15, 3) := by decide +kernel
theorem dX2_nearestAlong_70 : decode cX2_nearestAlong 70 = .ok (.iload 6, 2) := by decide +kernel
theorem dX2_nearestAlong_72 : decode cX2_nearestAlong 72 = .ok (.iaload, 1) := by decide +kernel
theorem dX2_nearestAlong_73 : decode cX2_nearestAlong 73 = .ok (.istore_n 3, 1) := by decide +kernel
theorem dX2_nearestAlong_74 : decode cX2_nearestAlong 74 = .ok (.aload_n 2, 1) := by decide +kernel
theorem dX2_nearestAlong_75 : decode cX2_nearestAlong 75 = .ok (.getfield 45, 3) := by decide +kernel
theorem dX2_nearestAlong_78 : decode cX2_nearestAlong 78 = .ok (.istore 4, 2) := by decide +kernel
theorem dX2_nearestAlong_80 : decode cX2_nearestAlong 80 = .ok (.aload_n 2, 1) := by decide +kernel
theorem dX2_nearestAlong_81 : decode cX2_nearestAlong 81 = .ok (.getfield 48, 3) := by decide +kernel
theorem dX2_nearestAlong_84 : decode cX2_nearestAlong 84 = .ok (.istore 5, 2) := by decide +kernel
theorem dX2_nearestAlong_86 : decode cX2_nearestAlong 86 = .ok (.iinc 6 1, 3) := by decide +kernel
theorem dX2_nearestAlong_89 : decode cX2_nearestAlong 89 = .ok (.goto (-77), 3) := by decide +kernel
theorem dX2_nearestAlong_92 : decode cX2_nearestAlong 92 = .ok (.iload_n 3, 1) := by decide +kernel
theorem dX2_nearestAlong_93 : decode cX2_nearestAlong 93 = .ok (.ireturn, 1) := by decide +kernel
theorem dX3_init_0 : decode cX3_init 0 = .ok (.aload_n 0, 1) := by decide +kernel
theorem dX3_init_1 : decode cX3_init 1 = .ok (.invokespecial 3, 3) := by decide +kernel
theorem dX3_init_4 : decode cX3_init 4 = .ok (.aload_n 0, 1) := by decide +kernel
theorem dX3_init_5 : decode cX3_init 5 = .ok (.bipush 8, 2) := by decide +kernel
theorem dX3_init_7 : decode cX3_init 7 = .ok (.newarray .int, 2) := by decide +kernel
theorem dX3_init_9 : decode cX3_init 9 = .ok (.putfield 9, 3) := by decide +kernel
theorem dX3_init_12 : decode cX3_init 12 = .ok (.aload_n 0, 1) := by decide +kernel
theorem dX3_init_13 : decode cX3_init 13 = .ok (.sipush 576, 3) := by decide +kernel
theorem dX3_init_16 : decode cX3_init 16 = .ok (.newarray .int, 2) := by decide +kernel
theorem dX3_init_18 : decode cX3_init 18 = .ok (.putfield 15, 3) := by decide +kernel
theorem dX3_init_21 : decode cX3_init 21 = .ok (.return_, 1) := by decide +kernel
theorem dX3_has_0 : decode cX3_has 0 = .ok (.iload_n 1, 1) := by decide +kernel
theorem dX3_has_1 : decode cX3_has 1 = .ok (.invokestatic 18, 3) := by decide +kernel
theorem dX3_has_4 : decode cX3_has 4 = .ok (.ifCond .eq 21, 3) := by decide +kernel
theorem dX3_has_7 : decode cX3_has 7 = .ok (.iload_n 2, 1) := by decide +kernel
theorem dX3_has_8 : decode cX3_has 8 = .ok (.ifCond .lt 17, 3) := by decide +kernel
theorem dX3_has_11 : decode cX3_has 11 = .ok (.iload_n 2, 1) := by decide +kernel
theorem dX3_has_12 : decode cX3_has 12 = .ok (.aload_n 0, 1) := by decide +kernel
theorem dX3_has_13 : decode cX3_has 13 = .ok (.getfield 9, 3) := by decide +kernel
theorem dX3_has_16 : decode cX3_has 16 = .ok (.iload_n 1, 1) := by decide +kernel
theorem dX3_has_17 : decode cX3_has 17 = .ok (.iaload, 1) := by decide +kernel
theorem dX3_has_18 : decode cX3_has 18 = .ok (.if_icmp .ge 7, 3) := by decide +kernel
theorem dX3_has_21 : decode cX3_has 21 = .ok (.iconst 1, 1) := by decide +kernel
theorem dX3_has_22 : decode cX3_has 22 = .ok (.goto 4, 3) := by decide +kernel
theorem dX3_has_25 : decode cX3_has 25 = .ok (.iconst 0, 1) := by decide +kernel
theorem dX3_has_26 : decode cX3_has 26 = .ok (.ireturn, 1) := by decide +kernel
theorem dX3_isFull_0 : decode cX3_isFull 0 = .ok (.aload_n 0, 1) := by decide +kernel
theorem dX3_isFull_1 : decode cX3_isFull 1 = .ok (.getfield 9, 3) := by decide +kernel
theorem dX3_isFull_4 : decode cX3_isFull 4 = .ok (.iload_n 1, 1) := by decide +kernel
theorem dX3_isFull_5 : decode cX3_isFull 5 = .ok (.iaload, 1) := by decide +kernel
theorem dX3_isFull_6 : decode cX3_isFull 6 = .ok (.bipush 24, 2) := by decide +kernel
theorem dX3_isFull_8 : decode cX3_isFull 8 = .ok (.if_icmp .lt 7, 3) := by decide +kernel
theorem dX3_isFull_11 : decode cX3_isFull 11 = .ok (.iconst 1, 1) := by decide +kernel
theorem dX3_isFull_12 : decode cX3_isFull 12 = .ok (.goto 4, 3) := by decide +kernel
theorem dX3_isFull_15 : decode cX3_isFull 15 = .ok (.iconst 0, 1) := by decide +kernel
theorem dX3_isFull_16 : decode cX3_isFull 16 = .ok (.ireturn, 1) := by decide +kernel
theorem dX3_add_0 : decode cX3_add 0 = .ok (.aload_n 0, 1) := by decide +kernel
theorem dX3_add_1 : decode cX3_add 1 = .ok (.getfield 9, 3) := by decide +kernel
theorem dX3_add_4 : decode cX3_add 4 = .ok (.iload_n 1, 1) := by decide +kernel
theorem dX3_add_5 : decode cX3_add 5 = .ok (.iaload, 1) := by decide +kernel
theorem dX3_add_6 : decode cX3_add 6 = .ok (.istore 5, 2) := by decide +kernel
theorem dX3_add_8 : decode cX3_add 8 = .ok (.iload_n 1, 1) := by decide +kernel
theorem dX3_add_9 : decode cX3_add 9 = .ok (.bipush 24, 2) := by decide +kernel
theorem dX3_add_11 : decode cX3_add 11 = .ok (.imul, 1) := by decide +kernel
theorem dX3_add_12 : decode cX3_add 12 = .ok (.iload 5, 2) := by decide +kernel
theorem dX3_add_14 : decode cX3_add 14 = .ok (.iadd, 1) := by decide +kernel
theorem dX3_add_15 : decode cX3_add 15 = .ok (.iconst 3, 1) := by decide +kernel
theorem dX3_add_16 : decode cX3_add 16 = .ok (.imul, 1) := by decide +kernel
theorem dX3_add_17 : decode cX3_add 17 = .ok (.istore 6, 2) := by decide +kernel
theorem dX3_add_19 : decode cX3_add 19 = .ok (.aload_n 0, 1) := by decide +kernel
theorem dX3_add_20 : decode cX3_add 20 = .ok (.getfield 15, 3) := by decide +kernel
theorem dX3_add_23 : decode cX3_add 23 = .ok (.iload 6, 2) := by decide +kernel
theorem dX3_add_25 : decode cX3_add 25 = .ok (.iconst 0, 1) := by decide +kernel
theorem dX3_add_26 : decode cX3_add 26 = .ok (.iadd, 1) := by decide +kernel
theorem dX3_add_27 : decode cX3_add 27 = .ok (.iload_n 2, 1) := by decide +kernel
theorem dX3_add_28 : decode cX3_add 28 = .ok (.iastore, 1) := by decide +kernel
theorem dX3_add_29 : decode cX3_add 29 = .ok (.aload_n 0, 1) := by decide +kernel
theorem dX3_add_30 : decode cX3_add 30 = .ok (.getfield 15, 3) := by decide +kernel
theorem dX3_add_33 : decode cX3_add 33 = .ok (.iload 6, 2) := by decide +kernel
theorem dX3_add_35 : decode cX3_add 35 = .ok (.iconst 1, 1) := by decide +kernel
theorem dX3_add_36 : decode cX3_add 36 = .ok (.iadd, 1) := by decide +kernel
theorem dX3_add_37 : decode cX3_add 37 = .ok (.iload_n 3, 1) := by decide +kernel
theorem dX3_add_38 : decode cX3_add 38 = .ok (.iastore, 1) := by decide +kernel
theorem dX3_add_39 : decode cX3_add 39 = .ok (.aload_n 0, 1) := by decide +kernel
theorem dX3_add_40 : decode cX3_add 40 = .ok (.getfield 15, 3) := by decide +kernel
theorem dX3_add_43 : decode cX3_add 43 = .ok (.iload 6, 2) := by decide +kernel
theorem dX3_add_45 : decode cX3_add 45 = .ok (.iconst 2, 1) := by decide +kernel
theorem dX3_add_46 : decode cX3_add 46 = .ok (.iadd, 1) := by decide +kernel
theorem dX3_add_47 : decode cX3_add 47 = .ok (.iload 4, 2) := by decide +kernel
theorem dX3_add_49 : decode cX3_add 49 = .ok (.iastore, 1) := by decide +kernel
theorem dX3_add_50 : decode cX3_add 50 = .ok (.aload_n 0, 1) := by decide +kernel
theorem dX3_add_51 : decode cX3_add 51 = .ok (.getfield 9, 3) := by decide +kernel
theorem dX3_add_54 : decode cX3_add 54 = .ok (.iload_n 1, 1) := by decide +kernel
theorem dX3_add_55 : decode cX3_add 55 = .ok (.iload 5, 2) := by decide +kernel
theorem dX3_add_57 : decode cX3_add 57 = .ok (.iconst 1, 1) := by decide +kernel
theorem dX3_add_58 : decode cX3_add 58 = .ok (.iadd, 1) := by decide +kernel
theorem dX3_add_59 : decode cX3_add 59 = .ok (.iastore, 1) := by decide +kernel
theorem dX3_add_60 : decode cX3_add 60 = .ok (.iload 5, 2) := by decide +kernel
theorem dX3_add_62 : decode cX3_add 62 = .ok (.ireturn, 1) := by decide +kernel
theorem dX3_minutesInAll_0 : decode cX3_minutesInAll 0 = .ok (.iconst 0, 1) := by decide +kernel
theorem dX3_minutesInAll_1 : decode cX3_minutesInAll 1 = .ok (.istore_n 1, 1) := by decide +kernel
theorem dX3_minutesInAll_2 : decode cX3_minutesInAll 2 = .ok (.iconst 0, 1) := by decide +kernel
theorem dX3_minutesInAll_3 : decode cX3_minutesInAll 3 = .ok (.istore_n 2, 1) := by decide +kernel
theorem dX3_minutesInAll_4 : decode cX3_minutesInAll 4 = .ok (.iload_n 2, 1) := by decide +kernel
theorem dX3_minutesInAll_5 : decode cX3_minutesInAll 5 = .ok (.bipush 8, 2) := by decide +kernel
theorem dX3_minutesInAll_7 : decode cX3_minutesInAll 7 = .ok (.if_icmp .ge 18, 3) := by decide +kernel
theorem dX3_minutesInAll_10 : decode cX3_minutesInAll 10 = .ok (.iload_n 1, 1) := by decide +kernel
theorem dX3_minutesInAll_11 : decode cX3_minutesInAll 11 = .ok (.aload_n 0, 1) := by decide +kernel
theorem dX3_minutesInAll_12 : decode cX3_minutesInAll 12 = .ok (.getfield 9, 3) := by decide +kernel
theorem dX3_minutesInAll_15 : decode cX3_minutesInAll 15 = .ok (.iload_n 2, 1) := by decide +kernel
theorem dX3_minutesInAll_16 : decode cX3_minutesInAll 16 = .ok (.iaload, 1) := by decide +kernel
theorem dX3_minutesInAll_17 : decode cX3_minutesInAll 17 = .ok (.iadd, 1) := by decide +kernel
theorem dX3_minutesInAll_18 : decode cX3_minutesInAll 18 = .ok (.istore_n 1, 1) := by decide +kernel
theorem dX3_minutesInAll_19 : decode cX3_minutesInAll 19 = .ok (.iinc 2 1, 3) := by decide +kernel
theorem dX3_minutesInAll_22 : decode cX3_minutesInAll 22 = .ok (.goto (-18), 3) := by decide +kernel
theorem dX3_minutesInAll_25 : decode cX3_minutesInAll 25 = .ok (.iload_n 1, 1) := by decide +kernel
theorem dX3_minutesInAll_26 : decode cX3_minutesInAll 26 = .ok (.ireturn, 1) := by decide +kernel
theorem dX3_turn_0 : decode cX3_turn 0 = .ok (.iload_n 1, 1) := by decide +kernel
theorem dX3_turn_1 : decode cX3_turn 1 = .ok (.bipush 24, 2) := by decide +kernel
theorem dX3_turn_3 : decode cX3_turn 3 = .ok (.imul, 1) := by decide +kernel
theorem dX3_turn_4 : decode cX3_turn 4 = .ok (.iload_n 2, 1) := by decide +kernel
theorem dX3_turn_5 : decode cX3_turn 5 = .ok (.iadd, 1) := by decide +kernel
theorem dX3_turn_6 : decode cX3_turn 6 = .ok (.iconst 3, 1) := by decide +kernel
theorem dX3_turn_7 : decode cX3_turn 7 = .ok (.imul, 1) := by decide +kernel
theorem dX3_turn_8 : decode cX3_turn 8 = .ok (.istore 4, 2) := by decide +kernel
theorem dX3_turn_10 : decode cX3_turn 10 = .ok (.iconst 0, 1) := by decide +kernel
theorem dX3_turn_11 : decode cX3_turn 11 = .ok (.istore 5, 2) := by decide +kernel
theorem dX3_turn_13 : decode cX3_turn 13 = .ok (.iload 5, 2) := by decide +kernel
theorem dX3_turn_15 : decode cX3_turn 15 = .ok (.iconst 3, 1) := by decide +kernel
theorem dX3_turn_16 : decode cX3_turn 16 = .ok (.if_icmp .ge 26, 3) := by decide +kernel
theorem dX3_turn_19 : decode cX3_turn 19 = .ok (.aload_n 3, 1) := by decide +kernel
theorem dX3_turn_20 : decode cX3_turn 20 = .ok (.getfield 22, 3) := by decide +kernel
theorem dX3_turn_23 : decode cX3_turn 23 = .ok (.iload 5, 2) := by decide +kernel
theorem dX3_turn_25 : decode cX3_turn 25 = .ok (.aload_n 0, 1) := by decide +kernel
theorem dX3_turn_26 : decode cX3_turn 26 = .ok (.getfield 15, 3) := by decide +kernel
theorem dX3_turn_29 : decode cX3_turn 29 = .ok (.iload 4, 2) := by decide +kernel
theorem dX3_turn_31 : decode cX3_turn 31 = .ok (.iload 5, 2) := by decide +kernel
theorem dX3_turn_33 : decode cX3_turn 33 = .ok (.iadd, 1) := by decide +kernel
theorem dX3_turn_34 : decode cX3_turn 34 = .ok (.iaload, 1) := by decide +kernel
theorem dX3_turn_35 : decode cX3_turn 35 = .ok (.iastore, 1) := by decide +kernel
theorem dX3_turn_36 : decode cX3_turn 36 = .ok (.iinc 5 1, 3) := by decide +kernel
theorem dX3_turn_39 : decode cX3_turn 39 = .ok (.goto (-26), 3) := by decide +kernel
theorem dX3_turn_42 : decode cX3_turn 42 = .ok (.return_, 1) := by decide +kernel
theorem dX4_init_0 : decode cX4_init 0 = .ok (.aload_n 0, 1) := by decide +kernel
theorem dX4_init_1 : decode cX4_init 1 = .ok (.invokespecial 3, 3) := by decide +kernel
theorem dX4_init_4 : decode cX4_init 4 = .ok (.aload_n 0, 1) := by decide +kernel
theorem dX4_init_5 : decode cX4_init 5 = .ok (.iconst 0, 1) := by decide +kernel
theorem dX4_init_6 : decode cX4_init 6 = .ok (.putfield 9, 3) := by decide +kernel
theorem dX4_init_9 : decode cX4_init 9 = .ok (.aload_n 0, 1) := by decide +kernel
theorem dX4_init_10 : decode cX4_init 10 = .ok (.bipush 20, 2) := by decide +kernel
theorem dX4_init_12 : decode cX4_init 12 = .ok (.newarray .int, 2) := by decide +kernel
theorem dX4_init_14 : decode cX4_init 14 = .ok (.putfield 15, 3) := by decide +kernel
theorem dX4_init_17 : decode cX4_init 17 = .ok (.aload_n 0, 1) := by decide +kernel
theorem dX4_init_18 : decode cX4_init 18 = .ok (.bipush 20, 2) := by decide +kernel
theorem dX4_init_20 : decode cX4_init 20 = .ok (.newarray .int, 2) := by decide +kernel
theorem dX4_init_22 : decode cX4_init 22 = .ok (.putfield 19, 3) := by decide +kernel
theorem dX4_init_25 : decode cX4_init 25 = .ok (.aload_n 0, 1) := by decide +kernel
theorem dX4_init_26 : decode cX4_init 26 = .ok (.bipush 20, 2) := by decide +kernel
theorem dX4_init_28 : decode cX4_init 28 = .ok (.newarray .int, 2) := by decide +kernel
theorem dX4_init_30 : decode cX4_init 30 = .ok (.putfield 22, 3) := by decide +kernel
theorem dX4_init_33 : decode cX4_init 33 = .ok (.aload_n 0, 1) := by decide +kernel
theorem dX4_init_34 : decode cX4_init 34 = .ok (.bipush 20, 2) := by decide +kernel
theorem dX4_init_36 : decode cX4_init 36 = .ok (.newarray .int, 2) := by decide +kernel
theorem dX4_init_38 : decode cX4_init 38 = .ok (.putfield 25, 3) := by decide +kernel
theorem dX4_init_41 : decode cX4_init 41 = .ok (.aload_n 0, 1) := by decide +kernel
theorem dX4_init_42 : decode cX4_init 42 = .ok (.bipush 20, 2) := by decide +kernel
theorem dX4_init_44 : decode cX4_init 44 = .ok (.newarray .int, 2) := by decide +kernel
theorem dX4_init_46 : decode cX4_init 46 = .ok (.putfield 28, 3) := by decide +kernel
theorem dX4_init_49 : decode cX4_init 49 = .ok (.aload_n 0, 1) := by decide +kernel
theorem dX4_init_50 : decode cX4_init 50 = .ok (.bipush 20, 2) := by decide +kernel
theorem dX4_init_52 : decode cX4_init 52 = .ok (.newarray .int, 2) := by decide +kernel
theorem dX4_init_54 : decode cX4_init 54 = .ok (.putfield 31, 3) := by decide +kernel
theorem dX4_init_57 : decode cX4_init 57 = .ok (.aload_n 0, 1) := by decide +kernel
theorem dX4_init_58 : decode cX4_init 58 = .ok (.bipush 20, 2) := by decide +kernel
theorem dX4_init_60 : decode cX4_init 60 = .ok (.newarray .int, 2) := by decide +kernel
theorem dX4_init_62 : decode cX4_init 62 = .ok (.putfield 34, 3) := by decide +kernel
theorem dX4_init_65 : decode cX4_init 65 = .ok (.aload_n 0, 1) := by decide +kernel
theorem dX4_init_66 : decode cX4_init 66 = .ok (.bipush 20, 2) := by decide +kernel
theorem dX4_init_68 : decode cX4_init 68 = .ok (.newarray .int, 2) := by decide +kernel
theorem dX4_init_70 : decode cX4_init 70 = .ok (.putfield 37, 3) := by decide +kernel
theorem dX4_init_73 : decode cX4_init 73 = .ok (.aload_n 0, 1) := by decide +kernel
theorem dX4_init_74 : decode cX4_init 74 = .ok (.bipush 20, 2) := by decide +kernel
theorem dX4_init_76 : decode cX4_init 76 = .ok (.newarray .boolean, 2) := by decide +kernel
theorem dX4_init_78 : decode cX4_init 78 = .ok (.putfield 40, 3) := by decide +kernel
theorem dX4_init_81 : decode cX4_init 81 = .ok (.return_, 1) := by decide +kernel
theorem dX4_has_0 : decode cX4_has 0 = .ok (.iload_n 1, 1) := by decide +kernel
theorem dX4_has_1 : decode cX4_has 1 = .ok (.ifCond .lt 15, 3) := by decide +kernel
theorem dX4_has_4 : decode cX4_has 4 = .ok (.iload_n 1, 1) := by decide +kernel
theorem dX4_has_5 : decode cX4_has 5 = .ok (.aload_n 0, 1) := by decide +kernel
theorem dX4_has_6 : decode cX4_has 6 = .ok (.getfield 9, 3) := by decide +kernel
theorem dX4_has_9 : decode cX4_has 9 = .ok (.if_icmp .ge 7, 3) := by decide +kernel
theorem dX4_has_12 : decode cX4_has 12 = .ok (.iconst 1, 1) := by decide +kernel
theorem dX4_has_13 : decode cX4_has 13 = .ok (.goto 4, 3) := by decide +kernel
theorem dX4_has_16 : decode cX4_has 16 = .ok (.iconst 0, 1) := by decide +kernel
theorem dX4_has_17 : decode cX4_has 17 = .ok (.ireturn, 1) := by decide +kernel
theorem dX4_hasCell_0 : decode cX4_hasCell 0 = .ok (.aload_n 0, 1) := by decide +kernel
theorem dX4_hasCell_1 : decode cX4_hasCell 1 = .ok (.iload_n 1, 1) := by decide +kernel
theorem dX4_hasCell_2 : decode cX4_hasCell 2 = .ok (.invokevirtual 44, 3) := by decide +kernel
theorem dX4_hasCell_5 : decode cX4_hasCell 5 = .ok (.ifCond .eq 20, 3) := by decide +kernel
theorem dX4_hasCell_8 : decode cX4_hasCell 8 = .ok (.iload_n 2, 1) := by decide +kernel
theorem dX4_hasCell_9 : decode cX4_hasCell 9 = .ok (.ifCond .lt 16, 3) := by decide +kernel
theorem dX4_hasCell_12 : decode cX4_hasCell 12 = .ok (.iload_n 2, 1) := by decide +kernel
theorem dX4_hasCell_13 : decode cX4_hasCell 13 = .ok (.aload_n 0, 1) := by decide +kernel
theorem dX4_hasCell_14 : decode cX4_hasCell 14 = .ok (.iload_n 1, 1) := by decide +kernel
theorem dX4_hasCell_15 : decode cX4_hasCell 15 = .ok (.invokevirtual 48, 3) := by decide +kernel
theorem dX4_hasCell_18 : decode cX4_hasCell 18 = .ok (.if_icmp .ge 7, 3) := by decide +kernel
theorem dX4_hasCell_21 : decode cX4_hasCell 21 = .ok (.iconst 1, 1) := by decide +kernel
theorem dX4_hasCell_22 : decode cX4_hasCell 22 = .ok (.goto 4, 3) := by decide +kernel
theorem dX4_hasCell_25 : decode cX4_hasCell 25 = .ok (.iconst 0, 1) := by decide +kernel
theorem dX4_hasCell_26 : decode cX4_hasCell 26 = .ok (.ireturn, 1) := by decide +kernel
theorem dX4_isFull_0 : decode cX4_isFull 0 = .ok (.aload_n 0, 1) := by decide +kernel
theorem dX4_isFull_1 : decode cX4_isFull 1 = .ok (.getfield 9, 3) := by decide +kernel
theorem dX4_isFull_4 : decode cX4_isFull 4 = .ok (.bipush 20, 2) := by decide +kernel
theorem dX4_isFull_6 : decode cX4_isFull 6 = .ok (.if_icmp .lt 7, 3) := by decide +kernel
theorem dX4_isFull_9 : decode cX4_isFull 9 = .ok (.iconst 1, 1) := by decide +kernel
theorem dX4_isFull_10 : decode cX4_isFull 10 = .ok (.goto 4, 3) := by decide +kernel
theorem dX4_isFull_13 : decode cX4_isFull 13 = .ok (.iconst 0, 1) := by decide +kernel
theorem dX4_isFull_14 : decode cX4_isFull 14 = .ok (.ireturn, 1) := by decide +kernel
theorem dX4_add_0 : decode cX4_add 0 = .ok (.aload_n 0, 1) := by decide +kernel
theorem dX4_add_1 : decode cX4_add 1 = .ok (.getfield 9, 3) := by decide +kernel
theorem dX4_add_4 : decode cX4_add 4 = .ok (.istore 7, 2) := by decide +kernel
theorem dX4_add_6 : decode cX4_add 6 = .ok (.aload_n 0, 1) := by decide +kernel
theorem dX4_add_7 : decode cX4_add 7 = .ok (.getfield 15, 3) := by decide +kernel
theorem dX4_add_10 : decode cX4_add 10 = .ok (.iload 7, 2) := by decide +kernel
theorem dX4_add_12 : decode cX4_add 12 = .ok (.iload_n 1, 1) := by decide +kernel
theorem dX4_add_13 : decode cX4_add 13 = .ok (.iastore, 1) := by decide +kernel
theorem dX4_add_14 : decode cX4_add 14 = .ok (.aload_n 0, 1) := by decide +kernel
theorem dX4_add_15 : decode cX4_add 15 = .ok (.getfield 19, 3) := by decide +kernel
theorem dX4_add_18 : decode cX4_add 18 = .ok (.iload 7, 2) := by decide +kernel
theorem dX4_add_20 : decode cX4_add 20 = .ok (.iload_n 1, 1) := by decide +kernel
theorem dX4_add_21 : decode cX4_add 21 = .ok (.iconst 2, 1) := by decide +kernel
theorem dX4_add_22 : decode cX4_add 22 = .ok (.if_icmp .ge 7, 3) := by decide +kernel
theorem dX4_add_25 : decode cX4_add 25 = .ok (.iconst 0, 1) := by decide +kernel
theorem dX4_add_26 : decode cX4_add 26 = .ok (.goto 4, 3) := by decide +kernel
theorem dX4_add_29 : decode cX4_add 29 = .ok (.iconst 1, 1) := by decide +kernel
theorem dX4_add_30 : decode cX4_add 30 = .ok (.iastore, 1) := by decide +kernel
theorem dX4_add_31 : decode cX4_add 31 = .ok (.aload_n 0, 1) := by decide +kernel
theorem dX4_add_32 : decode cX4_add 32 = .ok (.getfield 22, 3) := by decide +kernel
theorem dX4_add_35 : decode cX4_add 35 = .ok (.iload 7, 2) := by decide +kernel
theorem dX4_add_37 : decode cX4_add 37 = .ok (.iload_n 2, 1) := by decide +kernel
theorem dX4_add_38 : decode cX4_add 38 = .ok (.iastore, 1) := by decide +kernel
theorem dX4_add_39 : decode cX4_add 39 = .ok (.aload_n 0, 1) := by decide +kernel
theorem dX4_add_40 : decode cX4_add 40 = .ok (.getfield 25, 3) := by decide +kernel
theorem dX4_add_43 : decode cX4_add 43 = .ok (.iload 7, 2) := by decide +kernel
theorem dX4_add_45 : decode cX4_add 45 = .ok (.iload_n 3, 1) := by decide +kernel
theorem dX4_add_46 : decode cX4_add 46 = .ok (.iastore, 1) := by decide +kernel
theorem dX4_add_47 : decode cX4_add 47 = .ok (.aload_n 0, 1) := by decide +kernel
theorem dX4_add_48 : decode cX4_add 48 = .ok (.getfield 28, 3) := by decide +kernel
theorem dX4_add_51 : decode cX4_add 51 = .ok (.iload 7, 2) := by decide +kernel
theorem dX4_add_53 : decode cX4_add 53 = .ok (.iload 5, 2) := by decide +kernel
theorem dX4_add_55 : decode cX4_add 55 = .ok (.iastore, 1) := by decide +kernel
theorem dX4_add_56 : decode cX4_add 56 = .ok (.aload_n 0, 1) := by decide +kernel
theorem dX4_add_57 : decode cX4_add 57 = .ok (.getfield 31, 3) := by decide +kernel
theorem dX4_add_60 : decode cX4_add 60 = .ok (.iload 7, 2) := by decide +kernel
theorem dX4_add_62 : decode cX4_add 62 = .ok (.iload 4, 2) := by decide +kernel
theorem dX4_add_64 : decode cX4_add 64 = .ok (.iload_n 3, 1) := by decide +kernel
theorem dX4_add_65 : decode cX4_add 65 = .ok (.isub, 1) := by decide +kernel
theorem dX4_add_66 : decode cX4_add 66 = .ok (.iastore, 1) := by decide +kernel
theorem dX4_add_67 : decode cX4_add 67 = .ok (.aload_n 0, 1) := by decide +kernel
theorem dX4_add_68 : decode cX4_add 68 = .ok (.getfield 34, 3) := by decide +kernel
theorem dX4_add_71 : decode cX4_add 71 = .ok (.iload 7, 2) := by decide +kernel
theorem dX4_add_73 : decode cX4_add 73 = .ok (.iload 6, 2) := by decide +kernel
theorem dX4_add_75 : decode cX4_add 75 = .ok (.iload 5, 2) := by decide +kernel
theorem dX4_add_77 : decode cX4_add 77 = .ok (.isub, 1) := by decide +kernel
theorem dX4_add_78 : decode cX4_add 78 = .ok (.iastore, 1) := by decide +kernel
theorem dX4_add_79 : decode cX4_add 79 = .ok (.aload_n 0, 1) := by decide +kernel
theorem dX4_add_80 : decode cX4_add 80 = .ok (.iload 7, 2) := by decide +kernel
theorem dX4_add_82 : decode cX4_add 82 = .ok (.iconst 1, 1) := by decide +kernel
theorem dX4_add_83 : decode cX4_add 83 = .ok (.iadd, 1) := by decide +kernel
theorem dX4_add_84 : decode cX4_add 84 = .ok (.putfield 9, 3) := by decide +kernel
theorem dX4_add_87 : decode cX4_add 87 = .ok (.iload 7, 2) := by decide +kernel
theorem dX4_add_89 : decode cX4_add 89 = .ok (.ireturn, 1) := by decide +kernel
theorem dX4_cellsOf_0 : decode cX4_cellsOf 0 = .ok (.aload_n 0, 1) := by decide +kernel
theorem dX4_cellsOf_1 : decode cX4_cellsOf 1 = .ok (.getfield 31, 3) := by decide +kernel
theorem dX4_cellsOf_4 : decode cX4_cellsOf 4 = .ok (.iload_n 1, 1) := by decide +kernel
theorem dX4_cellsOf_5 : decode cX4_cellsOf 5 = .ok (.iaload, 1) := by decide +kernel
theorem dX4_cellsOf_6 : decode cX4_cellsOf 6 = .ok (.aload_n 0, 1) := by decide +kernel
theorem dX4_cellsOf_7 : decode cX4_cellsOf 7 = .ok (.getfield 34, 3) := by decide +kernel
theorem dX4_cellsOf_10 : decode cX4_cellsOf 10 = .ok (.iload_n 1, 1) := by decide +kernel
theorem dX4_cellsOf_11 : decode cX4_cellsOf 11 = .ok (.iaload, 1) := by decide +kernel
theorem dX4_cellsOf_12 : decode cX4_cellsOf 12 = .ok (.imul, 1) := by decide +kernel
theorem dX4_cellsOf_13 : decode cX4_cellsOf 13 = .ok (.ireturn, 1) := by decide +kernel
theorem dX4_isKept_0 : decode cX4_isKept 0 = .ok (.aload_n 0, 1) := by decide +kernel
theorem dX4_isKept_1 : decode cX4_isKept 1 = .ok (.getfield 37, 3) := by decide +kernel
theorem dX4_isKept_4 : decode cX4_isKept 4 = .ok (.iload_n 1, 1) := by decide +kernel
theorem dX4_isKept_5 : decode cX4_isKept 5 = .ok (.iaload, 1) := by decide +kernel
theorem dX4_isKept_6 : decode cX4_isKept 6 = .ok (.iconst 3, 1) := by decide +kernel
theorem dX4_isKept_7 : decode cX4_isKept 7 = .ok (.if_icmp .lt 16, 3) := by decide +kernel
theorem dX4_isKept_10 : decode cX4_isKept 10 = .ok (.aload_n 0, 1) := by decide +kernel
theorem dX4_isKept_11 : decode cX4_isKept 11 = .ok (.getfield 40, 3) := by decide +kernel
theorem dX4_isKept_14 : decode cX4_isKept 14 = .ok (.iload_n 1, 1) := by decide +kernel
theorem dX4_isKept_15 : decode cX4_isKept 15 = .ok (.baload, 1) := by decide +kernel
theorem dX4_isKept_16 : decode cX4_isKept 16 = .ok (.ifCond .ne 7, 3) := by decide +kernel
theorem dX4_isKept_19 : decode cX4_isKept 19 = .ok (.iconst 1, 1) := by decide +kernel
theorem dX4_isKept_20 : decode cX4_isKept 20 = .ok (.goto 4, 3) := by decide +kernel
theorem dX4_isKept_23 : decode cX4_isKept 23 = .ok (.iconst 0, 1) := by decide +kernel
theorem dX4_isKept_24 : decode cX4_isKept 24 = .ok (.ireturn, 1) := by decide +kernel
theorem dX4_keptOnes_0 : decode cX4_keptOnes 0 = .ok (.iconst 0, 1) := by decide +kernel
theorem dX4_keptOnes_1 : decode cX4_keptOnes 1 = .ok (.istore_n 1, 1) := by decide +kernel
theorem dX4_keptOnes_2 : decode cX4_keptOnes 2 = .ok (.iconst 0, 1) := by decide +kernel
theorem dX4_keptOnes_3 : decode cX4_keptOnes 3 = .ok (.istore_n 2, 1) := by decide +kernel
theorem dX4_keptOnes_4 : decode cX4_keptOnes 4 = .ok (.iload_n 2, 1) := by decide +kernel
theorem dX4_keptOnes_5 : decode cX4_keptOnes 5 = .ok (.aload_n 0, 1) := by decide +kernel
theorem dX4_keptOnes_6 : decode cX4_keptOnes 6 = .ok (.getfield 9, 3) := by decide +kernel
theorem dX4_keptOnes_9 : decode cX4_keptOnes 9 = .ok (.if_icmp .ge 20, 3) := by decide +kernel
theorem dX4_keptOnes_12 : decode cX4_keptOnes 12 = .ok (.aload_n 0, 1) := by decide +kernel
theorem dX4_keptOnes_13 : decode cX4_keptOnes 13 = .ok (.iload_n 2, 1) := by decide +kernel
theorem dX4_keptOnes_14 : decode cX4_keptOnes 14 = .ok (.invokevirtual 52, 3) := by decide +kernel
theorem dX4_keptOnes_17 : decode cX4_keptOnes 17 = .ok (.ifCond .eq 6, 3) := by decide +kernel
theorem dX4_keptOnes_20 : decode cX4_keptOnes 20 = .ok (.iinc 1 1, 3) := by decide +kernel
theorem dX4_keptOnes_23 : decode cX4_keptOnes 23 = .ok (.iinc 2 1, 3) := by decide +kernel
theorem dX4_keptOnes_26 : decode cX4_keptOnes 26 = .ok (.goto (-22), 3) := by decide +kernel
theorem dX4_keptOnes_29 : decode cX4_keptOnes 29 = .ok (.iload_n 1, 1) := by decide +kernel
theorem dX4_keptOnes_30 : decode cX4_keptOnes 30 = .ok (.ireturn, 1) := by decide +kernel
theorem dX4_faces_0 : decode cX4_faces 0 = .ok (.aload_n 2, 1) := by decide +kernel
theorem dX4_faces_1 : decode cX4_faces 1 = .ok (.getfield 55, 3) := by decide +kernel
theorem dX4_faces_4 : decode cX4_faces 4 = .ok (.aload_n 0, 1) := by decide +kernel
theorem dX4_faces_5 : decode cX4_faces 5 = .ok (.getfield 19, 3) := by decide +kernel
theorem dX4_faces_8 : decode cX4_faces 8 = .ok (.iload_n 1, 1) := by decide +kernel
theorem dX4_faces_9 : decode cX4_faces 9 = .ok (.iaload, 1) := by decide +kernel
theorem dX4_faces_10 : decode cX4_faces 10 = .ok (.iaload, 1) := by decide +kernel
theorem dX4_faces_11 : decode cX4_faces 11 = .ok (.istore_n 3, 1) := by decide +kernel
theorem dX4_faces_12 : decode cX4_faces 12 = .ok (.aload_n 0, 1) := by decide +kernel
theorem dX4_faces_13 : decode cX4_faces 13 = .ok (.getfield 15, 3) := by decide +kernel
theorem dX4_faces_16 : decode cX4_faces 16 = .ok (.iload_n 1, 1) := by decide +kernel
theorem dX4_faces_17 : decode cX4_faces 17 = .ok (.iaload, 1) := by decide +kernel
theorem dX4_faces_18 : decode cX4_faces 18 = .ok (.iconst 2, 1) := by decide +kernel
theorem dX4_faces_19 : decode cX4_faces 19 = .ok (.irem, 1) := by decide +kernel
theorem dX4_faces_20 : decode cX4_faces 20 = .ok (.ifCond .ne 15, 3) := by decide +kernel
theorem dX4_faces_23 : decode cX4_faces 23 = .ok (.iload_n 3, 1) := by decide +kernel
theorem dX4_faces_24 : decode cX4_faces 24 = .ok (.ifCond .le 7, 3) := by decide +kernel
theorem dX4_faces_27 : decode cX4_faces 27 = .ok (.iconst 1, 1) := by decide +kernel
theorem dX4_faces_28 : decode cX4_faces 28 = .ok (.goto 16, 3) := by decide +kernel
theorem dX4_faces_31 : decode cX4_faces 31 = .ok (.iconst 0, 1) := by decide +kernel
theorem dX4_faces_32 : decode cX4_faces 32 = .ok (.goto 12, 3) := by decide +kernel
theorem dX4_faces_35 : decode cX4_faces 35 = .ok (.iload_n 3, 1) := by decide +kernel
theorem dX4_faces_36 : decode cX4_faces 36 = .ok (.ifCond .ge 7, 3) := by decide +kernel
theorem dX4_faces_39 : decode cX4_faces 39 = .ok (.iconst 1, 1) := by decide +kernel
theorem dX4_faces_40 : decode cX4_faces 40 = .ok (.goto 4, 3) := by decide +kernel
theorem dX4_faces_43 : decode cX4_faces 43 = .ok (.iconst 0, 1) := by decide +kernel
theorem dX4_faces_44 : decode cX4_faces 44 = .ok (.ireturn, 1) := by decide +kernel
theorem dX4_standOn_0 : decode cX4_standOn 0 = .ok (.iconst 1, 1) := by decide +kernel
theorem dX4_standOn_1 : decode cX4_standOn 1 = .ok (.aload_n 0, 1) := by decide +kernel
theorem dX4_standOn_2 : decode cX4_standOn 2 = .ok (.getfield 31, 3) := by decide +kernel
theorem dX4_standOn_5 : decode cX4_standOn 5 = .ok (.iload_n 1, 1) := by decide +kernel
theorem dX4_standOn_6 : decode cX4_standOn 6 = .ok (.iaload, 1) := by decide +kernel
theorem dX4_standOn_7 : decode cX4_standOn 7 = .ok (.invokestatic 60, 3) := by decide +kernel
theorem dX4_standOn_10 : decode cX4_standOn 10 = .ok (.istore 4, 2) := by decide +kernel
theorem dX4_standOn_12 : decode cX4_standOn 12 = .ok (.aload_n 0, 1) := by decide +kernel
theorem dX4_standOn_13 : decode cX4_standOn 13 = .ok (.getfield 25, 3) := by decide +kernel
theorem dX4_standOn_16 : decode cX4_standOn 16 = .ok (.iload_n 1, 1) := by decide +kernel
theorem dX4_standOn_17 : decode cX4_standOn 17 = .ok (.iaload, 1) := by decide +kernel
theorem dX4_standOn_18 : decode cX4_standOn 18 = .ok (.iload_n 2, 1) := by decide +kernel
theorem dX4_standOn_19 : decode cX4_standOn 19 = .ok (.iload 4, 2) := by decide +kernel
theorem dX4_standOn_21 : decode cX4_standOn 21 = .ok (.irem, 1) := by decide +kernel
theorem dX4_standOn_22 : decode cX4_standOn 22 = .ok (.iadd, 1) := by decide +kernel
theorem dX4_standOn_23 : decode cX4_standOn 23 = .ok (.invokestatic 66, 3) := by decide +kernel
theorem dX4_standOn_26 : decode cX4_standOn 26 = .ok (.istore 5, 2) := by decide +kernel
theorem dX4_standOn_28 : decode cX4_standOn 28 = .ok (.aload_n 0, 1) := by decide +kernel
theorem dX4_standOn_29 : decode cX4_standOn 29 = .ok (.getfield 28, 3) := by decide +kernel
theorem dX4_standOn_32 : decode cX4_standOn 32 = .ok (.iload_n 1, 1) := by decide +kernel
theorem dX4_standOn_33 : decode cX4_standOn 33 = .ok (.iaload, 1) := by decide +kernel
theorem dX4_standOn_34 : decode cX4_standOn 34 = .ok (.iload_n 2, 1) := by decide +kernel
theorem dX4_standOn_35 : decode cX4_standOn 35 = .ok (.iload 4, 2) := by decide +kernel
theorem dX4_standOn_37 : decode cX4_standOn 37 = .ok (.idiv, 1) := by decide +kernel
theorem dX4_standOn_38 : decode cX4_standOn 38 = .ok (.iadd, 1) := by decide +kernel
theorem dX4_standOn_39 : decode cX4_standOn 39 = .ok (.invokestatic 66, 3) := by decide +kernel
theorem dX4_standOn_42 : decode cX4_standOn 42 = .ok (.istore 6, 2) := by decide +kernel
theorem dX4_standOn_44 : decode cX4_standOn 44 = .ok (.aload_n 0, 1) := by decide +kernel
theorem dX4_standOn_45 : decode cX4_standOn 45 = .ok (.getfield 19, 3) := by decide +kernel
theorem dX4_standOn_48 : decode cX4_standOn 48 = .ok (.iload_n 1, 1) := by decide +kernel
theorem dX4_standOn_49 : decode cX4_standOn 49 = .ok (.iaload, 1) := by decide +kernel
theorem dX4_standOn_50 : decode cX4_standOn 50 = .ok (.istore 7, 2) := by decide +kernel
theorem dX4_standOn_52 : decode cX4_standOn 52 = .ok (.aload_n 3, 1) := by decide +kernel
theorem dX4_standOn_53 : decode cX4_standOn 53 = .ok (.iload 7, 2) := by decide +kernel
theorem dX4_standOn_55 : decode cX4_standOn 55 = .ok (.iconst 2, 1) := by decide +kernel
theorem dX4_standOn_56 : decode cX4_standOn 56 = .ok (.aload_n 0, 1) := by decide +kernel
theorem dX4_standOn_57 : decode cX4_standOn 57 = .ok (.getfield 22, 3) := by decide +kernel
theorem dX4_standOn_60 : decode cX4_standOn 60 = .ok (.iload_n 1, 1) := by decide +kernel
theorem dX4_standOn_61 : decode cX4_standOn 61 = .ok (.iaload, 1) := by decide +kernel
theorem dX4_standOn_62 : decode cX4_standOn 62 = .ok (.imul, 1) := by decide +kernel
theorem dX4_standOn_63 : decode cX4_standOn 63 = .ok (.iconst 2, 1) := by decide +kernel
theorem dX4_standOn_64 : decode cX4_standOn 64 = .ok (.aload_n 0, 1) := by decide +kernel
theorem dX4_standOn_65 : decode cX4_standOn 65 = .ok (.getfield 22, 3) := by decide +kernel
theorem dX4_standOn_68 : decode cX4_standOn 68 = .ok (.iload_n 1, 1) := by decide +kernel
theorem dX4_standOn_69 : decode cX4_standOn 69 = .ok (.iaload, 1) := by decide +kernel
theorem dX4_standOn_70 : decode cX4_standOn 70 = .ok (.imul, 1) := by decide +kernel
theorem dX4_standOn_71 : decode cX4_standOn 71 = .ok (.invokevirtual 69, 3) := by decide +kernel
theorem dX4_standOn_74 : decode cX4_standOn 74 = .ok (.aload_n 3, 1) := by decide +kernel
theorem dX4_standOn_75 : decode cX4_standOn 75 = .ok (.iconst 1, 1) := by decide +kernel
theorem dX4_standOn_76 : decode cX4_standOn 76 = .ok (.iload 7, 2) := by decide +kernel
theorem dX4_standOn_78 : decode cX4_standOn 78 = .ok (.isub, 1) := by decide +kernel
theorem dX4_standOn_79 : decode cX4_standOn 79 = .ok (.iload 5, 2) := by decide +kernel
theorem dX4_standOn_81 : decode cX4_standOn 81 = .ok (.iload 5, 2) := by decide +kernel
theorem dX4_standOn_83 : decode cX4_standOn 83 = .ok (.invokevirtual 69, 3) := by decide +kernel
theorem dX4_standOn_86 : decode cX4_standOn 86 = .ok (.aload_n 3, 1) := by decide +kernel
theorem dX4_standOn_87 : decode cX4_standOn 87 = .ok (.iconst 2, 1) := by decide +kernel
theorem dX4_standOn_88 : decode cX4_standOn 88 = .ok (.iload 6, 2) := by decide +kernel
theorem dX4_standOn_90 : decode cX4_standOn 90 = .ok (.iload 6, 2) := by decide +kernel
theorem dX4_standOn_92 : decode cX4_standOn 92 = .ok (.invokevirtual 69, 3) := by decide +kernel
theorem dX4_standOn_95 : decode cX4_standOn 95 = .ok (.return_, 1) := by decide +kernel
theorem dX4_standOnAll_0 : decode cX4_standOnAll 0 = .ok (.aload_n 0, 1) := by decide +kernel
theorem dX4_standOnAll_1 : decode cX4_standOnAll 1 = .ok (.getfield 25, 3) := by decide +kernel
theorem dX4_standOnAll_4 : decode cX4_standOnAll 4 = .ok (.iload_n 1, 1) := by decide +kernel
theorem dX4_standOnAll_5 : decode cX4_standOnAll 5 = .ok (.iaload, 1) := by decide +kernel
theorem dX4_standOnAll_6 : decode cX4_standOnAll 6 = .ok (.istore_n 3, 1) := by decide +kernel
theorem dX4_standOnAll_7 : decode cX4_standOnAll 7 = .ok (.aload_n 0, 1) := by decide +kernel
theorem dX4_standOnAll_8 : decode cX4_standOnAll 8 = .ok (.getfield 28, 3) := by decide +kernel
theorem dX4_standOnAll_11 : decode cX4_standOnAll 11 = .ok (.iload_n 1, 1) := by decide +kernel
theorem dX4_standOnAll_12 : decode cX4_standOnAll 12 = .ok (.iaload, 1) := by decide +kernel
theorem dX4_standOnAll_13 : decode cX4_standOnAll 13 = .ok (.istore 4, 2) := by decide +kernel
theorem dX4_standOnAll_15 : decode cX4_standOnAll 15 = .ok (.aload_n 0, 1) := by decide +kernel
theorem dX4_standOnAll_16 : decode cX4_standOnAll 16 = .ok (.getfield 19, 3) := by decide +kernel
theorem dX4_standOnAll_19 : decode cX4_standOnAll 19 = .ok (.iload_n 1, 1) := by decide +kernel
theorem dX4_standOnAll_20 : decode cX4_standOnAll 20 = .ok (.iaload, 1) := by decide +kernel
theorem dX4_standOnAll_21 : decode cX4_standOnAll 21 = .ok (.istore 5, 2) := by decide +kernel
theorem dX4_standOnAll_23 : decode cX4_standOnAll 23 = .ok (.aload_n 2, 1) := by decide +kernel
theorem dX4_standOnAll_24 : decode cX4_standOnAll 24 = .ok (.iload 5, 2) := by decide +kernel
theorem dX4_standOnAll_26 : decode cX4_standOnAll 26 = .ok (.iconst 2, 1) := by decide +kernel
theorem dX4_standOnAll_27 : decode cX4_standOnAll 27 = .ok (.aload_n 0, 1) := by decide +kernel
theorem dX4_standOnAll_28 : decode cX4_standOnAll 28 = .ok (.getfield 22, 3) := by decide +kernel
theorem dX4_standOnAll_31 : decode cX4_standOnAll 31 = .ok (.iload_n 1, 1) := by decide +kernel
theorem dX4_standOnAll_32 : decode cX4_standOnAll 32 = .ok (.iaload, 1) := by decide +kernel
theorem dX4_standOnAll_33 : decode cX4_standOnAll 33 = .ok (.imul, 1) := by decide +kernel
theorem dX4_standOnAll_34 : decode cX4_standOnAll 34 = .ok (.iconst 2, 1) := by decide +kernel
theorem dX4_standOnAll_35 : decode cX4_standOnAll 35 = .ok (.aload_n 0, 1) := by decide +kernel
theorem dX4_standOnAll_36 : decode cX4_standOnAll 36 = .ok (.getfield 22, 3) := by decide +kernel
theorem dX4_standOnAll_39 : decode cX4_standOnAll 39 = .ok (.iload_n 1, 1) := by decide +kernel
theorem dX4_standOnAll_40 : decode cX4_standOnAll 40 = .ok (.iaload, 1) := by decide +kernel
theorem dX4_standOnAll_41 : decode cX4_standOnAll 41 = .ok (.imul, 1) := by decide +kernel
theorem dX4_standOnAll_42 : decode cX4_standOnAll 42 = .ok (.invokevirtual 69, 3) := by decide +kernel
theorem dX4_standOnAll_45 : decode cX4_standOnAll 45 = .ok (.aload_n 2, 1) := by decide +kernel
theorem dX4_standOnAll_46 : decode cX4_standOnAll 46 = .ok (.iconst 1, 1) := by decide +kernel
theorem dX4_standOnAll_47 : decode cX4_standOnAll 47 = .ok (.iload 5, 2) := by decide +kernel
theorem dX4_standOnAll_49 : decode cX4_standOnAll 49 = .ok (.isub, 1) := by decide +kernel
theorem dX4_standOnAll_50 : decode cX4_standOnAll 50 = .ok (.iload_n 3, 1) := by decide +kernel
theorem dX4_standOnAll_51 : decode cX4_standOnAll 51 = .ok (.invokestatic 66, 3) := by decide +kernel
theorem dX4_standOnAll_54 : decode cX4_standOnAll 54 = .ok (.iload_n 3, 1) := by decide +kernel
theorem dX4_standOnAll_55 : decode cX4_standOnAll 55 = .ok (.aload_n 0, 1) := by decide +kernel
theorem dX4_standOnAll_56 : decode cX4_standOnAll 56 = .ok (.getfield 31, 3) := by decide +kernel
theorem dX4_standOnAll_59 : decode cX4_standOnAll 59 = .ok (.iload_n 1, 1) := by decide +kernel
theorem dX4_standOnAll_60 : decode cX4_standOnAll 60 = .ok (.iaload, 1) := by decide +kernel
theorem dX4_standOnAll_61 : decode cX4_standOnAll 61 = .ok (.iadd, 1) := by decide +kernel
theorem dX4_standOnAll_62 : decode cX4_standOnAll 62 = .ok (.iconst 1, 1) := by decide +kernel
theorem dX4_standOnAll_63 : decode cX4_standOnAll 63 = .ok (.isub, 1) := by decide +kernel
theorem dX4_standOnAll_64 : decode cX4_standOnAll 64 = .ok (.invokestatic 66, 3) := by decide +kernel
theorem dX4_standOnAll_67 : decode cX4_standOnAll 67 = .ok (.invokevirtual 69, 3) := by decide +kernel
theorem dX4_standOnAll_70 : decode cX4_standOnAll 70 = .ok (.aload_n 2, 1) := by decide +kernel
theorem dX4_standOnAll_71 : decode cX4_standOnAll 71 = .ok (.iconst 2, 1) := by decide +kernel
theorem dX4_standOnAll_72 : decode cX4_standOnAll 72 = .ok (.iload 4, 2) := by decide +kernel
theorem dX4_standOnAll_74 : decode cX4_standOnAll 74 = .ok (.invokestatic 66, 3) := by decide +kernel
theorem dX4_standOnAll_77 : decode cX4_standOnAll 77 = .ok (.iload 4, 2) := by decide +kernel
theorem dX4_standOnAll_79 : decode cX4_standOnAll 79 = .ok (.aload_n 0, 1) := by decide +kernel
theorem dX4_standOnAll_80 : decode cX4_standOnAll 80 = .ok (.getfield 34, 3) := by decide +kernel
theorem dX4_standOnAll_83 : decode cX4_standOnAll 83 = .ok (.iload_n 1, 1) := by decide +kernel
theorem dX4_standOnAll_84 : decode cX4_standOnAll 84 = .ok (.iaload, 1) := by decide +kernel
theorem dX4_standOnAll_85 : decode cX4_standOnAll 85 = .ok (.iadd, 1) := by decide +kernel
theorem dX4_standOnAll_86 : decode cX4_standOnAll 86 = .ok (.iconst 1, 1) := by decide +kernel
theorem dX4_standOnAll_87 : decode cX4_standOnAll 87 = .ok (.isub, 1) := by decide +kernel
theorem dX4_standOnAll_88 : decode cX4_standOnAll 88 = .ok (.invokestatic 66, 3) := by decide +kernel
theorem dX4_standOnAll_91 : decode cX4_standOnAll 91 = .ok (.invokevirtual 69, 3) := by decide +kernel
theorem dX4_standOnAll_94 : decode cX4_standOnAll 94 = .ok (.return_, 1) := by decide +kernel
theorem dX4_middle_0 : decode cX4_middle 0 = .ok (.iconst 2, 1) := by decide +kernel
theorem dX4_middle_1 : decode cX4_middle 1 = .ok (.iload_n 0, 1) := by decide +kernel
theorem dX4_middle_2 : decode cX4_middle 2 = .ok (.imul, 1) := by decide +kernel
theorem dX4_middle_3 : decode cX4_middle 3 = .ok (.iconst 1, 1) := by decide +kernel
theorem dX4_middle_4 : decode cX4_middle 4 = .ok (.iadd, 1) := by decide +kernel
theorem dX4_middle_5 : decode cX4_middle 5 = .ok (.ireturn, 1) := by decide +kernel
theorem dJ6_bitCount_0f7a4_0 : decode cJ6_bitCount_0f7a4 0 = .ok (.iload_n 0, 1) := by decide +kernel
theorem dJ6_bitCount_0f7a4_1 : decode cJ6_bitCount_0f7a4 1 = .ok (.iload_n 0, 1) := by decide +kernel
theorem dJ6_bitCount_0f7a4_2 : decode cJ6_bitCount_0f7a4 2 = .ok (.iconst 1, 1) := by decide +kernel
theorem dJ6_bitCount_0f7a4_3 : decode cJ6_bitCount_0f7a4 3 = .ok (.iushr, 1) := by decide +kernel
theorem dJ6_bitCount_0f7a4_4 : decode cJ6_bitCount_0f7a4 4 = .ok (.ldc_w 265, 3) := by decide +kernel
theorem dJ6_bitCount_0f7a4_7 : decode cJ6_bitCount_0f7a4 7 = .ok (.iand, 1) := by decide +kernel
theorem dJ6_bitCount_0f7a4_8 : decode cJ6_bitCount_0f7a4 8 = .ok (.isub, 1) := by decide +kernel
theorem dJ6_bitCount_0f7a4_9 : decode cJ6_bitCount_0f7a4 9 = .ok (.istore_n 0, 1) := by decide +kernel
theorem dJ6_bitCount_0f7a4_10 : decode cJ6_bitCount_0f7a4 10 = .ok (.iload_n 0, 1) := by decide +kernel
theorem dJ6_bitCount_0f7a4_11 : decode cJ6_bitCount_0f7a4 11 = .ok (.ldc_w 266, 3) := by decide +kernel
theorem dJ6_bitCount_0f7a4_14 : decode cJ6_bitCount_0f7a4 14 = .ok (.iand, 1) := by decide +kernel
theorem dJ6_bitCount_0f7a4_15 : decode cJ6_bitCount_0f7a4 15 = .ok (.iload_n 0, 1) := by decide +kernel
theorem dJ6_bitCount_0f7a4_16 : decode cJ6_bitCount_0f7a4 16 = .ok (.iconst 2, 1) := by decide +kernel
theorem dJ6_bitCount_0f7a4_17 : decode cJ6_bitCount_0f7a4 17 = .ok (.iushr, 1) := by decide +kernel
theorem dJ6_bitCount_0f7a4_18 : decode cJ6_bitCount_0f7a4 18 = .ok (.ldc_w 266, 3) := by decide +kernel
theorem dJ6_bitCount_0f7a4_21 : decode cJ6_bitCount_0f7a4 21 = .ok (.iand, 1) := by decide +kernel
theorem dJ6_bitCount_0f7a4_22 : decode cJ6_bitCount_0f7a4 22 = .ok (.iadd, 1) := by decide +kernel
theorem dJ6_bitCount_0f7a4_23 : decode cJ6_bitCount_0f7a4 23 = .ok (.istore_n 0, 1) := by decide +kernel
theorem dJ6_bitCount_0f7a4_24 : decode cJ6_bitCount_0f7a4 24 = .ok (.iload_n 0, 1) := by decide +kernel
theorem dJ6_bitCount_0f7a4_25 : decode cJ6_bitCount_0f7a4 25 = .ok (.iload_n 0, 1) := by decide +kernel
theorem dJ6_bitCount_0f7a4_26 : decode cJ6_bitCount_0f7a4 26 = .ok (.iconst 4, 1) := by decide +kernel
theorem dJ6_bitCount_0f7a4_27 : decode cJ6_bitCount_0f7a4 27 = .ok (.iushr, 1) := by decide +kernel
theorem dJ6_bitCount_0f7a4_28 : decode cJ6_bitCount_0f7a4 28 = .ok (.iadd, 1) := by decide +kernel
theorem dJ6_bitCount_0f7a4_29 : decode cJ6_bitCount_0f7a4 29 = .ok (.ldc_w 267, 3) := by decide +kernel
theorem dJ6_bitCount_0f7a4_32 : decode cJ6_bitCount_0f7a4 32 = .ok (.iand, 1) := by decide +kernel
theorem dJ6_bitCount_0f7a4_33 : decode cJ6_bitCount_0f7a4 33 = .ok (.istore_n 0, 1) := by decide +kernel
theorem dJ6_bitCount_0f7a4_34 : decode cJ6_bitCount_0f7a4 34 = .ok (.iload_n 0, 1) := by decide +kernel
theorem dJ6_bitCount_0f7a4_35 : decode cJ6_bitCount_0f7a4 35 = .ok (.iload_n 0, 1) := by decide +kernel
theorem dJ6_bitCount_0f7a4_36 : decode cJ6_bitCount_0f7a4 36 = .ok (.bipush 8, 2) := by decide +kernel
theorem dJ6_bitCount_0f7a4_38 : decode cJ6_bitCount_0f7a4 38 = .ok (.iushr, 1) := by decide +kernel
theorem dJ6_bitCount_0f7a4_39 : decode cJ6_bitCount_0f7a4 39 = .ok (.iadd, 1) := by decide +kernel
theorem dJ6_bitCount_0f7a4_40 : decode cJ6_bitCount_0f7a4 40 = .ok (.istore_n 0, 1) := by decide +kernel
theorem dJ6_bitCount_0f7a4_41 : decode cJ6_bitCount_0f7a4 41 = .ok (.iload_n 0, 1) := by decide +kernel
theorem dJ6_bitCount_0f7a4_42 : decode cJ6_bitCount_0f7a4 42 = .ok (.iload_n 0, 1) := by decide +kernel
theorem dJ6_bitCount_0f7a4_43 : decode cJ6_bitCount_0f7a4 43 = .ok (.bipush 16, 2) := by decide +kernel
theorem dJ6_bitCount_0f7a4_45 : decode cJ6_bitCount_0f7a4 45 = .ok (.iushr, 1) := by decide +kernel
theorem dJ6_bitCount_0f7a4_46 : decode cJ6_bitCount_0f7a4 46 = .ok (.iadd, 1) := by decide +kernel
theorem dJ6_bitCount_0f7a4_47 : decode cJ6_bitCount_0f7a4 47 = .ok (.istore_n 0, 1) := by decide +kernel
theorem dJ6_bitCount_0f7a4_48 : decode cJ6_bitCount_0f7a4 48 = .ok (.iload_n 0, 1) := by decide +kernel
theorem dJ6_bitCount_0f7a4_49 : decode cJ6_bitCount_0f7a4 49 = .ok (.bipush 63, 2) := by decide +kernel
theorem dJ6_bitCount_0f7a4_51 : decode cJ6_bitCount_0f7a4 51 = .ok (.iand, 1) := by decide +kernel
theorem dJ6_bitCount_0f7a4_52 : decode cJ6_bitCount_0f7a4 52 = .ok (.ireturn, 1) := by decide +kernel
theorem dJ9_max_7cf53_0 : decode cJ9_max_7cf53 0 = .ok (.iload_n 0, 1) := by decide +kernel
theorem dJ9_max_7cf53_1 : decode cJ9_max_7cf53 1 = .ok (.iload_n 1, 1) := by decide +kernel
theorem dJ9_max_7cf53_2 : decode cJ9_max_7cf53 2 = .ok (.if_icmp .lt 7, 3) := by decide +kernel
theorem dJ9_max_7cf53_5 : decode cJ9_max_7cf53 5 = .ok (.iload_n 0, 1) := by decide +kernel
theorem dJ9_max_7cf53_6 : decode cJ9_max_7cf53 6 = .ok (.goto 4, 3) := by decide +kernel
theorem dJ9_max_7cf53_9 : decode cJ9_max_7cf53 9 = .ok (.iload_n 1, 1) := by decide +kernel
theorem dJ9_max_7cf53_10 : decode cJ9_max_7cf53 10 = .ok (.ireturn, 1) := by decide +kernel
theorem dJ7_fill_53178_0 : decode cJ7_fill_53178 0 = .ok (.iconst 0, 1) := by decide +kernel
theorem dJ7_fill_53178_1 : decode cJ7_fill_53178 1 = .ok (.istore_n 2, 1) := by decide +kernel
theorem dJ7_fill_53178_2 : decode cJ7_fill_53178 2 = .ok (.aload_n 0, 1) := by decide +kernel
theorem dJ7_fill_53178_3 : decode cJ7_fill_53178 3 = .ok (.arraylength, 1) := by decide +kernel
theorem dJ7_fill_53178_4 : decode cJ7_fill_53178 4 = .ok (.istore_n 3, 1) := by decide +kernel
theorem dJ7_fill_53178_5 : decode cJ7_fill_53178 5 = .ok (.iload_n 2, 1) := by decide +kernel
theorem dJ7_fill_53178_6 : decode cJ7_fill_53178 6 = .ok (.iload_n 3, 1) := by decide +kernel
theorem dJ7_fill_53178_7 : decode cJ7_fill_53178 7 = .ok (.if_icmp .ge 13, 3) := by decide +kernel
theorem dJ7_fill_53178_10 : decode cJ7_fill_53178 10 = .ok (.aload_n 0, 1) := by decide +kernel
theorem dJ7_fill_53178_11 : decode cJ7_fill_53178 11 = .ok (.iload_n 2, 1) := by decide +kernel
theorem dJ7_fill_53178_12 : decode cJ7_fill_53178 12 = .ok (.iload_n 1, 1) := by decide +kernel
theorem dJ7_fill_53178_13 : decode cJ7_fill_53178 13 = .ok (.iastore, 1) := by decide +kernel
theorem dJ7_fill_53178_14 : decode cJ7_fill_53178 14 = .ok (.iinc 2 1, 3) := by decide +kernel
theorem dJ7_fill_53178_17 : decode cJ7_fill_53178 17 = .ok (.goto (-12), 3) := by decide +kernel
theorem dJ7_fill_53178_20 : decode cJ7_fill_53178 20 = .ok (.return_, 1) := by decide +kernel
end
section
theorem dX5_init_0 : decode cX5_init 0 = .ok (.aload_n 0, 1) := by decide +kernel
theorem dX5_init_1 : decode cX5_init 1 = .ok (.invokespecial 1, 3) := by decide +kernel
theorem dX5_init_4 : decode cX5_init 4 = .ok (.aload_n 0, 1) := by decide +kernel
theorem dX5_init_5 : decode cX5_init 5 = .ok (.new 7, 3) := by decide +kernel
theorem dX5_init_8 : decode cX5_init 8 = .ok (.dup, 1) := by decide +kernel
theorem dX5_init_9 : decode cX5_init 9 = .ok (.invokespecial 9, 3) := by decide +kernel
theorem dX5_init_12 : decode cX5_init 12 = .ok (.putfield 10, 3) := by decide +kernel
theorem dX5_init_15 : decode cX5_init 15 = .ok (.aload_n 0, 1) := by decide +kernel
theorem dX5_init_16 : decode cX5_init 16 = .ok (.new 16, 3) := by decide +kernel
theorem dX5_init_19 : decode cX5_init 19 = .ok (.dup, 1) := by decide +kernel
theorem dX5_init_20 : decode cX5_init 20 = .ok (.invokespecial 18, 3) := by decide +kernel
theorem dX5_init_23 : decode cX5_init 23 = .ok (.putfield 19, 3) := by decide +kernel
theorem dX5_init_26 : decode cX5_init 26 = .ok (.aload_n 0, 1) := by decide +kernel
theorem dX5_init_27 : decode cX5_init 27 = .ok (.new 23, 3) := by decide +kernel
theorem dX5_init_30 : decode cX5_init 30 = .ok (.dup, 1) := by decide +kernel
theorem dX5_init_31 : decode cX5_init 31 = .ok (.invokespecial 25, 3) := by decide +kernel
theorem dX5_init_34 : decode cX5_init 34 = .ok (.putfield 26, 3) := by decide +kernel
theorem dX5_init_37 : decode cX5_init 37 = .ok (.aload_n 0, 1) := by decide +kernel
theorem dX5_init_38 : decode cX5_init 38 = .ok (.new 30, 3) := by decide +kernel
theorem dX5_init_41 : decode cX5_init 41 = .ok (.dup, 1) := by decide +kernel
theorem dX5_init_42 : decode cX5_init 42 = .ok (.invokespecial 32, 3) := by decide +kernel
theorem dX5_init_45 : decode cX5_init 45 = .ok (.putfield 33, 3) := by decide +kernel
theorem dX5_init_48 : decode cX5_init 48 = .ok (.aload_n 0, 1) := by decide +kernel
theorem dX5_init_49 : decode cX5_init 49 = .ok (.new 37, 3) := by decide +kernel
theorem dX5_init_52 : decode cX5_init 52 = .ok (.dup, 1) := by decide +kernel
theorem dX5_init_53 : decode cX5_init 53 = .ok (.invokespecial 39, 3) := by decide +kernel
theorem dX5_init_56 : decode cX5_init 56 = .ok (.putfield 40, 3) := by decide +kernel
theorem dX5_init_59 : decode cX5_init 59 = .ok (.aload_n 0, 1) := by decide +kernel
theorem dX5_init_60 : decode cX5_init 60 = .ok (.bipush 8, 2) := by decide +kernel
theorem dX5_init_62 : decode cX5_init 62 = .ok (.newarray .int, 2) := by decide +kernel
theorem dX5_init_64 : decode cX5_init 64 = .ok (.putfield 44, 3) := by decide +kernel
theorem dX5_init_67 : decode cX5_init 67 = .ok (.aload_n 0, 1) := by decide +kernel
theorem dX5_init_68 : decode cX5_init 68 = .ok (.bipush 7, 2) := by decide +kernel
theorem dX5_init_70 : decode cX5_init 70 = .ok (.newarray .int, 2) := by decide +kernel
theorem dX5_init_72 : decode cX5_init 72 = .ok (.putfield 48, 3) := by decide +kernel
theorem dX5_init_75 : decode cX5_init 75 = .ok (.aload_n 0, 1) := by decide +kernel
theorem dX5_init_76 : decode cX5_init 76 = .ok (.sipush 160, 3) := by decide +kernel
theorem dX5_init_79 : decode cX5_init 79 = .ok (.newarray .int, 2) := by decide +kernel
theorem dX5_init_81 : decode cX5_init 81 = .ok (.putfield 51, 3) := by decide +kernel
theorem dX5_init_84 : decode cX5_init 84 = .ok (.aload_n 0, 1) := by decide +kernel
theorem dX5_init_85 : decode cX5_init 85 = .ok (.iconst 4, 1) := by decide +kernel
theorem dX5_init_86 : decode cX5_init 86 = .ok (.putfield 54, 3) := by decide +kernel
theorem dX5_init_89 : decode cX5_init 89 = .ok (.aload_n 0, 1) := by decide +kernel
theorem dX5_init_90 : decode cX5_init 90 = .ok (.iconst 0, 1) := by decide +kernel
theorem dX5_init_91 : decode cX5_init 91 = .ok (.putfield 58, 3) := by decide +kernel
theorem dX5_init_94 : decode cX5_init 94 = .ok (.aload_n 0, 1) := by decide +kernel
theorem dX5_init_95 : decode cX5_init 95 = .ok (.getfield 51, 3) := by decide +kernel
theorem dX5_init_98 : decode cX5_init 98 = .ok (.iconst (-1), 1) := by decide +kernel
theorem dX5_init_99 : decode cX5_init 99 = .ok (.invokestatic 61, 3) := by decide +kernel
theorem dX5_init_102 : decode cX5_init 102 = .ok (.return_, 1) := by decide +kernel
theorem dX5_minute_0 : decode cX5_minute 0 = .ok (.iload_n 1, 1) := by decide +kernel
theorem dX5_minute_1 : decode cX5_minute 1 = .ok (.invokestatic 67, 3) := by decide +kernel
theorem dX5_minute_4 : decode cX5_minute 4 = .ok (.ifCond .ne 9, 3) := by decide +kernel
theorem dX5_minute_7 : decode cX5_minute 7 = .ok (.aload_n 0, 1) := by decide +kernel
theorem dX5_minute_8 : decode cX5_minute 8 = .ok (.iconst (-1), 1) := by decide +kernel
theorem dX5_minute_9 : decode cX5_minute 9 = .ok (.invokevirtual 71, 3) := by decide +kernel
theorem dX5_minute_12 : decode cX5_minute 12 = .ok (.ireturn, 1) := by decide +kernel
theorem dX5_minute_13 : decode cX5_minute 13 = .ok (.iload_n 2, 1) := by decide +kernel
theorem dX5_minute_14 : decode cX5_minute 14 = .ok (.bipush (-50), 2) := by decide +kernel
theorem dX5_minute_16 : decode cX5_minute 16 = .ok (.if_icmp .lt 15, 3) := by decide +kernel
theorem dX5_minute_19 : decode cX5_minute 19 = .ok (.iload_n 3, 1) := by decide +kernel
theorem dX5_minute_20 : decode cX5_minute 20 = .ok (.bipush (-50), 2) := by decide +kernel
theorem dX5_minute_22 : decode cX5_minute 22 = .ok (.if_icmp .lt 9, 3) := by decide +kernel
theorem dX5_minute_25 : decode cX5_minute 25 = .ok (.iload 4, 2) := by decide +kernel
theorem dX5_minute_27 : decode cX5_minute 27 = .ok (.iconst 1, 1) := by decide +kernel
theorem dX5_minute_28 : decode cX5_minute 28 = .ok (.if_icmp .ge 10, 3) := by decide +kernel
theorem dX5_minute_31 : decode cX5_minute 31 = .ok (.aload_n 0, 1) := by decide +kernel
theorem dX5_minute_32 : decode cX5_minute 32 = .ok (.bipush (-4), 2) := by decide +kernel
theorem dX5_minute_34 : decode cX5_minute 34 = .ok (.invokevirtual 71, 3) := by decide +kernel
theorem dX5_minute_37 : decode cX5_minute 37 = .ok (.ireturn, 1) := by decide +kernel
theorem dX5_minute_38 : decode cX5_minute 38 = .ok (.iload_n 2, 1) := by decide +kernel
theorem dX5_minute_39 : decode cX5_minute 39 = .ok (.bipush 50, 2) := by decide +kernel
theorem dX5_minute_41 : decode cX5_minute 41 = .ok (.if_icmp .gt 27, 3) := by decide +kernel
theorem dX5_minute_44 : decode cX5_minute 44 = .ok (.iload_n 3, 1) := by decide +kernel
theorem dX5_minute_45 : decode cX5_minute 45 = .ok (.bipush 50, 2) := by decide +kernel
theorem dX5_minute_47 : decode cX5_minute 47 = .ok (.if_icmp .gt 21, 3) := by decide +kernel
theorem dX5_minute_50 : decode cX5_minute 50 = .ok (.iload 4, 2) := by decide +kernel
theorem dX5_minute_52 : decode cX5_minute 52 = .ok (.bipush 50, 2) := by decide +kernel
theorem dX5_minute_54 : decode cX5_minute 54 = .ok (.if_icmp .gt 14, 3) := by decide +kernel
theorem dX5_minute_57 : decode cX5_minute 57 = .ok (.aload_n 0, 1) := by decide +kernel
theorem dX5_minute_58 : decode cX5_minute 58 = .ok (.getfield 10, 3) := by decide +kernel
theorem dX5_minute_61 : decode cX5_minute 61 = .ok (.iload_n 1, 1) := by decide +kernel
theorem dX5_minute_62 : decode cX5_minute 62 = .ok (.invokevirtual 75, 3) := by decide +kernel
theorem dX5_minute_65 : decode cX5_minute 65 = .ok (.ifCond .eq 10, 3) := by decide +kernel
theorem dX5_minute_68 : decode cX5_minute 68 = .ok (.aload_n 0, 1) := by decide +kernel
theorem dX5_minute_69 : decode cX5_minute 69 = .ok (.bipush (-6), 2) := by decide +kernel
theorem dX5_minute_71 : decode cX5_minute 71 = .ok (.invokevirtual 71, 3) := by decide +kernel
theorem dX5_minute_74 : decode cX5_minute 74 = .ok (.ireturn, 1) := by decide +kernel
theorem dX5_minute_75 : decode cX5_minute 75 = .ok (.aload_n 0, 1) := by decide +kernel
theorem dX5_minute_76 : decode cX5_minute 76 = .ok (.invokevirtual 78, 3) := by decide +kernel
theorem dX5_minute_79 : decode cX5_minute 79 = .ok (.aload_n 0, 1) := by decide +kernel
theorem dX5_minute_80 : decode cX5_minute 80 = .ok (.getfield 10, 3) := by decide +kernel
theorem dX5_minute_83 : decode cX5_minute 83 = .ok (.iload_n 1, 1) := by decide +kernel
theorem dX5_minute_84 : decode cX5_minute 84 = .ok (.iload_n 2, 1) := by decide +kernel
theorem dX5_minute_85 : decode cX5_minute 85 = .ok (.iload_n 3, 1) := by decide +kernel
theorem dX5_minute_86 : decode cX5_minute 86 = .ok (.iload 4, 2) := by decide +kernel
theorem dX5_minute_88 : decode cX5_minute 88 = .ok (.invokevirtual 81, 3) := by decide +kernel
theorem dX5_minute_91 : decode cX5_minute 91 = .ok (.ireturn, 1) := by decide +kernel
theorem dX5_block_0 : decode cX5_block 0 = .ok (.iload_n 1, 1) := by decide +kernel
theorem dX5_block_1 : decode cX5_block 1 = .ok (.ifCond .lt 8, 3) := by decide +kernel
theorem dX5_block_4 : decode cX5_block 4 = .ok (.iload_n 1, 1) := by decide +kernel
theorem dX5_block_5 : decode cX5_block 5 = .ok (.iconst 3, 1) := by decide +kernel
theorem dX5_block_6 : decode cX5_block 6 = .ok (.if_icmp .le 10, 3) := by decide +kernel
theorem dX5_block_9 : decode cX5_block 9 = .ok (.aload_n 0, 1) := by decide +kernel
theorem dX5_block_10 : decode cX5_block 10 = .ok (.bipush (-2), 2) := by decide +kernel
theorem dX5_block_12 : decode cX5_block 12 = .ok (.invokevirtual 71, 3) := by decide +kernel
theorem dX5_block_15 : decode cX5_block 15 = .ok (.ireturn, 1) := by decide +kernel
theorem dX5_block_16 : decode cX5_block 16 = .ok (.iload_n 2, 1) := by decide +kernel
theorem dX5_block_17 : decode cX5_block 17 = .ok (.ifCond .lt 32, 3) := by decide +kernel
theorem dX5_block_20 : decode cX5_block 20 = .ok (.iload 4, 2) := by decide +kernel
theorem dX5_block_22 : decode cX5_block 22 = .ok (.ifCond .lt 27, 3) := by decide +kernel
theorem dX5_block_25 : decode cX5_block 25 = .ok (.iload 6, 2) := by decide +kernel
theorem dX5_block_27 : decode cX5_block 27 = .ok (.ifCond .lt 22, 3) := by decide +kernel
theorem dX5_block_30 : decode cX5_block 30 = .ok (.iload_n 3, 1) := by decide +kernel
theorem dX5_block_31 : decode cX5_block 31 = .ok (.iload_n 2, 1) := by decide +kernel
theorem dX5_block_32 : decode cX5_block 32 = .ok (.if_icmp .le 17, 3) := by decide +kernel
theorem dX5_block_35 : decode cX5_block 35 = .ok (.iload 5, 2) := by decide +kernel
theorem dX5_block_37 : decode cX5_block 37 = .ok (.iload 4, 2) := by decide +kernel
theorem dX5_block_39 : decode cX5_block 39 = .ok (.if_icmp .le 10, 3) := by decide +kernel
theorem dX5_block_42 : decode cX5_block 42 = .ok (.iload 7, 2) := by decide +kernel
theorem dX5_block_44 : decode cX5_block 44 = .ok (.iload 6, 2) := by decide +kernel
theorem dX5_block_46 : decode cX5_block 46 = .ok (.if_icmp .gt 10, 3) := by decide +kernel
theorem dX5_block_49 : decode cX5_block 49 = .ok (.aload_n 0, 1) := by decide +kernel
theorem dX5_block_50 : decode cX5_block 50 = .ok (.bipush (-4), 2) := by decide +kernel
theorem dX5_block_52 : decode cX5_block 52 = .ok (.invokevirtual 71, 3) := by decide +kernel
theorem dX5_block_55 : decode cX5_block 55 = .ok (.ireturn, 1) := by decide +kernel
theorem dX5_block_56 : decode cX5_block 56 = .ok (.iload_n 3, 1) := by decide +kernel
theorem dX5_block_57 : decode cX5_block 57 = .ok (.sipush 200, 3) := by decide +kernel
theorem dX5_block_60 : decode cX5_block 60 = .ok (.if_icmp .gt 29, 3) := by decide +kernel
theorem dX5_block_63 : decode cX5_block 63 = .ok (.iload 5, 2) := by decide +kernel
theorem dX5_block_65 : decode cX5_block 65 = .ok (.sipush 200, 3) := by decide +kernel
theorem dX5_block_68 : decode cX5_block 68 = .ok (.if_icmp .gt 21, 3) := by decide +kernel
theorem dX5_block_71 : decode cX5_block 71 = .ok (.iload 7, 2) := by decide +kernel
theorem dX5_block_73 : decode cX5_block 73 = .ok (.sipush 200, 3) := by decide +kernel
theorem dX5_block_76 : decode cX5_block 76 = .ok (.if_icmp .gt 13, 3) := by decide +kernel
theorem dX5_block_79 : decode cX5_block 79 = .ok (.aload_n 0, 1) := by decide +kernel
theorem dX5_block_80 : decode cX5_block 80 = .ok (.getfield 19, 3) := by decide +kernel
theorem dX5_block_83 : decode cX5_block 83 = .ok (.invokevirtual 85, 3) := by decide +kernel
theorem dX5_block_86 : decode cX5_block 86 = .ok (.ifCond .eq 10, 3) := by decide +kernel
theorem dX5_block_89 : decode cX5_block 89 = .ok (.aload_n 0, 1) := by decide +kernel
theorem dX5_block_90 : decode cX5_block 90 = .ok (.bipush (-6), 2) := by decide +kernel
theorem dX5_block_92 : decode cX5_block 92 = .ok (.invokevirtual 71, 3) := by decide +kernel
theorem dX5_block_95 : decode cX5_block 95 = .ok (.ireturn, 1) := by decide +kernel
theorem dX5_block_96 : decode cX5_block 96 = .ok (.aload_n 0, 1) := by decide +kernel
theorem dX5_block_97 : decode cX5_block 97 = .ok (.invokevirtual 78, 3) := by decide +kernel
theorem dX5_block_100 : decode cX5_block 100 = .ok (.aload_n 0, 1) := by decide +kernel
theorem dX5_block_101 : decode cX5_block 101 = .ok (.getfield 19, 3) := by decide +kernel
theorem dX5_block_104 : decode cX5_block 104 = .ok (.iload_n 1, 1) := by decide +kernel
theorem dX5_block_105 : decode cX5_block 105 = .ok (.iload_n 2, 1) := by decide +kernel
theorem dX5_block_106 : decode cX5_block 106 = .ok (.iload_n 3, 1) := by decide +kernel
theorem dX5_block_107 : decode cX5_block 107 = .ok (.iload 4, 2) := by decide +kernel
theorem dX5_block_109 : decode cX5_block 109 = .ok (.iload 5, 2) := by decide +kernel
theorem dX5_block_111 : decode cX5_block 111 = .ok (.iload 6, 2) := by decide +kernel
theorem dX5_block_113 : decode cX5_block 113 = .ok (.iload 7, 2) := by decide +kernel
theorem dX5_block_115 : decode cX5_block 115 = .ok (.invokevirtual 88, 3) := by decide +kernel
theorem dX5_block_118 : decode cX5_block 118 = .ok (.ireturn, 1) := by decide +kernel
theorem dX5_share_0 : decode cX5_share 0 = .ok (.iload_n 2, 1) := by decide +kernel
theorem dX5_share_1 : decode cX5_share 1 = .ok (.invokestatic 67, 3) := by decide +kernel
theorem dX5_share_4 : decode cX5_share 4 = .ok (.ifCond .eq 14, 3) := by decide +kernel
theorem dX5_share_7 : decode cX5_share 7 = .ok (.aload_n 0, 1) := by decide +kernel
theorem dX5_share_8 : decode cX5_share 8 = .ok (.getfield 19, 3) := by decide +kernel
theorem dX5_share_11 : decode cX5_share 11 = .ok (.iload_n 1, 1) := by decide +kernel
theorem dX5_share_12 : decode cX5_share 12 = .ok (.invokevirtual 91, 3) := by decide +kernel
theorem dX5_share_15 : decode cX5_share 15 = .ok (.goto 4, 3) := by decide +kernel
theorem dX5_share_18 : decode cX5_share 18 = .ok (.iconst (-1), 1) := by decide +kernel
theorem dX5_share_19 : decode cX5_share 19 = .ok (.istore 4, 2) := by decide +kernel
theorem dX5_share_21 : decode cX5_share 21 = .ok (.iload 4, 2) := by decide +kernel
theorem dX5_share_23 : decode cX5_share 23 = .ok (.ifCond .eq 10, 3) := by decide +kernel
theorem dX5_share_26 : decode cX5_share 26 = .ok (.aload_n 0, 1) := by decide +kernel
theorem dX5_share_27 : decode cX5_share 27 = .ok (.iload 4, 2) := by decide +kernel
theorem dX5_share_29 : decode cX5_share 29 = .ok (.invokevirtual 71, 3) := by decide +kernel
theorem dX5_share_32 : decode cX5_share 32 = .ok (.ireturn, 1) := by decide +kernel
theorem dX5_share_33 : decode cX5_share 33 = .ok (.iload_n 3, 1) := by decide +kernel
theorem dX5_share_34 : decode cX5_share 34 = .ok (.ifCond .ge 10, 3) := by decide +kernel
theorem dX5_share_37 : decode cX5_share 37 = .ok (.aload_n 0, 1) := by decide +kernel
theorem dX5_share_38 : decode cX5_share 38 = .ok (.bipush (-4), 2) := by decide +kernel
theorem dX5_share_40 : decode cX5_share 40 = .ok (.invokevirtual 71, 3) := by decide +kernel
theorem dX5_share_43 : decode cX5_share 43 = .ok (.ireturn, 1) := by decide +kernel
theorem dX5_share_44 : decode cX5_share 44 = .ok (.iload_n 3, 1) := by decide +kernel
theorem dX5_share_45 : decode cX5_share 45 = .ok (.bipush 8, 2) := by decide +kernel
theorem dX5_share_47 : decode cX5_share 47 = .ok (.if_icmp .le 10, 3) := by decide +kernel
theorem dX5_share_50 : decode cX5_share 50 = .ok (.aload_n 0, 1) := by decide +kernel
theorem dX5_share_51 : decode cX5_share 51 = .ok (.bipush (-6), 2) := by decide +kernel
theorem dX5_share_53 : decode cX5_share 53 = .ok (.invokevirtual 71, 3) := by decide +kernel
theorem dX5_share_56 : decode cX5_share 56 = .ok (.ireturn, 1) := by decide +kernel
theorem dX5_share_57 : decode cX5_share 57 = .ok (.aload_n 0, 1) := by decide +kernel
theorem dX5_share_58 : decode cX5_share 58 = .ok (.getfield 19, 3) := by decide +kernel
theorem dX5_share_61 : decode cX5_share 61 = .ok (.getfield 94, 3) := by decide +kernel
theorem dX5_share_64 : decode cX5_share 64 = .ok (.iload_n 1, 1) := by decide +kernel
theorem dX5_share_65 : decode cX5_share 65 = .ok (.bipush 8, 2) := by decide +kernel
theorem dX5_share_67 : decode cX5_share 67 = .ok (.imul, 1) := by decide +kernel
theorem dX5_share_68 : decode cX5_share 68 = .ok (.iload_n 2, 1) := by decide +kernel
theorem dX5_share_69 : decode cX5_share 69 = .ok (.iadd, 1) := by decide +kernel
theorem dX5_share_70 : decode cX5_share 70 = .ok (.iaload, 1) := by decide +kernel
theorem dX5_share_71 : decode cX5_share 71 = .ok (.istore 5, 2) := by decide +kernel
theorem dX5_share_73 : decode cX5_share 73 = .ok (.aload_n 0, 1) := by decide +kernel
theorem dX5_share_74 : decode cX5_share 74 = .ok (.getfield 19, 3) := by decide +kernel
theorem dX5_share_77 : decode cX5_share 77 = .ok (.getfield 94, 3) := by decide +kernel
theorem dX5_share_80 : decode cX5_share 80 = .ok (.iload_n 1, 1) := by decide +kernel
theorem dX5_share_81 : decode cX5_share 81 = .ok (.bipush 8, 2) := by decide +kernel
theorem dX5_share_83 : decode cX5_share 83 = .ok (.imul, 1) := by decide +kernel
theorem dX5_share_84 : decode cX5_share 84 = .ok (.iload_n 2, 1) := by decide +kernel
theorem dX5_share_85 : decode cX5_share 85 = .ok (.iadd, 1) := by decide +kernel
theorem dX5_share_86 : decode cX5_share 86 = .ok (.iload_n 3, 1) := by decide +kernel
theorem dX5_share_87 : decode cX5_share 87 = .ok (.iastore, 1) := by decide +kernel
theorem dX5_share_88 : decode cX5_share 88 = .ok (.aload_n 0, 1) := by decide +kernel
theorem dX5_share_89 : decode cX5_share 89 = .ok (.invokevirtual 78, 3) := by decide +kernel
theorem dX5_share_92 : decode cX5_share 92 = .ok (.iload 5, 2) := by decide +kernel
theorem dX5_share_94 : decode cX5_share 94 = .ok (.ireturn, 1) := by decide +kernel
theorem dX5_most_0 : decode cX5_most 0 = .ok (.aload_n 0, 1) := by decide +kernel
theorem dX5_most_1 : decode cX5_most 1 = .ok (.getfield 19, 3) := by decide +kernel
theorem dX5_most_4 : decode cX5_most 4 = .ok (.iload_n 1, 1) := by decide +kernel
theorem dX5_most_5 : decode cX5_most 5 = .ok (.invokevirtual 91, 3) := by decide +kernel
theorem dX5_most_8 : decode cX5_most 8 = .ok (.istore_n 3, 1) := by decide +kernel
theorem dX5_most_9 : decode cX5_most 9 = .ok (.iload_n 3, 1) := by decide +kernel
theorem dX5_most_10 : decode cX5_most 10 = .ok (.ifCond .eq 9, 3) := by decide +kernel
theorem dX5_most_13 : decode cX5_most 13 = .ok (.aload_n 0, 1) := by decide +kernel
theorem dX5_most_14 : decode cX5_most 14 = .ok (.iload_n 3, 1) := by decide +kernel
theorem dX5_most_15 : decode cX5_most 15 = .ok (.invokevirtual 71, 3) := by decide +kernel
theorem dX5_most_18 : decode cX5_most 18 = .ok (.ireturn, 1) := by decide +kernel
theorem dX5_most_19 : decode cX5_most 19 = .ok (.iload_n 2, 1) := by decide +kernel
theorem dX5_most_20 : decode cX5_most 20 = .ok (.aload_n 0, 1) := by decide +kernel
theorem dX5_most_21 : decode cX5_most 21 = .ok (.getfield 19, 3) := by decide +kernel
theorem dX5_most_24 : decode cX5_most 24 = .ok (.iload_n 1, 1) := by decide +kernel
theorem dX5_most_25 : decode cX5_most 25 = .ok (.invokevirtual 97, 3) := by decide +kernel
theorem dX5_most_28 : decode cX5_most 28 = .ok (.if_icmp .ge 10, 3) := by decide +kernel
theorem dX5_most_31 : decode cX5_most 31 = .ok (.aload_n 0, 1) := by decide +kernel
theorem dX5_most_32 : decode cX5_most 32 = .ok (.bipush (-4), 2) := by decide +kernel
theorem dX5_most_34 : decode cX5_most 34 = .ok (.invokevirtual 71, 3) := by decide +kernel
theorem dX5_most_37 : decode cX5_most 37 = .ok (.ireturn, 1) := by decide +kernel
theorem dX5_most_38 : decode cX5_most 38 = .ok (.iload_n 2, 1) := by decide +kernel
theorem dX5_most_39 : decode cX5_most 39 = .ok (.sipush 200, 3) := by decide +kernel
theorem dX5_most_42 : decode cX5_most 42 = .ok (.if_icmp .le 10, 3) := by decide +kernel
theorem dX5_most_45 : decode cX5_most 45 = .ok (.aload_n 0, 1) := by decide +kernel
theorem dX5_most_46 : decode cX5_most 46 = .ok (.bipush (-6), 2) := by decide +kernel
theorem dX5_most_48 : decode cX5_most 48 = .ok (.invokevirtual 71, 3) := by decide +kernel
theorem dX5_most_51 : decode cX5_most 51 = .ok (.ireturn, 1) := by decide +kernel
theorem dX5_most_52 : decode cX5_most 52 = .ok (.aload_n 0, 1) := by decide +kernel
theorem dX5_most_53 : decode cX5_most 53 = .ok (.getfield 19, 3) := by decide +kernel
theorem dX5_most_56 : decode cX5_most 56 = .ok (.getfield 100, 3) := by decide +kernel
theorem dX5_most_59 : decode cX5_most 59 = .ok (.iload_n 1, 1) := by decide +kernel
theorem dX5_most_60 : decode cX5_most 60 = .ok (.iaload, 1) := by decide +kernel
theorem dX5_most_61 : decode cX5_most 61 = .ok (.istore 4, 2) := by decide +kernel
theorem dX5_most_63 : decode cX5_most 63 = .ok (.aload_n 0, 1) := by decide +kernel
theorem dX5_most_64 : decode cX5_most 64 = .ok (.getfield 19, 3) := by decide +kernel
theorem dX5_most_67 : decode cX5_most 67 = .ok (.getfield 100, 3) := by decide +kernel
theorem dX5_most_70 : decode cX5_most 70 = .ok (.iload_n 1, 1) := by decide +kernel
theorem dX5_most_71 : decode cX5_most 71 = .ok (.iload_n 2, 1) := by decide +kernel
theorem dX5_most_72 : decode cX5_most 72 = .ok (.iastore, 1) := by decide +kernel
theorem dX5_most_73 : decode cX5_most 73 = .ok (.iload 4, 2) := by decide +kernel
theorem dX5_most_75 : decode cX5_most 75 = .ok (.ireturn, 1) := by decide +kernel
theorem dX5_cut_0 : decode cX5_cut 0 = .ok (.aload_n 0, 1) := by decide +kernel
theorem dX5_cut_1 : decode cX5_cut 1 = .ok (.getfield 19, 3) := by decide +kernel
theorem dX5_cut_4 : decode cX5_cut 4 = .ok (.iload_n 1, 1) := by decide +kernel
theorem dX5_cut_5 : decode cX5_cut 5 = .ok (.invokevirtual 91, 3) := by decide +kernel
theorem dX5_cut_8 : decode cX5_cut 8 = .ok (.istore_n 3, 1) := by decide +kernel
theorem dX5_cut_9 : decode cX5_cut 9 = .ok (.iload_n 3, 1) := by decide +kernel
theorem dX5_cut_10 : decode cX5_cut 10 = .ok (.ifCond .eq 9, 3) := by decide +kernel
theorem dX5_cut_13 : decode cX5_cut 13 = .ok (.aload_n 0, 1) := by decide +kernel
theorem dX5_cut_14 : decode cX5_cut 14 = .ok (.iload_n 3, 1) := by decide +kernel
theorem dX5_cut_15 : decode cX5_cut 15 = .ok (.invokevirtual 71, 3) := by decide +kernel
theorem dX5_cut_18 : decode cX5_cut 18 = .ok (.ireturn, 1) := by decide +kernel
theorem dX5_cut_19 : decode cX5_cut 19 = .ok (.aload_n 0, 1) := by decide +kernel
theorem dX5_cut_20 : decode cX5_cut 20 = .ok (.getfield 19, 3) := by decide +kernel
theorem dX5_cut_23 : decode cX5_cut 23 = .ok (.getfield 103, 3) := by decide +kernel
theorem dX5_cut_26 : decode cX5_cut 26 = .ok (.iload_n 1, 1) := by decide +kernel
theorem dX5_cut_27 : decode cX5_cut 27 = .ok (.baload, 1) := by decide +kernel
theorem dX5_cut_28 : decode cX5_cut 28 = .ok (.ifCond .eq 10, 3) := by decide +kernel
theorem dX5_cut_31 : decode cX5_cut 31 = .ok (.aload_n 0, 1) := by decide +kernel
theorem dX5_cut_32 : decode cX5_cut 32 = .ok (.bipush (-3), 2) := by decide +kernel
theorem dX5_cut_34 : decode cX5_cut 34 = .ok (.invokevirtual 71, 3) := by decide +kernel
theorem dX5_cut_37 : decode cX5_cut 37 = .ok (.ireturn, 1) := by decide +kernel
theorem dX5_cut_38 : decode cX5_cut 38 = .ok (.iload_n 2, 1) := by decide +kernel
theorem dX5_cut_39 : decode cX5_cut 39 = .ok (.aload_n 0, 1) := by decide +kernel
theorem dX5_cut_40 : decode cX5_cut 40 = .ok (.getfield 19, 3) := by decide +kernel
theorem dX5_cut_43 : decode cX5_cut 43 = .ok (.iload_n 1, 1) := by decide +kernel
theorem dX5_cut_44 : decode cX5_cut 44 = .ok (.invokevirtual 107, 3) := by decide +kernel
theorem dX5_cut_47 : decode cX5_cut 47 = .ok (.if_icmp .gt 10, 3) := by decide +kernel
theorem dX5_cut_50 : decode cX5_cut 50 = .ok (.aload_n 0, 1) := by decide +kernel
theorem dX5_cut_51 : decode cX5_cut 51 = .ok (.bipush (-4), 2) := by decide +kernel
theorem dX5_cut_53 : decode cX5_cut 53 = .ok (.invokevirtual 71, 3) := by decide +kernel
theorem dX5_cut_56 : decode cX5_cut 56 = .ok (.ireturn, 1) := by decide +kernel
theorem dX5_cut_57 : decode cX5_cut 57 = .ok (.aload_n 0, 1) := by decide +kernel
theorem dX5_cut_58 : decode cX5_cut 58 = .ok (.getfield 19, 3) := by decide +kernel
theorem dX5_cut_61 : decode cX5_cut 61 = .ok (.iload_n 1, 1) := by decide +kernel
theorem dX5_cut_62 : decode cX5_cut 62 = .ok (.invokevirtual 97, 3) := by decide +kernel
theorem dX5_cut_65 : decode cX5_cut 65 = .ok (.istore 4, 2) := by decide +kernel
theorem dX5_cut_67 : decode cX5_cut 67 = .ok (.iload_n 2, 1) := by decide +kernel
theorem dX5_cut_68 : decode cX5_cut 68 = .ok (.iload 4, 2) := by decide +kernel
theorem dX5_cut_70 : decode cX5_cut 70 = .ok (.if_icmp .le 10, 3) := by decide +kernel
theorem dX5_cut_73 : decode cX5_cut 73 = .ok (.aload_n 0, 1) := by decide +kernel
theorem dX5_cut_74 : decode cX5_cut 74 = .ok (.bipush (-6), 2) := by decide +kernel
theorem dX5_cut_76 : decode cX5_cut 76 = .ok (.invokevirtual 71, 3) := by decide +kernel
theorem dX5_cut_79 : decode cX5_cut 79 = .ok (.ireturn, 1) := by decide +kernel
theorem dX5_cut_80 : decode cX5_cut 80 = .ok (.aload_n 0, 1) := by decide +kernel
theorem dX5_cut_81 : decode cX5_cut 81 = .ok (.getfield 19, 3) := by decide +kernel
theorem dX5_cut_84 : decode cX5_cut 84 = .ok (.iload_n 1, 1) := by decide +kernel
theorem dX5_cut_85 : decode cX5_cut 85 = .ok (.iload_n 2, 1) := by decide +kernel
theorem dX5_cut_86 : decode cX5_cut 86 = .ok (.invokevirtual 110, 3) := by decide +kernel
theorem dX5_cut_89 : decode cX5_cut 89 = .ok (.aload_n 0, 1) := by decide +kernel
theorem dX5_cut_90 : decode cX5_cut 90 = .ok (.invokevirtual 78, 3) := by decide +kernel
theorem dX5_cut_93 : decode cX5_cut 93 = .ok (.iload 4, 2) := by decide +kernel
theorem dX5_cut_95 : decode cX5_cut 95 = .ok (.ireturn, 1) := by decide +kernel
theorem dX5_build_0 : decode cX5_build 0 = .ok (.aload_n 0, 1) := by decide +kernel
theorem dX5_build_1 : decode cX5_build 1 = .ok (.getfield 19, 3) := by decide +kernel
theorem dX5_build_4 : decode cX5_build 4 = .ok (.iload_n 1, 1) := by decide +kernel
theorem dX5_build_5 : decode cX5_build 5 = .ok (.invokevirtual 114, 3) := by decide +kernel
theorem dX5_build_8 : decode cX5_build 8 = .ok (.istore_n 2, 1) := by decide +kernel
theorem dX5_build_9 : decode cX5_build 9 = .ok (.iload_n 2, 1) := by decide +kernel
theorem dX5_build_10 : decode cX5_build 10 = .ok (.ifCond .eq 9, 3) := by decide +kernel
theorem dX5_build_13 : decode cX5_build 13 = .ok (.aload_n 0, 1) := by decide +kernel
theorem dX5_build_14 : decode cX5_build 14 = .ok (.iload_n 2, 1) := by decide +kernel
theorem dX5_build_15 : decode cX5_build 15 = .ok (.invokevirtual 71, 3) := by decide +kernel
theorem dX5_build_18 : decode cX5_build 18 = .ok (.ireturn, 1) := by decide +kernel
theorem dX5_build_19 : decode cX5_build 19 = .ok (.aload_n 0, 1) := by decide +kernel
theorem dX5_build_20 : decode cX5_build 20 = .ok (.getfield 19, 3) := by decide +kernel
theorem dX5_build_23 : decode cX5_build 23 = .ok (.getfield 117, 3) := by decide +kernel
theorem dX5_build_26 : decode cX5_build 26 = .ok (.iload_n 1, 1) := by decide +kernel
theorem dX5_build_27 : decode cX5_build 27 = .ok (.iconst 1, 1) := by decide +kernel
theorem dX5_build_28 : decode cX5_build 28 = .ok (.bastore, 1) := by decide +kernel
theorem dX5_build_29 : decode cX5_build 29 = .ok (.aload_n 0, 1) := by decide +kernel
theorem dX5_build_30 : decode cX5_build 30 = .ok (.invokevirtual 78, 3) := by decide +kernel
theorem dX5_build_33 : decode cX5_build 33 = .ok (.iconst 1, 1) := by decide +kernel
theorem dX5_build_34 : decode cX5_build 34 = .ok (.ireturn, 1) := by decide +kernel
theorem dX5_go_0 : decode cX5_go 0 = .ok (.aload_n 0, 1) := by decide +kernel
theorem dX5_go_1 : decode cX5_go 1 = .ok (.getfield 19, 3) := by decide +kernel
theorem dX5_go_4 : decode cX5_go 4 = .ok (.iload_n 1, 1) := by decide +kernel
theorem dX5_go_5 : decode cX5_go 5 = .ok (.invokevirtual 120, 3) := by decide +kernel
theorem dX5_go_8 : decode cX5_go 8 = .ok (.ifCond .ne 9, 3) := by decide +kernel
theorem dX5_go_11 : decode cX5_go 11 = .ok (.aload_n 0, 1) := by decide +kernel
theorem dX5_go_12 : decode cX5_go 12 = .ok (.iconst (-1), 1) := by decide +kernel
theorem dX5_go_13 : decode cX5_go 13 = .ok (.invokevirtual 71, 3) := by decide +kernel
theorem dX5_go_16 : decode cX5_go 16 = .ok (.ireturn, 1) := by decide +kernel
theorem dX5_go_17 : decode cX5_go 17 = .ok (.aload_n 0, 1) := by decide +kernel
theorem dX5_go_18 : decode cX5_go 18 = .ok (.getfield 19, 3) := by decide +kernel
theorem dX5_go_21 : decode cX5_go 21 = .ok (.getfield 103, 3) := by decide +kernel
theorem dX5_go_24 : decode cX5_go 24 = .ok (.iload_n 1, 1) := by decide +kernel
theorem dX5_go_25 : decode cX5_go 25 = .ok (.baload, 1) := by decide +kernel
theorem dX5_go_26 : decode cX5_go 26 = .ok (.ifCond .eq 10, 3) := by decide +kernel
theorem dX5_go_29 : decode cX5_go 29 = .ok (.aload_n 0, 1) := by decide +kernel
theorem dX5_go_30 : decode cX5_go 30 = .ok (.bipush (-3), 2) := by decide +kernel
theorem dX5_go_32 : decode cX5_go 32 = .ok (.invokevirtual 71, 3) := by decide +kernel
theorem dX5_go_35 : decode cX5_go 35 = .ok (.ireturn, 1) := by decide +kernel
theorem dX5_go_36 : decode cX5_go 36 = .ok (.aload_n 0, 1) := by decide +kernel
theorem dX5_go_37 : decode cX5_go 37 = .ok (.getfield 19, 3) := by decide +kernel
theorem dX5_go_40 : decode cX5_go 40 = .ok (.getfield 103, 3) := by decide +kernel
theorem dX5_go_43 : decode cX5_go 43 = .ok (.iload_n 1, 1) := by decide +kernel
theorem dX5_go_44 : decode cX5_go 44 = .ok (.iconst 1, 1) := by decide +kernel
theorem dX5_go_45 : decode cX5_go 45 = .ok (.bastore, 1) := by decide +kernel
theorem dX5_go_46 : decode cX5_go 46 = .ok (.aload_n 0, 1) := by decide +kernel
theorem dX5_go_47 : decode cX5_go 47 = .ok (.getfield 19, 3) := by decide +kernel
theorem dX5_go_50 : decode cX5_go 50 = .ok (.getfield 117, 3) := by decide +kernel
theorem dX5_go_53 : decode cX5_go 53 = .ok (.iload_n 1, 1) := by decide +kernel
theorem dX5_go_54 : decode cX5_go 54 = .ok (.iconst 0, 1) := by decide +kernel
theorem dX5_go_55 : decode cX5_go 55 = .ok (.bastore, 1) := by decide +kernel
theorem dX5_go_56 : decode cX5_go 56 = .ok (.aload_n 0, 1) := by decide +kernel
theorem dX5_go_57 : decode cX5_go 57 = .ok (.invokevirtual 78, 3) := by decide +kernel
theorem dX5_go_60 : decode cX5_go 60 = .ok (.iconst 1, 1) := by decide +kernel
theorem dX5_go_61 : decode cX5_go 61 = .ok (.ireturn, 1) := by decide +kernel
theorem dX5_window_0 : decode cX5_window 0 = .ok (.iload_n 1, 1) := by decide +kernel
theorem dX5_window_1 : decode cX5_window 1 = .ok (.ifCond .lt 8, 3) := by decide +kernel
theorem dX5_window_4 : decode cX5_window 4 = .ok (.iload_n 1, 1) := by decide +kernel
theorem dX5_window_5 : decode cX5_window 5 = .ok (.iconst 4, 1) := by decide +kernel
theorem dX5_window_6 : decode cX5_window 6 = .ok (.if_icmp .lt 10, 3) := by decide +kernel
theorem dX5_window_9 : decode cX5_window 9 = .ok (.aload_n 0, 1) := by decide +kernel
theorem dX5_window_10 : decode cX5_window 10 = .ok (.bipush (-2), 2) := by decide +kernel
theorem dX5_window_12 : decode cX5_window 12 = .ok (.invokevirtual 71, 3) := by decide +kernel
theorem dX5_window_15 : decode cX5_window 15 = .ok (.ireturn, 1) := by decide +kernel
theorem dX5_window_16 : decode cX5_window 16 = .ok (.iload_n 2, 1) := by decide +kernel
theorem dX5_window_17 : decode cX5_window 17 = .ok (.ifCond .lt 25, 3) := by decide +kernel
theorem dX5_window_20 : decode cX5_window 20 = .ok (.iload_n 3, 1) := by decide +kernel
theorem dX5_window_21 : decode cX5_window 21 = .ok (.ifCond .lt 21, 3) := by decide +kernel
theorem dX5_window_24 : decode cX5_window 24 = .ok (.iload 5, 2) := by decide +kernel
theorem dX5_window_26 : decode cX5_window 26 = .ok (.ifCond .lt 16, 3) := by decide +kernel
theorem dX5_window_29 : decode cX5_window 29 = .ok (.iload 4, 2) := by decide +kernel
theorem dX5_window_31 : decode cX5_window 31 = .ok (.iload_n 3, 1) := by decide +kernel
theorem dX5_window_32 : decode cX5_window 32 = .ok (.if_icmp .le 10, 3) := by decide +kernel
theorem dX5_window_35 : decode cX5_window 35 = .ok (.iload 6, 2) := by decide +kernel
theorem dX5_window_37 : decode cX5_window 37 = .ok (.iload 5, 2) := by decide +kernel
theorem dX5_window_39 : decode cX5_window 39 = .ok (.if_icmp .gt 10, 3) := by decide +kernel
theorem dX5_window_42 : decode cX5_window 42 = .ok (.aload_n 0, 1) := by decide +kernel
theorem dX5_window_43 : decode cX5_window 43 = .ok (.bipush (-4), 2) := by decide +kernel
theorem dX5_window_45 : decode cX5_window 45 = .ok (.invokevirtual 71, 3) := by decide +kernel
theorem dX5_window_48 : decode cX5_window 48 = .ok (.ireturn, 1) := by decide +kernel
theorem dX5_window_49 : decode cX5_window 49 = .ok (.iload_n 2, 1) := by decide +kernel
theorem dX5_window_50 : decode cX5_window 50 = .ok (.sipush 200, 3) := by decide +kernel
theorem dX5_window_53 : decode cX5_window 53 = .ok (.if_icmp .gt 19, 3) := by decide +kernel
theorem dX5_window_56 : decode cX5_window 56 = .ok (.iload 4, 2) := by decide +kernel
theorem dX5_window_58 : decode cX5_window 58 = .ok (.sipush 200, 3) := by decide +kernel
theorem dX5_window_61 : decode cX5_window 61 = .ok (.if_icmp .gt 11, 3) := by decide +kernel
theorem dX5_window_64 : decode cX5_window 64 = .ok (.iload 6, 2) := by decide +kernel
theorem dX5_window_66 : decode cX5_window 66 = .ok (.sipush 200, 3) := by decide +kernel
theorem dX5_window_69 : decode cX5_window 69 = .ok (.if_icmp .le 10, 3) := by decide +kernel
theorem dX5_window_72 : decode cX5_window 72 = .ok (.aload_n 0, 1) := by decide +kernel
theorem dX5_window_73 : decode cX5_window 73 = .ok (.bipush (-6), 2) := by decide +kernel
theorem dX5_window_75 : decode cX5_window 75 = .ok (.invokevirtual 71, 3) := by decide +kernel
theorem dX5_window_78 : decode cX5_window 78 = .ok (.ireturn, 1) := by decide +kernel
theorem dX5_window_79 : decode cX5_window 79 = .ok (.iload 4, 2) := by decide +kernel
theorem dX5_window_81 : decode cX5_window 81 = .ok (.iload_n 3, 1) := by decide +kernel
theorem dX5_window_82 : decode cX5_window 82 = .ok (.isub, 1) := by decide +kernel
theorem dX5_window_83 : decode cX5_window 83 = .ok (.iload 6, 2) := by decide +kernel
theorem dX5_window_85 : decode cX5_window 85 = .ok (.iload 5, 2) := by decide +kernel
theorem dX5_window_87 : decode cX5_window 87 = .ok (.isub, 1) := by decide +kernel
theorem dX5_window_88 : decode cX5_window 88 = .ok (.imul, 1) := by decide +kernel
theorem dX5_window_89 : decode cX5_window 89 = .ok (.bipush 64, 2) := by decide +kernel
theorem dX5_window_91 : decode cX5_window 91 = .ok (.if_icmp .gt 13, 3) := by decide +kernel
theorem dX5_window_94 : decode cX5_window 94 = .ok (.aload_n 0, 1) := by decide +kernel
theorem dX5_window_95 : decode cX5_window 95 = .ok (.getfield 26, 3) := by decide +kernel
theorem dX5_window_98 : decode cX5_window 98 = .ok (.invokevirtual 123, 3) := by decide +kernel
theorem dX5_window_101 : decode cX5_window 101 = .ok (.ifCond .eq 10, 3) := by decide +kernel
theorem dX5_window_104 : decode cX5_window 104 = .ok (.aload_n 0, 1) := by decide +kernel
theorem dX5_window_105 : decode cX5_window 105 = .ok (.bipush (-6), 2) := by decide +kernel
theorem dX5_window_107 : decode cX5_window 107 = .ok (.invokevirtual 71, 3) := by decide +kernel
theorem dX5_window_110 : decode cX5_window 110 = .ok (.ireturn, 1) := by decide +kernel
theorem dX5_window_111 : decode cX5_window 111 = .ok (.aload_n 0, 1) := by decide +kernel
theorem dX5_window_112 : decode cX5_window 112 = .ok (.getfield 26, 3) := by decide +kernel
theorem dX5_window_115 : decode cX5_window 115 = .ok (.iload_n 1, 1) := by decide +kernel
theorem dX5_window_116 : decode cX5_window 116 = .ok (.iload_n 2, 1) := by decide +kernel
theorem dX5_window_117 : decode cX5_window 117 = .ok (.iload_n 3, 1) := by decide +kernel
theorem dX5_window_118 : decode cX5_window 118 = .ok (.iload 4, 2) := by decide +kernel
theorem dX5_window_120 : decode cX5_window 120 = .ok (.iload 5, 2) := by decide +kernel
theorem dX5_window_122 : decode cX5_window 122 = .ok (.iload 6, 2) := by decide +kernel
theorem dX5_window_124 : decode cX5_window 124 = .ok (.invokevirtual 124, 3) := by decide +kernel
theorem dX5_window_127 : decode cX5_window 127 = .ok (.ireturn, 1) := by decide +kernel
theorem dX5_part_0 : decode cX5_part 0 = .ok (.iload_n 1, 1) := by decide +kernel
theorem dX5_part_1 : decode cX5_part 1 = .ok (.iconst 1, 1) := by decide +kernel
theorem dX5_part_2 : decode cX5_part 2 = .ok (.if_icmp .ge 10, 3) := by decide +kernel
theorem dX5_part_5 : decode cX5_part 5 = .ok (.aload_n 0, 1) := by decide +kernel
theorem dX5_part_6 : decode cX5_part 6 = .ok (.bipush (-4), 2) := by decide +kernel
theorem dX5_part_8 : decode cX5_part 8 = .ok (.invokevirtual 71, 3) := by decide +kernel
theorem dX5_part_11 : decode cX5_part 11 = .ok (.ireturn, 1) := by decide +kernel
theorem dX5_part_12 : decode cX5_part 12 = .ok (.iload_n 1, 1) := by decide +kernel
theorem dX5_part_13 : decode cX5_part 13 = .ok (.bipush 8, 2) := by decide +kernel
theorem dX5_part_15 : decode cX5_part 15 = .ok (.if_icmp .le 10, 3) := by decide +kernel
theorem dX5_part_18 : decode cX5_part 18 = .ok (.aload_n 0, 1) := by decide +kernel
theorem dX5_part_19 : decode cX5_part 19 = .ok (.bipush (-6), 2) := by decide +kernel
theorem dX5_part_21 : decode cX5_part 21 = .ok (.invokevirtual 71, 3) := by decide +kernel
theorem dX5_part_24 : decode cX5_part 24 = .ok (.ireturn, 1) := by decide +kernel
theorem dX5_part_25 : decode cX5_part 25 = .ok (.aload_n 0, 1) := by decide +kernel
theorem dX5_part_26 : decode cX5_part 26 = .ok (.getfield 54, 3) := by decide +kernel
theorem dX5_part_29 : decode cX5_part 29 = .ok (.istore_n 2, 1) := by decide +kernel
theorem dX5_part_30 : decode cX5_part 30 = .ok (.aload_n 0, 1) := by decide +kernel
theorem dX5_part_31 : decode cX5_part 31 = .ok (.iload_n 1, 1) := by decide +kernel
theorem dX5_part_32 : decode cX5_part 32 = .ok (.putfield 54, 3) := by decide +kernel
theorem dX5_part_35 : decode cX5_part 35 = .ok (.aload_n 0, 1) := by decide +kernel
theorem dX5_part_36 : decode cX5_part 36 = .ok (.invokevirtual 78, 3) := by decide +kernel
theorem dX5_part_39 : decode cX5_part 39 = .ok (.iload_n 2, 1) := by decide +kernel
theorem dX5_part_40 : decode cX5_part 40 = .ok (.ireturn, 1) := by decide +kernel
theorem dX5_law_0 : decode cX5_law 0 = .ok (.iload_n 1, 1) := by decide +kernel
theorem dX5_law_1 : decode cX5_law 1 = .ok (.invokestatic 67, 3) := by decide +kernel
theorem dX5_law_4 : decode cX5_law 4 = .ok (.ifCond .ne 9, 3) := by decide +kernel
theorem dX5_law_7 : decode cX5_law 7 = .ok (.aload_n 0, 1) := by decide +kernel
theorem dX5_law_8 : decode cX5_law 8 = .ok (.iconst (-1), 1) := by decide +kernel
theorem dX5_law_9 : decode cX5_law 9 = .ok (.invokevirtual 71, 3) := by decide +kernel
theorem dX5_law_12 : decode cX5_law 12 = .ok (.ireturn, 1) := by decide +kernel
theorem dX5_law_13 : decode cX5_law 13 = .ok (.iload_n 2, 1) := by decide +kernel
theorem dX5_law_14 : decode cX5_law 14 = .ok (.ifCond .ge 10, 3) := by decide +kernel
theorem dX5_law_17 : decode cX5_law 17 = .ok (.aload_n 0, 1) := by decide +kernel
theorem dX5_law_18 : decode cX5_law 18 = .ok (.bipush (-4), 2) := by decide +kernel
theorem dX5_law_20 : decode cX5_law 20 = .ok (.invokevirtual 71, 3) := by decide +kernel
theorem dX5_law_23 : decode cX5_law 23 = .ok (.ireturn, 1) := by decide +kernel
theorem dX5_law_24 : decode cX5_law 24 = .ok (.iload_n 2, 1) := by decide +kernel
theorem dX5_law_25 : decode cX5_law 25 = .ok (.bipush 24, 2) := by decide +kernel
theorem dX5_law_27 : decode cX5_law 27 = .ok (.if_icmp .le 10, 3) := by decide +kernel
theorem dX5_law_30 : decode cX5_law 30 = .ok (.aload_n 0, 1) := by decide +kernel
theorem dX5_law_31 : decode cX5_law 31 = .ok (.bipush (-6), 2) := by decide +kernel
theorem dX5_law_33 : decode cX5_law 33 = .ok (.invokevirtual 71, 3) := by decide +kernel
theorem dX5_law_36 : decode cX5_law 36 = .ok (.ireturn, 1) := by decide +kernel
theorem dX5_law_37 : decode cX5_law 37 = .ok (.aload_n 0, 1) := by decide +kernel
theorem dX5_law_38 : decode cX5_law 38 = .ok (.getfield 44, 3) := by decide +kernel
theorem dX5_law_41 : decode cX5_law 41 = .ok (.iload_n 1, 1) := by decide +kernel
theorem dX5_law_42 : decode cX5_law 42 = .ok (.iaload, 1) := by decide +kernel
theorem dX5_law_43 : decode cX5_law 43 = .ok (.istore_n 3, 1) := by decide +kernel
theorem dX5_law_44 : decode cX5_law 44 = .ok (.aload_n 0, 1) := by decide +kernel
theorem dX5_law_45 : decode cX5_law 45 = .ok (.getfield 44, 3) := by decide +kernel
theorem dX5_law_48 : decode cX5_law 48 = .ok (.iload_n 1, 1) := by decide +kernel
theorem dX5_law_49 : decode cX5_law 49 = .ok (.iload_n 2, 1) := by decide +kernel
theorem dX5_law_50 : decode cX5_law 50 = .ok (.iastore, 1) := by decide +kernel
theorem dX5_law_51 : decode cX5_law 51 = .ok (.iload_n 3, 1) := by decide +kernel
theorem dX5_law_52 : decode cX5_law 52 = .ok (.ireturn, 1) := by decide +kernel
theorem dX5_sun_0 : decode cX5_sun 0 = .ok (.aload_n 0, 1) := by decide +kernel
theorem dX5_sun_1 : decode cX5_sun 1 = .ok (.getfield 26, 3) := by decide +kernel
theorem dX5_sun_4 : decode cX5_sun 4 = .ok (.iload_n 1, 1) := by decide +kernel
theorem dX5_sun_5 : decode cX5_sun 5 = .ok (.invokevirtual 127, 3) := by decide +kernel
theorem dX5_sun_8 : decode cX5_sun 8 = .ok (.ifCond .eq 15, 3) := by decide +kernel
theorem dX5_sun_11 : decode cX5_sun 11 = .ok (.aload_n 0, 1) := by decide +kernel
theorem dX5_sun_12 : decode cX5_sun 12 = .ok (.getfield 10, 3) := by decide +kernel
theorem dX5_sun_15 : decode cX5_sun 15 = .ok (.iload_n 2, 1) := by decide +kernel
theorem dX5_sun_16 : decode cX5_sun 16 = .ok (.iload_n 3, 1) := by decide +kernel
theorem dX5_sun_17 : decode cX5_sun 17 = .ok (.invokevirtual 128, 3) := by decide +kernel
theorem dX5_sun_20 : decode cX5_sun 20 = .ok (.ifCond .ne 9, 3) := by decide +kernel
theorem dX5_sun_23 : decode cX5_sun 23 = .ok (.aload_n 0, 1) := by decide +kernel
theorem dX5_sun_24 : decode cX5_sun 24 = .ok (.iconst (-1), 1) := by decide +kernel
theorem dX5_sun_25 : decode cX5_sun 25 = .ok (.invokevirtual 71, 3) := by decide +kernel
theorem dX5_sun_28 : decode cX5_sun 28 = .ok (.ireturn, 1) := by decide +kernel
theorem dX5_sun_29 : decode cX5_sun 29 = .ok (.aload_n 0, 1) := by decide +kernel
theorem dX5_sun_30 : decode cX5_sun 30 = .ok (.iload_n 1, 1) := by decide +kernel
theorem dX5_sun_31 : decode cX5_sun 31 = .ok (.iload_n 2, 1) := by decide +kernel
theorem dX5_sun_32 : decode cX5_sun 32 = .ok (.iload_n 3, 1) := by decide +kernel
theorem dX5_sun_33 : decode cX5_sun 33 = .ok (.bipush (-9), 2) := by decide +kernel
theorem dX5_sun_35 : decode cX5_sun 35 = .ok (.iconst 0, 1) := by decide +kernel
theorem dX5_sun_36 : decode cX5_sun 36 = .ok (.invokevirtual 131, 3) := by decide +kernel
theorem dX5_sun_39 : decode cX5_sun 39 = .ok (.ireturn, 1) := by decide +kernel
theorem dX5_light_0 : decode cX5_light 0 = .ok (.aload_n 0, 1) := by decide +kernel
theorem dX5_light_1 : decode cX5_light 1 = .ok (.getfield 26, 3) := by decide +kernel
theorem dX5_light_4 : decode cX5_light 4 = .ok (.iload_n 1, 1) := by decide +kernel
theorem dX5_light_5 : decode cX5_light 5 = .ok (.iload_n 2, 1) := by decide +kernel
theorem dX5_light_6 : decode cX5_light 6 = .ok (.invokevirtual 135, 3) := by decide +kernel
theorem dX5_light_9 : decode cX5_light 9 = .ok (.ifCond .eq 16, 3) := by decide +kernel
theorem dX5_light_12 : decode cX5_light 12 = .ok (.aload_n 0, 1) := by decide +kernel
theorem dX5_light_13 : decode cX5_light 13 = .ok (.getfield 10, 3) := by decide +kernel
theorem dX5_light_16 : decode cX5_light 16 = .ok (.iload_n 3, 1) := by decide +kernel
theorem dX5_light_17 : decode cX5_light 17 = .ok (.iload 4, 2) := by decide +kernel
theorem dX5_light_19 : decode cX5_light 19 = .ok (.invokevirtual 128, 3) := by decide +kernel
theorem dX5_light_22 : decode cX5_light 22 = .ok (.ifCond .ne 9, 3) := by decide +kernel
theorem dX5_light_25 : decode cX5_light 25 = .ok (.aload_n 0, 1) := by decide +kernel
theorem dX5_light_26 : decode cX5_light 26 = .ok (.iconst (-1), 1) := by decide +kernel
theorem dX5_light_27 : decode cX5_light 27 = .ok (.invokevirtual 71, 3) := by decide +kernel
theorem dX5_light_30 : decode cX5_light 30 = .ok (.ireturn, 1) := by decide +kernel
theorem dX5_light_31 : decode cX5_light 31 = .ok (.aload_n 0, 1) := by decide +kernel
theorem dX5_light_32 : decode cX5_light 32 = .ok (.iload_n 1, 1) := by decide +kernel
theorem dX5_light_33 : decode cX5_light 33 = .ok (.iload_n 3, 1) := by decide +kernel
theorem dX5_light_34 : decode cX5_light 34 = .ok (.iload 4, 2) := by decide +kernel
theorem dX5_light_36 : decode cX5_light 36 = .ok (.invokevirtual 138, 3) := by decide +kernel
theorem dX5_light_39 : decode cX5_light 39 = .ok (.ifCond .ne 5, 3) := by decide +kernel
theorem dX5_light_42 : decode cX5_light 42 = .ok (.iconst 0, 1) := by decide +kernel
theorem dX5_light_43 : decode cX5_light 43 = .ok (.ireturn, 1) := by decide +kernel
theorem dX5_light_44 : decode cX5_light 44 = .ok (.aload_n 0, 1) := by decide +kernel
theorem dX5_light_45 : decode cX5_light 45 = .ok (.getfield 26, 3) := by decide +kernel
theorem dX5_light_48 : decode cX5_light 48 = .ok (.iload_n 1, 1) := by decide +kernel
theorem dX5_light_49 : decode cX5_light 49 = .ok (.iload_n 2, 1) := by decide +kernel
theorem dX5_light_50 : decode cX5_light 50 = .ok (.aload_n 0, 1) := by decide +kernel
theorem dX5_light_51 : decode cX5_light 51 = .ok (.getfield 33, 3) := by decide +kernel
theorem dX5_light_54 : decode cX5_light 54 = .ok (.invokevirtual 142, 3) := by decide +kernel
theorem dX5_light_57 : decode cX5_light 57 = .ok (.aload_n 0, 1) := by decide +kernel
theorem dX5_light_58 : decode cX5_light 58 = .ok (.getfield 40, 3) := by decide +kernel
theorem dX5_light_61 : decode cX5_light 61 = .ok (.aload_n 0, 1) := by decide +kernel
theorem dX5_light_62 : decode cX5_light 62 = .ok (.getfield 19, 3) := by decide +kernel
theorem dX5_light_65 : decode cX5_light 65 = .ok (.aload_n 0, 1) := by decide +kernel
theorem dX5_light_66 : decode cX5_light 66 = .ok (.getfield 33, 3) := by decide +kernel
theorem dX5_light_69 : decode cX5_light 69 = .ok (.iload_n 3, 1) := by decide +kernel
theorem dX5_light_70 : decode cX5_light 70 = .ok (.bipush (-9), 2) := by decide +kernel
theorem dX5_light_72 : decode cX5_light 72 = .ok (.iconst 0, 1) := by decide +kernel
theorem dX5_light_73 : decode cX5_light 73 = .ok (.invokevirtual 146, 3) := by decide +kernel
theorem dX5_light_76 : decode cX5_light 76 = .ok (.aload_n 0, 1) := by decide +kernel
theorem dX5_light_77 : decode cX5_light 77 = .ok (.getfield 40, 3) := by decide +kernel
theorem dX5_light_80 : decode cX5_light 80 = .ok (.aload_n 0, 1) := by decide +kernel
theorem dX5_light_81 : decode cX5_light 81 = .ok (.getfield 19, 3) := by decide +kernel
theorem dX5_light_84 : decode cX5_light 84 = .ok (.aload_n 0, 1) := by decide +kernel
theorem dX5_light_85 : decode cX5_light 85 = .ok (.getfield 33, 3) := by decide +kernel
theorem dX5_light_88 : decode cX5_light 88 = .ok (.invokevirtual 150, 3) := by decide +kernel
theorem dX5_light_91 : decode cX5_light 91 = .ok (.ireturn, 1) := by decide +kernel
theorem dX5_taker_0 : decode cX5_taker 0 = .ok (.aload_n 0, 1) := by decide +kernel
theorem dX5_taker_1 : decode cX5_taker 1 = .ok (.getfield 26, 3) := by decide +kernel
theorem dX5_taker_4 : decode cX5_taker 4 = .ok (.iload_n 1, 1) := by decide +kernel
theorem dX5_taker_5 : decode cX5_taker 5 = .ok (.iload_n 2, 1) := by decide +kernel
theorem dX5_taker_6 : decode cX5_taker 6 = .ok (.invokevirtual 135, 3) := by decide +kernel
theorem dX5_taker_9 : decode cX5_taker 9 = .ok (.ifCond .eq 16, 3) := by decide +kernel
theorem dX5_taker_12 : decode cX5_taker 12 = .ok (.aload_n 0, 1) := by decide +kernel
theorem dX5_taker_13 : decode cX5_taker 13 = .ok (.getfield 10, 3) := by decide +kernel
theorem dX5_taker_16 : decode cX5_taker 16 = .ok (.iload_n 3, 1) := by decide +kernel
theorem dX5_taker_17 : decode cX5_taker 17 = .ok (.iload 4, 2) := by decide +kernel
theorem dX5_taker_19 : decode cX5_taker 19 = .ok (.invokevirtual 128, 3) := by decide +kernel
theorem dX5_taker_22 : decode cX5_taker 22 = .ok (.ifCond .ne 9, 3) := by decide +kernel
theorem dX5_taker_25 : decode cX5_taker 25 = .ok (.aload_n 0, 1) := by decide +kernel
theorem dX5_taker_26 : decode cX5_taker 26 = .ok (.iconst (-1), 1) := by decide +kernel
theorem dX5_taker_27 : decode cX5_taker 27 = .ok (.invokevirtual 154, 3) := by decide +kernel
theorem dX5_taker_30 : decode cX5_taker 30 = .ok (.ireturn, 1) := by decide +kernel
theorem dX5_taker_31 : decode cX5_taker 31 = .ok (.aload_n 0, 1) := by decide +kernel
theorem dX5_taker_32 : decode cX5_taker 32 = .ok (.iload_n 1, 1) := by decide +kernel
theorem dX5_taker_33 : decode cX5_taker 33 = .ok (.iload_n 3, 1) := by decide +kernel
theorem dX5_taker_34 : decode cX5_taker 34 = .ok (.iload 4, 2) := by decide +kernel
theorem dX5_taker_36 : decode cX5_taker 36 = .ok (.invokevirtual 138, 3) := by decide +kernel
theorem dX5_taker_39 : decode cX5_taker 39 = .ok (.ifCond .ne 6, 3) := by decide +kernel
theorem dX5_taker_42 : decode cX5_taker 42 = .ok (.bipush (-8), 2) := by decide +kernel
theorem dX5_taker_44 : decode cX5_taker 44 = .ok (.ireturn, 1) := by decide +kernel
theorem dX5_taker_45 : decode cX5_taker 45 = .ok (.aload_n 0, 1) := by decide +kernel
theorem dX5_taker_46 : decode cX5_taker 46 = .ok (.getfield 26, 3) := by decide +kernel
theorem dX5_taker_49 : decode cX5_taker 49 = .ok (.iload_n 1, 1) := by decide +kernel
theorem dX5_taker_50 : decode cX5_taker 50 = .ok (.iload_n 2, 1) := by decide +kernel
theorem dX5_taker_51 : decode cX5_taker 51 = .ok (.aload_n 0, 1) := by decide +kernel
theorem dX5_taker_52 : decode cX5_taker 52 = .ok (.getfield 33, 3) := by decide +kernel
theorem dX5_taker_55 : decode cX5_taker 55 = .ok (.invokevirtual 142, 3) := by decide +kernel
theorem dX5_taker_58 : decode cX5_taker 58 = .ok (.aload_n 0, 1) := by decide +kernel
theorem dX5_taker_59 : decode cX5_taker 59 = .ok (.getfield 40, 3) := by decide +kernel
theorem dX5_taker_62 : decode cX5_taker 62 = .ok (.aload_n 0, 1) := by decide +kernel
theorem dX5_taker_63 : decode cX5_taker 63 = .ok (.getfield 19, 3) := by decide +kernel
theorem dX5_taker_66 : decode cX5_taker 66 = .ok (.aload_n 0, 1) := by decide +kernel
theorem dX5_taker_67 : decode cX5_taker 67 = .ok (.getfield 33, 3) := by decide +kernel
theorem dX5_taker_70 : decode cX5_taker 70 = .ok (.iload_n 3, 1) := by decide +kernel
theorem dX5_taker_71 : decode cX5_taker 71 = .ok (.bipush (-9), 2) := by decide +kernel
theorem dX5_taker_73 : decode cX5_taker 73 = .ok (.iconst 0, 1) := by decide +kernel
theorem dX5_taker_74 : decode cX5_taker 74 = .ok (.invokevirtual 146, 3) := by decide +kernel
theorem dX5_taker_77 : decode cX5_taker 77 = .ok (.aload_n 0, 1) := by decide +kernel
theorem dX5_taker_78 : decode cX5_taker 78 = .ok (.getfield 40, 3) := by decide +kernel
theorem dX5_taker_81 : decode cX5_taker 81 = .ok (.aload_n 0, 1) := by decide +kernel
theorem dX5_taker_82 : decode cX5_taker 82 = .ok (.getfield 19, 3) := by decide +kernel
theorem dX5_taker_85 : decode cX5_taker 85 = .ok (.aload_n 0, 1) := by decide +kernel
theorem dX5_taker_86 : decode cX5_taker 86 = .ok (.getfield 33, 3) := by decide +kernel
theorem dX5_taker_89 : decode cX5_taker 89 = .ok (.invokevirtual 157, 3) := by decide +kernel
theorem dX5_taker_92 : decode cX5_taker 92 = .ok (.ireturn, 1) := by decide +kernel
theorem dX5_takes_0 : decode cX5_takes 0 = .ok (.aload_n 0, 1) := by decide +kernel
theorem dX5_takes_1 : decode cX5_takes 1 = .ok (.getfield 26, 3) := by decide +kernel
theorem dX5_takes_4 : decode cX5_takes 4 = .ok (.iload_n 1, 1) := by decide +kernel
theorem dX5_takes_5 : decode cX5_takes 5 = .ok (.invokevirtual 127, 3) := by decide +kernel
theorem dX5_takes_8 : decode cX5_takes 8 = .ok (.ifCond .eq 21, 3) := by decide +kernel
theorem dX5_takes_11 : decode cX5_takes 11 = .ok (.iload_n 2, 1) := by decide +kernel
theorem dX5_takes_12 : decode cX5_takes 12 = .ok (.invokestatic 67, 3) := by decide +kernel
theorem dX5_takes_15 : decode cX5_takes 15 = .ok (.ifCond .eq 14, 3) := by decide +kernel
theorem dX5_takes_18 : decode cX5_takes 18 = .ok (.aload_n 0, 1) := by decide +kernel
theorem dX5_takes_19 : decode cX5_takes 19 = .ok (.getfield 19, 3) := by decide +kernel
theorem dX5_takes_22 : decode cX5_takes 22 = .ok (.iload_n 3, 1) := by decide +kernel
theorem dX5_takes_23 : decode cX5_takes 23 = .ok (.invokevirtual 120, 3) := by decide +kernel
theorem dX5_takes_26 : decode cX5_takes 26 = .ok (.ifCond .ne 9, 3) := by decide +kernel
theorem dX5_takes_29 : decode cX5_takes 29 = .ok (.aload_n 0, 1) := by decide +kernel
theorem dX5_takes_30 : decode cX5_takes 30 = .ok (.iconst (-1), 1) := by decide +kernel
theorem dX5_takes_31 : decode cX5_takes 31 = .ok (.invokevirtual 71, 3) := by decide +kernel
theorem dX5_takes_34 : decode cX5_takes 34 = .ok (.ireturn, 1) := by decide +kernel
theorem dX5_takes_35 : decode cX5_takes 35 = .ok (.iconst 0, 1) := by decide +kernel
theorem dX5_takes_36 : decode cX5_takes 36 = .ok (.istore 4, 2) := by decide +kernel
theorem dX5_takes_38 : decode cX5_takes 38 = .ok (.iconst 0, 1) := by decide +kernel
theorem dX5_takes_39 : decode cX5_takes 39 = .ok (.istore 5, 2) := by decide +kernel
theorem dX5_takes_41 : decode cX5_takes 41 = .ok (.iload 5, 2) := by decide +kernel
theorem dX5_takes_43 : decode cX5_takes 43 = .ok (.aload_n 0, 1) := by decide +kernel
theorem dX5_takes_44 : decode cX5_takes 44 = .ok (.getfield 10, 3) := by decide +kernel
theorem dX5_takes_47 : decode cX5_takes 47 = .ok (.getfield 160, 3) := by decide +kernel
theorem dX5_takes_50 : decode cX5_takes 50 = .ok (.iload_n 2, 1) := by decide +kernel
theorem dX5_takes_51 : decode cX5_takes 51 = .ok (.iaload, 1) := by decide +kernel
theorem dX5_takes_52 : decode cX5_takes 52 = .ok (.if_icmp .ge 23, 3) := by decide +kernel
theorem dX5_takes_55 : decode cX5_takes 55 = .ok (.iload 4, 2) := by decide +kernel
theorem dX5_takes_57 : decode cX5_takes 57 = .ok (.aload_n 0, 1) := by decide +kernel
theorem dX5_takes_58 : decode cX5_takes 58 = .ok (.iload_n 1, 1) := by decide +kernel
theorem dX5_takes_59 : decode cX5_takes 59 = .ok (.iload_n 2, 1) := by decide +kernel
theorem dX5_takes_60 : decode cX5_takes 60 = .ok (.iload 5, 2) := by decide +kernel
theorem dX5_takes_62 : decode cX5_takes 62 = .ok (.iload_n 3, 1) := by decide +kernel
theorem dX5_takes_63 : decode cX5_takes 63 = .ok (.invokevirtual 163, 3) := by decide +kernel
theorem dX5_takes_66 : decode cX5_takes 66 = .ok (.iadd, 1) := by decide +kernel
theorem dX5_takes_67 : decode cX5_takes 67 = .ok (.istore 4, 2) := by decide +kernel
theorem dX5_takes_69 : decode cX5_takes 69 = .ok (.iinc 5 1, 3) := by decide +kernel
theorem dX5_takes_72 : decode cX5_takes 72 = .ok (.goto (-31), 3) := by decide +kernel
theorem dX5_takes_75 : decode cX5_takes 75 = .ok (.iload 4, 2) := by decide +kernel
theorem dX5_takes_77 : decode cX5_takes 77 = .ok (.ireturn, 1) := by decide +kernel
theorem dX5_hours_0 : decode cX5_hours 0 = .ok (.aload_n 0, 1) := by decide +kernel
theorem dX5_hours_1 : decode cX5_hours 1 = .ok (.getfield 26, 3) := by decide +kernel
theorem dX5_hours_4 : decode cX5_hours 4 = .ok (.iload_n 1, 1) := by decide +kernel
theorem dX5_hours_5 : decode cX5_hours 5 = .ok (.invokevirtual 127, 3) := by decide +kernel
theorem dX5_hours_8 : decode cX5_hours 8 = .ok (.ifCond .eq 10, 3) := by decide +kernel
theorem dX5_hours_11 : decode cX5_hours 11 = .ok (.iload_n 2, 1) := by decide +kernel
theorem dX5_hours_12 : decode cX5_hours 12 = .ok (.invokestatic 67, 3) := by decide +kernel
theorem dX5_hours_15 : decode cX5_hours 15 = .ok (.ifCond .ne 9, 3) := by decide +kernel
theorem dX5_hours_18 : decode cX5_hours 18 = .ok (.aload_n 0, 1) := by decide +kernel
theorem dX5_hours_19 : decode cX5_hours 19 = .ok (.iconst (-1), 1) := by decide +kernel
theorem dX5_hours_20 : decode cX5_hours 20 = .ok (.invokevirtual 71, 3) := by decide +kernel
theorem dX5_hours_23 : decode cX5_hours 23 = .ok (.ireturn, 1) := by decide +kernel
theorem dX5_hours_24 : decode cX5_hours 24 = .ok (.aload_n 0, 1) := by decide +kernel
theorem dX5_hours_25 : decode cX5_hours 25 = .ok (.iload_n 1, 1) := by decide +kernel
theorem dX5_hours_26 : decode cX5_hours 26 = .ok (.iload_n 2, 1) := by decide +kernel
theorem dX5_hours_27 : decode cX5_hours 27 = .ok (.invokevirtual 166, 3) := by decide +kernel
theorem dX5_hours_30 : decode cX5_hours 30 = .ok (.invokestatic 170, 3) := by decide +kernel
theorem dX5_hours_33 : decode cX5_hours 33 = .ok (.ireturn, 1) := by decide +kernel
theorem dX5_loss_0 : decode cX5_loss 0 = .ok (.aload_n 0, 1) := by decide +kernel
theorem dX5_loss_1 : decode cX5_loss 1 = .ok (.getfield 26, 3) := by decide +kernel
theorem dX5_loss_4 : decode cX5_loss 4 = .ok (.iload_n 2, 1) := by decide +kernel
theorem dX5_loss_5 : decode cX5_loss 5 = .ok (.invokevirtual 127, 3) := by decide +kernel
theorem dX5_loss_8 : decode cX5_loss 8 = .ok (.ifCond .eq 21, 3) := by decide +kernel
theorem dX5_loss_11 : decode cX5_loss 11 = .ok (.iload_n 3, 1) := by decide +kernel
theorem dX5_loss_12 : decode cX5_loss 12 = .ok (.invokestatic 67, 3) := by decide +kernel
theorem dX5_loss_15 : decode cX5_loss 15 = .ok (.ifCond .eq 14, 3) := by decide +kernel
theorem dX5_loss_18 : decode cX5_loss 18 = .ok (.aload_n 0, 1) := by decide +kernel
theorem dX5_loss_19 : decode cX5_loss 19 = .ok (.getfield 19, 3) := by decide +kernel
theorem dX5_loss_22 : decode cX5_loss 22 = .ok (.iload_n 1, 1) := by decide +kernel
theorem dX5_loss_23 : decode cX5_loss 23 = .ok (.invokevirtual 114, 3) := by decide +kernel
theorem dX5_loss_26 : decode cX5_loss 26 = .ok (.goto 4, 3) := by decide +kernel
theorem dX5_loss_29 : decode cX5_loss 29 = .ok (.iconst (-1), 1) := by decide +kernel
theorem dX5_loss_30 : decode cX5_loss 30 = .ok (.istore 4, 2) := by decide +kernel
theorem dX5_loss_32 : decode cX5_loss 32 = .ok (.iload 4, 2) := by decide +kernel
theorem dX5_loss_34 : decode cX5_loss 34 = .ok (.ifCond .eq 10, 3) := by decide +kernel
theorem dX5_loss_37 : decode cX5_loss 37 = .ok (.aload_n 0, 1) := by decide +kernel
theorem dX5_loss_38 : decode cX5_loss 38 = .ok (.iload 4, 2) := by decide +kernel
theorem dX5_loss_40 : decode cX5_loss 40 = .ok (.invokevirtual 154, 3) := by decide +kernel
theorem dX5_loss_43 : decode cX5_loss 43 = .ok (.ireturn, 1) := by decide +kernel
theorem dX5_loss_44 : decode cX5_loss 44 = .ok (.aload_n 0, 1) := by decide +kernel
theorem dX5_loss_45 : decode cX5_loss 45 = .ok (.iload_n 2, 1) := by decide +kernel
theorem dX5_loss_46 : decode cX5_loss 46 = .ok (.iload_n 3, 1) := by decide +kernel
theorem dX5_loss_47 : decode cX5_loss 47 = .ok (.invokevirtual 166, 3) := by decide +kernel
theorem dX5_loss_50 : decode cX5_loss 50 = .ok (.istore 5, 2) := by decide +kernel
theorem dX5_loss_52 : decode cX5_loss 52 = .ok (.iload 5, 2) := by decide +kernel
theorem dX5_loss_54 : decode cX5_loss 54 = .ok (.invokestatic 170, 3) := by decide +kernel
theorem dX5_loss_57 : decode cX5_loss 57 = .ok (.aload_n 0, 1) := by decide +kernel
theorem dX5_loss_58 : decode cX5_loss 58 = .ok (.iload_n 2, 1) := by decide +kernel
theorem dX5_loss_59 : decode cX5_loss 59 = .ok (.iload_n 3, 1) := by decide +kernel
theorem dX5_loss_60 : decode cX5_loss 60 = .ok (.iload 5, 2) := by decide +kernel
theorem dX5_loss_62 : decode cX5_loss 62 = .ok (.iload_n 1, 1) := by decide +kernel
theorem dX5_loss_63 : decode cX5_loss 63 = .ok (.aload_n 0, 1) := by decide +kernel
theorem dX5_loss_64 : decode cX5_loss 64 = .ok (.getfield 19, 3) := by decide +kernel
theorem dX5_loss_67 : decode cX5_loss 67 = .ok (.iload_n 1, 1) := by decide +kernel
theorem dX5_loss_68 : decode cX5_loss 68 = .ok (.invokevirtual 97, 3) := by decide +kernel
theorem dX5_loss_71 : decode cX5_loss 71 = .ok (.invokevirtual 175, 3) := by decide +kernel
theorem dX5_loss_74 : decode cX5_loss 74 = .ok (.isub, 1) := by decide +kernel
theorem dX5_loss_75 : decode cX5_loss 75 = .ok (.ireturn, 1) := by decide +kernel
theorem dX5_high_0 : decode cX5_high 0 = .ok (.aload_n 0, 1) := by decide +kernel
theorem dX5_high_1 : decode cX5_high 1 = .ok (.getfield 19, 3) := by decide +kernel
theorem dX5_high_4 : decode cX5_high 4 = .ok (.iload_n 1, 1) := by decide +kernel
theorem dX5_high_5 : decode cX5_high 5 = .ok (.invokevirtual 114, 3) := by decide +kernel
theorem dX5_high_8 : decode cX5_high 8 = .ok (.istore_n 2, 1) := by decide +kernel
theorem dX5_high_9 : decode cX5_high 9 = .ok (.iload_n 2, 1) := by decide +kernel
theorem dX5_high_10 : decode cX5_high 10 = .ok (.ifCond .eq 9, 3) := by decide +kernel
theorem dX5_high_13 : decode cX5_high 13 = .ok (.aload_n 0, 1) := by decide +kernel
theorem dX5_high_14 : decode cX5_high 14 = .ok (.iload_n 2, 1) := by decide +kernel
theorem dX5_high_15 : decode cX5_high 15 = .ok (.invokevirtual 71, 3) := by decide +kernel
theorem dX5_high_18 : decode cX5_high 18 = .ok (.ireturn, 1) := by decide +kernel
theorem dX5_high_19 : decode cX5_high 19 = .ok (.aload_n 0, 1) := by decide +kernel
theorem dX5_high_20 : decode cX5_high 20 = .ok (.getfield 19, 3) := by decide +kernel
end
section
theorem dX5_high_23 : decode cX5_high 23 = .ok (.iload_n 1, 1) := by decide +kernel
theorem dX5_high_24 : decode cX5_high 24 = .ok (.invokevirtual 107, 3) := by decide +kernel
theorem dX5_high_27 : decode cX5_high 27 = .ok (.istore_n 3, 1) := by decide +kernel
theorem dX5_high_28 : decode cX5_high 28 = .ok (.sipush 128, 3) := by decide +kernel
theorem dX5_high_31 : decode cX5_high 31 = .ok (.istore 4, 2) := by decide +kernel
theorem dX5_high_33 : decode cX5_high 33 = .ok (.iload 4, 2) := by decide +kernel
theorem dX5_high_35 : decode cX5_high 35 = .ok (.ifCond .le 41, 3) := by decide +kernel
theorem dX5_high_38 : decode cX5_high 38 = .ok (.iload_n 3, 1) := by decide +kernel
theorem dX5_high_39 : decode cX5_high 39 = .ok (.iload 4, 2) := by decide +kernel
theorem dX5_high_41 : decode cX5_high 41 = .ok (.iadd, 1) := by decide +kernel
theorem dX5_high_42 : decode cX5_high 42 = .ok (.sipush 200, 3) := by decide +kernel
theorem dX5_high_45 : decode cX5_high 45 = .ok (.if_icmp .gt 22, 3) := by decide +kernel
theorem dX5_high_48 : decode cX5_high 48 = .ok (.aload_n 0, 1) := by decide +kernel
theorem dX5_high_49 : decode cX5_high 49 = .ok (.iload_n 1, 1) := by decide +kernel
theorem dX5_high_50 : decode cX5_high 50 = .ok (.iload_n 3, 1) := by decide +kernel
theorem dX5_high_51 : decode cX5_high 51 = .ok (.iload 4, 2) := by decide +kernel
theorem dX5_high_53 : decode cX5_high 53 = .ok (.iadd, 1) := by decide +kernel
theorem dX5_high_54 : decode cX5_high 54 = .ok (.invokevirtual 178, 3) := by decide +kernel
theorem dX5_high_57 : decode cX5_high 57 = .ok (.bipush (-9), 2) := by decide +kernel
theorem dX5_high_59 : decode cX5_high 59 = .ok (.if_icmp .ne 8, 3) := by decide +kernel
theorem dX5_high_62 : decode cX5_high 62 = .ok (.iload_n 3, 1) := by decide +kernel
theorem dX5_high_63 : decode cX5_high 63 = .ok (.iload 4, 2) := by decide +kernel
theorem dX5_high_65 : decode cX5_high 65 = .ok (.iadd, 1) := by decide +kernel
theorem dX5_high_66 : decode cX5_high 66 = .ok (.istore_n 3, 1) := by decide +kernel
theorem dX5_high_67 : decode cX5_high 67 = .ok (.iload 4, 2) := by decide +kernel
theorem dX5_high_69 : decode cX5_high 69 = .ok (.iconst 2, 1) := by decide +kernel
theorem dX5_high_70 : decode cX5_high 70 = .ok (.idiv, 1) := by decide +kernel
theorem dX5_high_71 : decode cX5_high 71 = .ok (.istore 4, 2) := by decide +kernel
theorem dX5_high_73 : decode cX5_high 73 = .ok (.goto (-40), 3) := by decide +kernel
theorem dX5_high_76 : decode cX5_high 76 = .ok (.iload_n 3, 1) := by decide +kernel
theorem dX5_high_77 : decode cX5_high 77 = .ok (.ireturn, 1) := by decide +kernel
theorem dX5_breach_0 : decode cX5_breach 0 = .ok (.aload_n 0, 1) := by decide +kernel
theorem dX5_breach_1 : decode cX5_breach 1 = .ok (.getfield 19, 3) := by decide +kernel
theorem dX5_breach_4 : decode cX5_breach 4 = .ok (.iload_n 1, 1) := by decide +kernel
theorem dX5_breach_5 : decode cX5_breach 5 = .ok (.invokevirtual 114, 3) := by decide +kernel
theorem dX5_breach_8 : decode cX5_breach 8 = .ok (.istore_n 3, 1) := by decide +kernel
theorem dX5_breach_9 : decode cX5_breach 9 = .ok (.iload_n 3, 1) := by decide +kernel
theorem dX5_breach_10 : decode cX5_breach 10 = .ok (.ifCond .eq 9, 3) := by decide +kernel
theorem dX5_breach_13 : decode cX5_breach 13 = .ok (.aload_n 0, 1) := by decide +kernel
theorem dX5_breach_14 : decode cX5_breach 14 = .ok (.iload_n 3, 1) := by decide +kernel
theorem dX5_breach_15 : decode cX5_breach 15 = .ok (.invokevirtual 154, 3) := by decide +kernel
theorem dX5_breach_18 : decode cX5_breach 18 = .ok (.ireturn, 1) := by decide +kernel
theorem dX5_breach_19 : decode cX5_breach 19 = .ok (.iload_n 2, 1) := by decide +kernel
theorem dX5_breach_20 : decode cX5_breach 20 = .ok (.aload_n 0, 1) := by decide +kernel
theorem dX5_breach_21 : decode cX5_breach 21 = .ok (.getfield 19, 3) := by decide +kernel
theorem dX5_breach_24 : decode cX5_breach 24 = .ok (.iload_n 1, 1) := by decide +kernel
theorem dX5_breach_25 : decode cX5_breach 25 = .ok (.invokevirtual 107, 3) := by decide +kernel
theorem dX5_breach_28 : decode cX5_breach 28 = .ok (.if_icmp .gt 10, 3) := by decide +kernel
theorem dX5_breach_31 : decode cX5_breach 31 = .ok (.aload_n 0, 1) := by decide +kernel
theorem dX5_breach_32 : decode cX5_breach 32 = .ok (.bipush (-4), 2) := by decide +kernel
theorem dX5_breach_34 : decode cX5_breach 34 = .ok (.invokevirtual 154, 3) := by decide +kernel
theorem dX5_breach_37 : decode cX5_breach 37 = .ok (.ireturn, 1) := by decide +kernel
theorem dX5_breach_38 : decode cX5_breach 38 = .ok (.iload_n 2, 1) := by decide +kernel
theorem dX5_breach_39 : decode cX5_breach 39 = .ok (.sipush 200, 3) := by decide +kernel
theorem dX5_breach_42 : decode cX5_breach 42 = .ok (.if_icmp .le 10, 3) := by decide +kernel
theorem dX5_breach_45 : decode cX5_breach 45 = .ok (.aload_n 0, 1) := by decide +kernel
theorem dX5_breach_46 : decode cX5_breach 46 = .ok (.bipush (-6), 2) := by decide +kernel
theorem dX5_breach_48 : decode cX5_breach 48 = .ok (.invokevirtual 154, 3) := by decide +kernel
theorem dX5_breach_51 : decode cX5_breach 51 = .ok (.ireturn, 1) := by decide +kernel
theorem dX5_breach_52 : decode cX5_breach 52 = .ok (.aload_n 0, 1) := by decide +kernel
theorem dX5_breach_53 : decode cX5_breach 53 = .ok (.iload_n 1, 1) := by decide +kernel
theorem dX5_breach_54 : decode cX5_breach 54 = .ok (.iload_n 2, 1) := by decide +kernel
theorem dX5_breach_55 : decode cX5_breach 55 = .ok (.invokevirtual 178, 3) := by decide +kernel
theorem dX5_breach_58 : decode cX5_breach 58 = .ok (.ireturn, 1) := by decide +kernel
theorem dX5_years_0 : decode cX5_years 0 = .ok (.iload_n 1, 1) := by decide +kernel
theorem dX5_years_1 : decode cX5_years 1 = .ok (.iconst 1, 1) := by decide +kernel
theorem dX5_years_2 : decode cX5_years 2 = .ok (.if_icmp .ge 10, 3) := by decide +kernel
theorem dX5_years_5 : decode cX5_years 5 = .ok (.aload_n 0, 1) := by decide +kernel
theorem dX5_years_6 : decode cX5_years 6 = .ok (.bipush (-4), 2) := by decide +kernel
theorem dX5_years_8 : decode cX5_years 8 = .ok (.invokevirtual 71, 3) := by decide +kernel
theorem dX5_years_11 : decode cX5_years 11 = .ok (.ireturn, 1) := by decide +kernel
theorem dX5_years_12 : decode cX5_years 12 = .ok (.iload_n 1, 1) := by decide +kernel
theorem dX5_years_13 : decode cX5_years 13 = .ok (.bipush 60, 2) := by decide +kernel
theorem dX5_years_15 : decode cX5_years 15 = .ok (.aload_n 0, 1) := by decide +kernel
theorem dX5_years_16 : decode cX5_years 16 = .ok (.getfield 58, 3) := by decide +kernel
theorem dX5_years_19 : decode cX5_years 19 = .ok (.isub, 1) := by decide +kernel
theorem dX5_years_20 : decode cX5_years 20 = .ok (.if_icmp .le 10, 3) := by decide +kernel
theorem dX5_years_23 : decode cX5_years 23 = .ok (.aload_n 0, 1) := by decide +kernel
theorem dX5_years_24 : decode cX5_years 24 = .ok (.bipush (-6), 2) := by decide +kernel
theorem dX5_years_26 : decode cX5_years 26 = .ok (.invokevirtual 71, 3) := by decide +kernel
theorem dX5_years_29 : decode cX5_years 29 = .ok (.ireturn, 1) := by decide +kernel
theorem dX5_years_30 : decode cX5_years 30 = .ok (.iconst 0, 1) := by decide +kernel
theorem dX5_years_31 : decode cX5_years 31 = .ok (.istore_n 2, 1) := by decide +kernel
theorem dX5_years_32 : decode cX5_years 32 = .ok (.iload_n 2, 1) := by decide +kernel
theorem dX5_years_33 : decode cX5_years 33 = .ok (.iload_n 1, 1) := by decide +kernel
theorem dX5_years_34 : decode cX5_years 34 = .ok (.if_icmp .ge 13, 3) := by decide +kernel
theorem dX5_years_37 : decode cX5_years 37 = .ok (.aload_n 0, 1) := by decide +kernel
theorem dX5_years_38 : decode cX5_years 38 = .ok (.invokevirtual 181, 3) := by decide +kernel
theorem dX5_years_41 : decode cX5_years 41 = .ok (.iinc 2 1, 3) := by decide +kernel
theorem dX5_years_44 : decode cX5_years 44 = .ok (.goto (-12), 3) := by decide +kernel
theorem dX5_years_47 : decode cX5_years 47 = .ok (.aload_n 0, 1) := by decide +kernel
theorem dX5_years_48 : decode cX5_years 48 = .ok (.getfield 58, 3) := by decide +kernel
theorem dX5_years_51 : decode cX5_years 51 = .ok (.ireturn, 1) := by decide +kernel
theorem dX5_release_0 : decode cX5_release 0 = .ok (.aload_n 0, 1) := by decide +kernel
theorem dX5_release_1 : decode cX5_release 1 = .ok (.getfield 26, 3) := by decide +kernel
theorem dX5_release_4 : decode cX5_release 4 = .ok (.iload_n 1, 1) := by decide +kernel
theorem dX5_release_5 : decode cX5_release 5 = .ok (.invokevirtual 127, 3) := by decide +kernel
theorem dX5_release_8 : decode cX5_release 8 = .ok (.ifCond .eq 15, 3) := by decide +kernel
theorem dX5_release_11 : decode cX5_release 11 = .ok (.aload_n 0, 1) := by decide +kernel
theorem dX5_release_12 : decode cX5_release 12 = .ok (.getfield 26, 3) := by decide +kernel
theorem dX5_release_15 : decode cX5_release 15 = .ok (.getfield 184, 3) := by decide +kernel
theorem dX5_release_18 : decode cX5_release 18 = .ok (.iload_n 1, 1) := by decide +kernel
theorem dX5_release_19 : decode cX5_release 19 = .ok (.baload, 1) := by decide +kernel
theorem dX5_release_20 : decode cX5_release 20 = .ok (.ifCond .eq 5, 3) := by decide +kernel
theorem dX5_release_23 : decode cX5_release 23 = .ok (.iconst 0, 1) := by decide +kernel
theorem dX5_release_24 : decode cX5_release 24 = .ok (.ireturn, 1) := by decide +kernel
theorem dX5_release_25 : decode cX5_release 25 = .ok (.aload_n 0, 1) := by decide +kernel
theorem dX5_release_26 : decode cX5_release 26 = .ok (.getfield 26, 3) := by decide +kernel
theorem dX5_release_29 : decode cX5_release 29 = .ok (.getfield 184, 3) := by decide +kernel
theorem dX5_release_32 : decode cX5_release 32 = .ok (.iload_n 1, 1) := by decide +kernel
theorem dX5_release_33 : decode cX5_release 33 = .ok (.iconst 1, 1) := by decide +kernel
theorem dX5_release_34 : decode cX5_release 34 = .ok (.bastore, 1) := by decide +kernel
theorem dX5_release_35 : decode cX5_release 35 = .ok (.iconst 1, 1) := by decide +kernel
theorem dX5_release_36 : decode cX5_release 36 = .ok (.ireturn, 1) := by decide +kernel
theorem dX5_blockOf_0 : decode cX5_blockOf 0 = .ok (.aload_n 0, 1) := by decide +kernel
theorem dX5_blockOf_1 : decode cX5_blockOf 1 = .ok (.getfield 19, 3) := by decide +kernel
theorem dX5_blockOf_4 : decode cX5_blockOf 4 = .ok (.iload_n 1, 1) := by decide +kernel
theorem dX5_blockOf_5 : decode cX5_blockOf 5 = .ok (.invokevirtual 120, 3) := by decide +kernel
theorem dX5_blockOf_8 : decode cX5_blockOf 8 = .ok (.ifCond .ne 9, 3) := by decide +kernel
theorem dX5_blockOf_11 : decode cX5_blockOf 11 = .ok (.aload_n 0, 1) := by decide +kernel
theorem dX5_blockOf_12 : decode cX5_blockOf 12 = .ok (.iconst (-1), 1) := by decide +kernel
theorem dX5_blockOf_13 : decode cX5_blockOf 13 = .ok (.invokevirtual 154, 3) := by decide +kernel
theorem dX5_blockOf_16 : decode cX5_blockOf 16 = .ok (.ireturn, 1) := by decide +kernel
theorem dX5_blockOf_17 : decode cX5_blockOf 17 = .ok (.iload_n 2, 1) := by decide +kernel
theorem dX5_blockOf_18 : decode cX5_blockOf 18 = .ok (.tableswitch 130 0 5 #[38, 48, 57, 66, 94, 112], 38) := by decide +kernel
theorem dX5_blockOf_56 : decode cX5_blockOf 56 = .ok (.aload_n 0, 1) := by decide +kernel
theorem dX5_blockOf_57 : decode cX5_blockOf 57 = .ok (.getfield 19, 3) := by decide +kernel
theorem dX5_blockOf_60 : decode cX5_blockOf 60 = .ok (.getfield 187, 3) := by decide +kernel
theorem dX5_blockOf_63 : decode cX5_blockOf 63 = .ok (.iload_n 1, 1) := by decide +kernel
theorem dX5_blockOf_64 : decode cX5_blockOf 64 = .ok (.iaload, 1) := by decide +kernel
theorem dX5_blockOf_65 : decode cX5_blockOf 65 = .ok (.ireturn, 1) := by decide +kernel
theorem dX5_blockOf_66 : decode cX5_blockOf 66 = .ok (.aload_n 0, 1) := by decide +kernel
theorem dX5_blockOf_67 : decode cX5_blockOf 67 = .ok (.getfield 19, 3) := by decide +kernel
theorem dX5_blockOf_70 : decode cX5_blockOf 70 = .ok (.iload_n 1, 1) := by decide +kernel
theorem dX5_blockOf_71 : decode cX5_blockOf 71 = .ok (.invokevirtual 107, 3) := by decide +kernel
theorem dX5_blockOf_74 : decode cX5_blockOf 74 = .ok (.ireturn, 1) := by decide +kernel
theorem dX5_blockOf_75 : decode cX5_blockOf 75 = .ok (.aload_n 0, 1) := by decide +kernel
theorem dX5_blockOf_76 : decode cX5_blockOf 76 = .ok (.getfield 19, 3) := by decide +kernel
theorem dX5_blockOf_79 : decode cX5_blockOf 79 = .ok (.iload_n 1, 1) := by decide +kernel
theorem dX5_blockOf_80 : decode cX5_blockOf 80 = .ok (.invokevirtual 97, 3) := by decide +kernel
theorem dX5_blockOf_83 : decode cX5_blockOf 83 = .ok (.ireturn, 1) := by decide +kernel
theorem dX5_blockOf_84 : decode cX5_blockOf 84 = .ok (.aload_n 0, 1) := by decide +kernel
theorem dX5_blockOf_85 : decode cX5_blockOf 85 = .ok (.getfield 19, 3) := by decide +kernel
theorem dX5_blockOf_88 : decode cX5_blockOf 88 = .ok (.getfield 187, 3) := by decide +kernel
theorem dX5_blockOf_91 : decode cX5_blockOf 91 = .ok (.iload_n 1, 1) := by decide +kernel
theorem dX5_blockOf_92 : decode cX5_blockOf 92 = .ok (.iaload, 1) := by decide +kernel
theorem dX5_blockOf_93 : decode cX5_blockOf 93 = .ok (.iconst 1, 1) := by decide +kernel
theorem dX5_blockOf_94 : decode cX5_blockOf 94 = .ok (.if_icmp .ne 15, 3) := by decide +kernel
theorem dX5_blockOf_97 : decode cX5_blockOf 97 = .ok (.aload_n 0, 1) := by decide +kernel
theorem dX5_blockOf_98 : decode cX5_blockOf 98 = .ok (.getfield 19, 3) := by decide +kernel
theorem dX5_blockOf_101 : decode cX5_blockOf 101 = .ok (.getfield 100, 3) := by decide +kernel
theorem dX5_blockOf_104 : decode cX5_blockOf 104 = .ok (.iload_n 1, 1) := by decide +kernel
theorem dX5_blockOf_105 : decode cX5_blockOf 105 = .ok (.iaload, 1) := by decide +kernel
theorem dX5_blockOf_106 : decode cX5_blockOf 106 = .ok (.goto 5, 3) := by decide +kernel
theorem dX5_blockOf_109 : decode cX5_blockOf 109 = .ok (.bipush (-9), 2) := by decide +kernel
theorem dX5_blockOf_111 : decode cX5_blockOf 111 = .ok (.ireturn, 1) := by decide +kernel
theorem dX5_blockOf_112 : decode cX5_blockOf 112 = .ok (.aload_n 0, 1) := by decide +kernel
theorem dX5_blockOf_113 : decode cX5_blockOf 113 = .ok (.getfield 19, 3) := by decide +kernel
theorem dX5_blockOf_116 : decode cX5_blockOf 116 = .ok (.getfield 117, 3) := by decide +kernel
theorem dX5_blockOf_119 : decode cX5_blockOf 119 = .ok (.iload_n 1, 1) := by decide +kernel
theorem dX5_blockOf_120 : decode cX5_blockOf 120 = .ok (.baload, 1) := by decide +kernel
theorem dX5_blockOf_121 : decode cX5_blockOf 121 = .ok (.ifCond .eq 7, 3) := by decide +kernel
theorem dX5_blockOf_124 : decode cX5_blockOf 124 = .ok (.iconst 1, 1) := by decide +kernel
theorem dX5_blockOf_125 : decode cX5_blockOf 125 = .ok (.goto 4, 3) := by decide +kernel
theorem dX5_blockOf_128 : decode cX5_blockOf 128 = .ok (.iconst 0, 1) := by decide +kernel
theorem dX5_blockOf_129 : decode cX5_blockOf 129 = .ok (.ireturn, 1) := by decide +kernel
theorem dX5_blockOf_130 : decode cX5_blockOf 130 = .ok (.aload_n 0, 1) := by decide +kernel
theorem dX5_blockOf_131 : decode cX5_blockOf 131 = .ok (.getfield 19, 3) := by decide +kernel
theorem dX5_blockOf_134 : decode cX5_blockOf 134 = .ok (.getfield 103, 3) := by decide +kernel
theorem dX5_blockOf_137 : decode cX5_blockOf 137 = .ok (.iload_n 1, 1) := by decide +kernel
theorem dX5_blockOf_138 : decode cX5_blockOf 138 = .ok (.baload, 1) := by decide +kernel
theorem dX5_blockOf_139 : decode cX5_blockOf 139 = .ok (.ifCond .eq 7, 3) := by decide +kernel
theorem dX5_blockOf_142 : decode cX5_blockOf 142 = .ok (.iconst 1, 1) := by decide +kernel
theorem dX5_blockOf_143 : decode cX5_blockOf 143 = .ok (.goto 4, 3) := by decide +kernel
theorem dX5_blockOf_146 : decode cX5_blockOf 146 = .ok (.iconst 0, 1) := by decide +kernel
theorem dX5_blockOf_147 : decode cX5_blockOf 147 = .ok (.ireturn, 1) := by decide +kernel
theorem dX5_blockOf_148 : decode cX5_blockOf 148 = .ok (.aload_n 0, 1) := by decide +kernel
theorem dX5_blockOf_149 : decode cX5_blockOf 149 = .ok (.bipush (-2), 2) := by decide +kernel
theorem dX5_blockOf_151 : decode cX5_blockOf 151 = .ok (.invokevirtual 154, 3) := by decide +kernel
theorem dX5_blockOf_154 : decode cX5_blockOf 154 = .ok (.ireturn, 1) := by decide +kernel
theorem dX5_windowOf_0 : decode cX5_windowOf 0 = .ok (.aload_n 0, 1) := by decide +kernel
theorem dX5_windowOf_1 : decode cX5_windowOf 1 = .ok (.getfield 26, 3) := by decide +kernel
theorem dX5_windowOf_4 : decode cX5_windowOf 4 = .ok (.iload_n 1, 1) := by decide +kernel
theorem dX5_windowOf_5 : decode cX5_windowOf 5 = .ok (.invokevirtual 127, 3) := by decide +kernel
theorem dX5_windowOf_8 : decode cX5_windowOf 8 = .ok (.ifCond .ne 9, 3) := by decide +kernel
theorem dX5_windowOf_11 : decode cX5_windowOf 11 = .ok (.aload_n 0, 1) := by decide +kernel
theorem dX5_windowOf_12 : decode cX5_windowOf 12 = .ok (.iconst (-1), 1) := by decide +kernel
theorem dX5_windowOf_13 : decode cX5_windowOf 13 = .ok (.invokevirtual 154, 3) := by decide +kernel
theorem dX5_windowOf_16 : decode cX5_windowOf 16 = .ok (.ireturn, 1) := by decide +kernel
theorem dX5_windowOf_17 : decode cX5_windowOf 17 = .ok (.iload_n 2, 1) := by decide +kernel
theorem dX5_windowOf_18 : decode cX5_windowOf 18 = .ok (.tableswitch 106 0 5 #[38, 48, 57, 67, 83, 100], 38) := by decide +kernel
theorem dX5_windowOf_56 : decode cX5_windowOf 56 = .ok (.aload_n 0, 1) := by decide +kernel
theorem dX5_windowOf_57 : decode cX5_windowOf 57 = .ok (.getfield 26, 3) := by decide +kernel
theorem dX5_windowOf_60 : decode cX5_windowOf 60 = .ok (.getfield 190, 3) := by decide +kernel
theorem dX5_windowOf_63 : decode cX5_windowOf 63 = .ok (.iload_n 1, 1) := by decide +kernel
theorem dX5_windowOf_64 : decode cX5_windowOf 64 = .ok (.iaload, 1) := by decide +kernel
theorem dX5_windowOf_65 : decode cX5_windowOf 65 = .ok (.ireturn, 1) := by decide +kernel
theorem dX5_windowOf_66 : decode cX5_windowOf 66 = .ok (.aload_n 0, 1) := by decide +kernel
theorem dX5_windowOf_67 : decode cX5_windowOf 67 = .ok (.getfield 26, 3) := by decide +kernel
theorem dX5_windowOf_70 : decode cX5_windowOf 70 = .ok (.iload_n 1, 1) := by decide +kernel
theorem dX5_windowOf_71 : decode cX5_windowOf 71 = .ok (.invokevirtual 193, 3) := by decide +kernel
theorem dX5_windowOf_74 : decode cX5_windowOf 74 = .ok (.ireturn, 1) := by decide +kernel
theorem dX5_windowOf_75 : decode cX5_windowOf 75 = .ok (.aload_n 0, 1) := by decide +kernel
theorem dX5_windowOf_76 : decode cX5_windowOf 76 = .ok (.getfield 26, 3) := by decide +kernel
theorem dX5_windowOf_79 : decode cX5_windowOf 79 = .ok (.getfield 196, 3) := by decide +kernel
theorem dX5_windowOf_82 : decode cX5_windowOf 82 = .ok (.iload_n 1, 1) := by decide +kernel
theorem dX5_windowOf_83 : decode cX5_windowOf 83 = .ok (.iaload, 1) := by decide +kernel
theorem dX5_windowOf_84 : decode cX5_windowOf 84 = .ok (.ireturn, 1) := by decide +kernel
theorem dX5_windowOf_85 : decode cX5_windowOf 85 = .ok (.aload_n 0, 1) := by decide +kernel
theorem dX5_windowOf_86 : decode cX5_windowOf 86 = .ok (.iload_n 1, 1) := by decide +kernel
theorem dX5_windowOf_87 : decode cX5_windowOf 87 = .ok (.invokevirtual 199, 3) := by decide +kernel
theorem dX5_windowOf_90 : decode cX5_windowOf 90 = .ok (.bipush (-9), 2) := by decide +kernel
theorem dX5_windowOf_92 : decode cX5_windowOf 92 = .ok (.if_icmp .ne 7, 3) := by decide +kernel
theorem dX5_windowOf_95 : decode cX5_windowOf 95 = .ok (.iconst 1, 1) := by decide +kernel
theorem dX5_windowOf_96 : decode cX5_windowOf 96 = .ok (.goto 4, 3) := by decide +kernel
theorem dX5_windowOf_99 : decode cX5_windowOf 99 = .ok (.iconst 0, 1) := by decide +kernel
theorem dX5_windowOf_100 : decode cX5_windowOf 100 = .ok (.ireturn, 1) := by decide +kernel
theorem dX5_windowOf_101 : decode cX5_windowOf 101 = .ok (.aload_n 0, 1) := by decide +kernel
theorem dX5_windowOf_102 : decode cX5_windowOf 102 = .ok (.getfield 26, 3) := by decide +kernel
theorem dX5_windowOf_105 : decode cX5_windowOf 105 = .ok (.iload_n 1, 1) := by decide +kernel
theorem dX5_windowOf_106 : decode cX5_windowOf 106 = .ok (.invokevirtual 202, 3) := by decide +kernel
theorem dX5_windowOf_109 : decode cX5_windowOf 109 = .ok (.ifCond .eq 7, 3) := by decide +kernel
theorem dX5_windowOf_112 : decode cX5_windowOf 112 = .ok (.iconst 1, 1) := by decide +kernel
theorem dX5_windowOf_113 : decode cX5_windowOf 113 = .ok (.goto 4, 3) := by decide +kernel
theorem dX5_windowOf_116 : decode cX5_windowOf 116 = .ok (.iconst 0, 1) := by decide +kernel
theorem dX5_windowOf_117 : decode cX5_windowOf 117 = .ok (.ireturn, 1) := by decide +kernel
theorem dX5_windowOf_118 : decode cX5_windowOf 118 = .ok (.aload_n 0, 1) := by decide +kernel
theorem dX5_windowOf_119 : decode cX5_windowOf 119 = .ok (.iload_n 1, 1) := by decide +kernel
theorem dX5_windowOf_120 : decode cX5_windowOf 120 = .ok (.invokevirtual 199, 3) := by decide +kernel
theorem dX5_windowOf_123 : decode cX5_windowOf 123 = .ok (.ireturn, 1) := by decide +kernel
theorem dX5_windowOf_124 : decode cX5_windowOf 124 = .ok (.aload_n 0, 1) := by decide +kernel
theorem dX5_windowOf_125 : decode cX5_windowOf 125 = .ok (.bipush (-2), 2) := by decide +kernel
theorem dX5_windowOf_127 : decode cX5_windowOf 127 = .ok (.invokevirtual 154, 3) := by decide +kernel
theorem dX5_windowOf_130 : decode cX5_windowOf 130 = .ok (.ireturn, 1) := by decide +kernel
theorem dX5_count_0 : decode cX5_count 0 = .ok (.iload_n 1, 1) := by decide +kernel
theorem dX5_count_1 : decode cX5_count 1 = .ok (.bipush 10, 2) := by decide +kernel
theorem dX5_count_3 : decode cX5_count 3 = .ok (.if_icmp .le 19, 3) := by decide +kernel
theorem dX5_count_6 : decode cX5_count 6 = .ok (.iload_n 1, 1) := by decide +kernel
theorem dX5_count_7 : decode cX5_count 7 = .ok (.bipush 16, 2) := by decide +kernel
theorem dX5_count_9 : decode cX5_count 9 = .ok (.if_icmp .gt 13, 3) := by decide +kernel
theorem dX5_count_12 : decode cX5_count 12 = .ok (.aload_n 0, 1) := by decide +kernel
theorem dX5_count_13 : decode cX5_count 13 = .ok (.getfield 48, 3) := by decide +kernel
theorem dX5_count_16 : decode cX5_count 16 = .ok (.iload_n 1, 1) := by decide +kernel
theorem dX5_count_17 : decode cX5_count 17 = .ok (.bipush 10, 2) := by decide +kernel
theorem dX5_count_19 : decode cX5_count 19 = .ok (.isub, 1) := by decide +kernel
theorem dX5_count_20 : decode cX5_count 20 = .ok (.iaload, 1) := by decide +kernel
theorem dX5_count_21 : decode cX5_count 21 = .ok (.ireturn, 1) := by decide +kernel
theorem dX5_count_22 : decode cX5_count 22 = .ok (.iload_n 1, 1) := by decide +kernel
theorem dX5_count_23 : decode cX5_count 23 = .ok (.tableswitch 79 0 5 #[37, 42, 50, 58, 66, 71], 37) := by decide +kernel
theorem dX5_count_60 : decode cX5_count 60 = .ok (.aload_n 0, 1) := by decide +kernel
theorem dX5_count_61 : decode cX5_count 61 = .ok (.getfield 58, 3) := by decide +kernel
theorem dX5_count_64 : decode cX5_count 64 = .ok (.ireturn, 1) := by decide +kernel
theorem dX5_count_65 : decode cX5_count 65 = .ok (.aload_n 0, 1) := by decide +kernel
theorem dX5_count_66 : decode cX5_count 66 = .ok (.getfield 19, 3) := by decide +kernel
theorem dX5_count_69 : decode cX5_count 69 = .ok (.getfield 205, 3) := by decide +kernel
theorem dX5_count_72 : decode cX5_count 72 = .ok (.ireturn, 1) := by decide +kernel
theorem dX5_count_73 : decode cX5_count 73 = .ok (.aload_n 0, 1) := by decide +kernel
theorem dX5_count_74 : decode cX5_count 74 = .ok (.getfield 26, 3) := by decide +kernel
theorem dX5_count_77 : decode cX5_count 77 = .ok (.getfield 208, 3) := by decide +kernel
theorem dX5_count_80 : decode cX5_count 80 = .ok (.ireturn, 1) := by decide +kernel
theorem dX5_count_81 : decode cX5_count 81 = .ok (.aload_n 0, 1) := by decide +kernel
theorem dX5_count_82 : decode cX5_count 82 = .ok (.getfield 10, 3) := by decide +kernel
theorem dX5_count_85 : decode cX5_count 85 = .ok (.invokevirtual 209, 3) := by decide +kernel
theorem dX5_count_88 : decode cX5_count 88 = .ok (.ireturn, 1) := by decide +kernel
theorem dX5_count_89 : decode cX5_count 89 = .ok (.aload_n 0, 1) := by decide +kernel
theorem dX5_count_90 : decode cX5_count 90 = .ok (.invokevirtual 213, 3) := by decide +kernel
theorem dX5_count_93 : decode cX5_count 93 = .ok (.ireturn, 1) := by decide +kernel
theorem dX5_count_94 : decode cX5_count 94 = .ok (.aload_n 0, 1) := by decide +kernel
theorem dX5_count_95 : decode cX5_count 95 = .ok (.getfield 26, 3) := by decide +kernel
theorem dX5_count_98 : decode cX5_count 98 = .ok (.invokevirtual 216, 3) := by decide +kernel
theorem dX5_count_101 : decode cX5_count 101 = .ok (.ireturn, 1) := by decide +kernel
theorem dX5_count_102 : decode cX5_count 102 = .ok (.bipush (-9), 2) := by decide +kernel
theorem dX5_count_104 : decode cX5_count 104 = .ok (.ireturn, 1) := by decide +kernel
theorem dX5_isDay_0 : decode cX5_isDay 0 = .ok (.iload_n 0, 1) := by decide +kernel
theorem dX5_isDay_1 : decode cX5_isDay 1 = .ok (.ifCond .lt 13, 3) := by decide +kernel
theorem dX5_isDay_4 : decode cX5_isDay 4 = .ok (.iload_n 0, 1) := by decide +kernel
theorem dX5_isDay_5 : decode cX5_isDay 5 = .ok (.bipush 8, 2) := by decide +kernel
theorem dX5_isDay_7 : decode cX5_isDay 7 = .ok (.if_icmp .ge 7, 3) := by decide +kernel
theorem dX5_isDay_10 : decode cX5_isDay 10 = .ok (.iconst 1, 1) := by decide +kernel
theorem dX5_isDay_11 : decode cX5_isDay 11 = .ok (.goto 4, 3) := by decide +kernel
theorem dX5_isDay_14 : decode cX5_isDay 14 = .ok (.iconst 0, 1) := by decide +kernel
theorem dX5_isDay_15 : decode cX5_isDay 15 = .ok (.ireturn, 1) := by decide +kernel
theorem dX5_refuse_0 : decode cX5_refuse 0 = .ok (.iload_n 1, 1) := by decide +kernel
theorem dX5_refuse_1 : decode cX5_refuse 1 = .ok (.ifCond .ge 20, 3) := by decide +kernel
theorem dX5_refuse_4 : decode cX5_refuse 4 = .ok (.iload_n 1, 1) := by decide +kernel
theorem dX5_refuse_5 : decode cX5_refuse 5 = .ok (.bipush (-6), 2) := by decide +kernel
theorem dX5_refuse_7 : decode cX5_refuse 7 = .ok (.if_icmp .lt 14, 3) := by decide +kernel
theorem dX5_refuse_10 : decode cX5_refuse 10 = .ok (.aload_n 0, 1) := by decide +kernel
theorem dX5_refuse_11 : decode cX5_refuse 11 = .ok (.getfield 48, 3) := by decide +kernel
theorem dX5_refuse_14 : decode cX5_refuse 14 = .ok (.iload_n 1, 1) := by decide +kernel
theorem dX5_refuse_15 : decode cX5_refuse 15 = .ok (.ineg, 1) := by decide +kernel
theorem dX5_refuse_16 : decode cX5_refuse 16 = .ok (.dup2, 1) := by decide +kernel
theorem dX5_refuse_17 : decode cX5_refuse 17 = .ok (.iaload, 1) := by decide +kernel
theorem dX5_refuse_18 : decode cX5_refuse 18 = .ok (.iconst 1, 1) := by decide +kernel
theorem dX5_refuse_19 : decode cX5_refuse 19 = .ok (.iadd, 1) := by decide +kernel
theorem dX5_refuse_20 : decode cX5_refuse 20 = .ok (.iastore, 1) := by decide +kernel
theorem dX5_refuse_21 : decode cX5_refuse 21 = .ok (.iload_n 1, 1) := by decide +kernel
theorem dX5_refuse_22 : decode cX5_refuse 22 = .ok (.ireturn, 1) := by decide +kernel
theorem dX5_refuseAsTold_0 : decode cX5_refuseAsTold 0 = .ok (.ldc 219, 2) := by decide +kernel
theorem dX5_refuseAsTold_2 : decode cX5_refuseAsTold 2 = .ok (.aload_n 0, 1) := by decide +kernel
theorem dX5_refuseAsTold_3 : decode cX5_refuseAsTold 3 = .ok (.iload_n 1, 1) := by decide +kernel
theorem dX5_refuseAsTold_4 : decode cX5_refuseAsTold 4 = .ok (.invokevirtual 71, 3) := by decide +kernel
theorem dX5_refuseAsTold_7 : decode cX5_refuseAsTold 7 = .ok (.isub, 1) := by decide +kernel
theorem dX5_refuseAsTold_8 : decode cX5_refuseAsTold 8 = .ok (.ireturn, 1) := by decide +kernel
theorem dX5_forgetLight_0 : decode cX5_forgetLight 0 = .ok (.aload_n 0, 1) := by decide +kernel
theorem dX5_forgetLight_1 : decode cX5_forgetLight 1 = .ok (.getfield 51, 3) := by decide +kernel
theorem dX5_forgetLight_4 : decode cX5_forgetLight 4 = .ok (.iconst (-1), 1) := by decide +kernel
theorem dX5_forgetLight_5 : decode cX5_forgetLight 5 = .ok (.invokestatic 61, 3) := by decide +kernel
theorem dX5_forgetLight_8 : decode cX5_forgetLight 8 = .ok (.return_, 1) := by decide +kernel
theorem dX5_aim_0 : decode cX5_aim 0 = .ok (.aload_n 0, 1) := by decide +kernel
theorem dX5_aim_1 : decode cX5_aim 1 = .ok (.getfield 10, 3) := by decide +kernel
theorem dX5_aim_4 : decode cX5_aim 4 = .ok (.iload_n 2, 1) := by decide +kernel
theorem dX5_aim_5 : decode cX5_aim 5 = .ok (.iload_n 3, 1) := by decide +kernel
theorem dX5_aim_6 : decode cX5_aim 6 = .ok (.aload_n 0, 1) := by decide +kernel
theorem dX5_aim_7 : decode cX5_aim 7 = .ok (.getfield 33, 3) := by decide +kernel
theorem dX5_aim_10 : decode cX5_aim 10 = .ok (.invokevirtual 220, 3) := by decide +kernel
theorem dX5_aim_13 : decode cX5_aim 13 = .ok (.aload_n 0, 1) := by decide +kernel
theorem dX5_aim_14 : decode cX5_aim 14 = .ok (.getfield 26, 3) := by decide +kernel
theorem dX5_aim_17 : decode cX5_aim 17 = .ok (.iload_n 1, 1) := by decide +kernel
theorem dX5_aim_18 : decode cX5_aim 18 = .ok (.aload_n 0, 1) := by decide +kernel
theorem dX5_aim_19 : decode cX5_aim 19 = .ok (.getfield 33, 3) := by decide +kernel
theorem dX5_aim_22 : decode cX5_aim 22 = .ok (.invokevirtual 223, 3) := by decide +kernel
theorem dX5_aim_25 : decode cX5_aim 25 = .ok (.ireturn, 1) := by decide +kernel
theorem dX5_sunAt_0 : decode cX5_sunAt 0 = .ok (.aload_n 0, 1) := by decide +kernel
theorem dX5_sunAt_1 : decode cX5_sunAt 1 = .ok (.iload_n 1, 1) := by decide +kernel
theorem dX5_sunAt_2 : decode cX5_sunAt 2 = .ok (.iload_n 2, 1) := by decide +kernel
theorem dX5_sunAt_3 : decode cX5_sunAt 3 = .ok (.iload_n 3, 1) := by decide +kernel
theorem dX5_sunAt_4 : decode cX5_sunAt 4 = .ok (.invokevirtual 138, 3) := by decide +kernel
theorem dX5_sunAt_7 : decode cX5_sunAt 7 = .ok (.ifCond .ne 5, 3) := by decide +kernel
theorem dX5_sunAt_10 : decode cX5_sunAt 10 = .ok (.iconst 0, 1) := by decide +kernel
theorem dX5_sunAt_11 : decode cX5_sunAt 11 = .ok (.ireturn, 1) := by decide +kernel
theorem dX5_sunAt_12 : decode cX5_sunAt 12 = .ok (.aload_n 0, 1) := by decide +kernel
theorem dX5_sunAt_13 : decode cX5_sunAt 13 = .ok (.getfield 26, 3) := by decide +kernel
theorem dX5_sunAt_16 : decode cX5_sunAt 16 = .ok (.iload_n 1, 1) := by decide +kernel
theorem dX5_sunAt_17 : decode cX5_sunAt 17 = .ok (.invokevirtual 193, 3) := by decide +kernel
theorem dX5_sunAt_20 : decode cX5_sunAt 20 = .ok (.istore 6, 2) := by decide +kernel
theorem dX5_sunAt_22 : decode cX5_sunAt 22 = .ok (.aload_n 0, 1) := by decide +kernel
theorem dX5_sunAt_23 : decode cX5_sunAt 23 = .ok (.getfield 26, 3) := by decide +kernel
theorem dX5_sunAt_26 : decode cX5_sunAt 26 = .ok (.iload_n 1, 1) := by decide +kernel
theorem dX5_sunAt_27 : decode cX5_sunAt 27 = .ok (.aload_n 0, 1) := by decide +kernel
theorem dX5_sunAt_28 : decode cX5_sunAt 28 = .ok (.getfield 33, 3) := by decide +kernel
theorem dX5_sunAt_31 : decode cX5_sunAt 31 = .ok (.invokevirtual 227, 3) := by decide +kernel
theorem dX5_sunAt_34 : decode cX5_sunAt 34 = .ok (.aload_n 0, 1) := by decide +kernel
theorem dX5_sunAt_35 : decode cX5_sunAt 35 = .ok (.getfield 40, 3) := by decide +kernel
theorem dX5_sunAt_38 : decode cX5_sunAt 38 = .ok (.aload_n 0, 1) := by decide +kernel
theorem dX5_sunAt_39 : decode cX5_sunAt 39 = .ok (.getfield 19, 3) := by decide +kernel
theorem dX5_sunAt_42 : decode cX5_sunAt 42 = .ok (.aload_n 0, 1) := by decide +kernel
theorem dX5_sunAt_43 : decode cX5_sunAt 43 = .ok (.getfield 33, 3) := by decide +kernel
theorem dX5_sunAt_46 : decode cX5_sunAt 46 = .ok (.iload_n 2, 1) := by decide +kernel
theorem dX5_sunAt_47 : decode cX5_sunAt 47 = .ok (.iload 4, 2) := by decide +kernel
theorem dX5_sunAt_49 : decode cX5_sunAt 49 = .ok (.iload 5, 2) := by decide +kernel
theorem dX5_sunAt_51 : decode cX5_sunAt 51 = .ok (.invokevirtual 146, 3) := by decide +kernel
theorem dX5_sunAt_54 : decode cX5_sunAt 54 = .ok (.aload_n 0, 1) := by decide +kernel
theorem dX5_sunAt_55 : decode cX5_sunAt 55 = .ok (.getfield 40, 3) := by decide +kernel
theorem dX5_sunAt_58 : decode cX5_sunAt 58 = .ok (.getfield 231, 3) := by decide +kernel
theorem dX5_sunAt_61 : decode cX5_sunAt 61 = .ok (.ifCond .ne 10, 3) := by decide +kernel
theorem dX5_sunAt_64 : decode cX5_sunAt 64 = .ok (.iload 6, 2) := by decide +kernel
theorem dX5_sunAt_66 : decode cX5_sunAt 66 = .ok (.sipush 4096, 3) := by decide +kernel
theorem dX5_sunAt_69 : decode cX5_sunAt 69 = .ok (.imul, 1) := by decide +kernel
theorem dX5_sunAt_70 : decode cX5_sunAt 70 = .ok (.ireturn, 1) := by decide +kernel
theorem dX5_sunAt_71 : decode cX5_sunAt 71 = .ok (.iconst 0, 1) := by decide +kernel
theorem dX5_sunAt_72 : decode cX5_sunAt 72 = .ok (.istore 7, 2) := by decide +kernel
theorem dX5_sunAt_74 : decode cX5_sunAt 74 = .ok (.iconst 0, 1) := by decide +kernel
theorem dX5_sunAt_75 : decode cX5_sunAt 75 = .ok (.istore 8, 2) := by decide +kernel
theorem dX5_sunAt_77 : decode cX5_sunAt 77 = .ok (.iload 8, 2) := by decide +kernel
theorem dX5_sunAt_79 : decode cX5_sunAt 79 = .ok (.iload 6, 2) := by decide +kernel
theorem dX5_sunAt_81 : decode cX5_sunAt 81 = .ok (.if_icmp .ge 43, 3) := by decide +kernel
theorem dX5_sunAt_84 : decode cX5_sunAt 84 = .ok (.aload_n 0, 1) := by decide +kernel
theorem dX5_sunAt_85 : decode cX5_sunAt 85 = .ok (.getfield 26, 3) := by decide +kernel
theorem dX5_sunAt_88 : decode cX5_sunAt 88 = .ok (.iload_n 1, 1) := by decide +kernel
theorem dX5_sunAt_89 : decode cX5_sunAt 89 = .ok (.iload 8, 2) := by decide +kernel
theorem dX5_sunAt_91 : decode cX5_sunAt 91 = .ok (.aload_n 0, 1) := by decide +kernel
theorem dX5_sunAt_92 : decode cX5_sunAt 92 = .ok (.getfield 33, 3) := by decide +kernel
theorem dX5_sunAt_95 : decode cX5_sunAt 95 = .ok (.invokevirtual 142, 3) := by decide +kernel
theorem dX5_sunAt_98 : decode cX5_sunAt 98 = .ok (.iload 7, 2) := by decide +kernel
theorem dX5_sunAt_100 : decode cX5_sunAt 100 = .ok (.aload_n 0, 1) := by decide +kernel
theorem dX5_sunAt_101 : decode cX5_sunAt 101 = .ok (.getfield 40, 3) := by decide +kernel
theorem dX5_sunAt_104 : decode cX5_sunAt 104 = .ok (.aload_n 0, 1) := by decide +kernel
theorem dX5_sunAt_105 : decode cX5_sunAt 105 = .ok (.getfield 19, 3) := by decide +kernel
theorem dX5_sunAt_108 : decode cX5_sunAt 108 = .ok (.aload_n 0, 1) := by decide +kernel
theorem dX5_sunAt_109 : decode cX5_sunAt 109 = .ok (.getfield 33, 3) := by decide +kernel
theorem dX5_sunAt_112 : decode cX5_sunAt 112 = .ok (.invokevirtual 150, 3) := by decide +kernel
theorem dX5_sunAt_115 : decode cX5_sunAt 115 = .ok (.iadd, 1) := by decide +kernel
theorem dX5_sunAt_116 : decode cX5_sunAt 116 = .ok (.istore 7, 2) := by decide +kernel
theorem dX5_sunAt_118 : decode cX5_sunAt 118 = .ok (.iinc 8 1, 3) := by decide +kernel
theorem dX5_sunAt_121 : decode cX5_sunAt 121 = .ok (.goto (-44), 3) := by decide +kernel
theorem dX5_sunAt_124 : decode cX5_sunAt 124 = .ok (.iload 7, 2) := by decide +kernel
theorem dX5_sunAt_126 : decode cX5_sunAt 126 = .ok (.ireturn, 1) := by decide +kernel
theorem dX5_cellsTaken_0 : decode cX5_cellsTaken 0 = .ok (.aload_n 0, 1) := by decide +kernel
theorem dX5_cellsTaken_1 : decode cX5_cellsTaken 1 = .ok (.iload_n 1, 1) := by decide +kernel
theorem dX5_cellsTaken_2 : decode cX5_cellsTaken 2 = .ok (.iload_n 2, 1) := by decide +kernel
theorem dX5_cellsTaken_3 : decode cX5_cellsTaken 3 = .ok (.iload_n 3, 1) := by decide +kernel
theorem dX5_cellsTaken_4 : decode cX5_cellsTaken 4 = .ok (.invokevirtual 138, 3) := by decide +kernel
theorem dX5_cellsTaken_7 : decode cX5_cellsTaken 7 = .ok (.ifCond .ne 5, 3) := by decide +kernel
theorem dX5_cellsTaken_10 : decode cX5_cellsTaken 10 = .ok (.iconst 0, 1) := by decide +kernel
theorem dX5_cellsTaken_11 : decode cX5_cellsTaken 11 = .ok (.ireturn, 1) := by decide +kernel
theorem dX5_cellsTaken_12 : decode cX5_cellsTaken 12 = .ok (.aload_n 0, 1) := by decide +kernel
theorem dX5_cellsTaken_13 : decode cX5_cellsTaken 13 = .ok (.getfield 26, 3) := by decide +kernel
theorem dX5_cellsTaken_16 : decode cX5_cellsTaken 16 = .ok (.iload_n 1, 1) := by decide +kernel
theorem dX5_cellsTaken_17 : decode cX5_cellsTaken 17 = .ok (.aload_n 0, 1) := by decide +kernel
theorem dX5_cellsTaken_18 : decode cX5_cellsTaken 18 = .ok (.getfield 33, 3) := by decide +kernel
theorem dX5_cellsTaken_21 : decode cX5_cellsTaken 21 = .ok (.invokevirtual 227, 3) := by decide +kernel
theorem dX5_cellsTaken_24 : decode cX5_cellsTaken 24 = .ok (.aload_n 0, 1) := by decide +kernel
theorem dX5_cellsTaken_25 : decode cX5_cellsTaken 25 = .ok (.getfield 40, 3) := by decide +kernel
theorem dX5_cellsTaken_28 : decode cX5_cellsTaken 28 = .ok (.aload_n 0, 1) := by decide +kernel
theorem dX5_cellsTaken_29 : decode cX5_cellsTaken 29 = .ok (.getfield 19, 3) := by decide +kernel
theorem dX5_cellsTaken_32 : decode cX5_cellsTaken 32 = .ok (.aload_n 0, 1) := by decide +kernel
theorem dX5_cellsTaken_33 : decode cX5_cellsTaken 33 = .ok (.getfield 33, 3) := by decide +kernel
theorem dX5_cellsTaken_36 : decode cX5_cellsTaken 36 = .ok (.iload_n 2, 1) := by decide +kernel
theorem dX5_cellsTaken_37 : decode cX5_cellsTaken 37 = .ok (.bipush (-9), 2) := by decide +kernel
theorem dX5_cellsTaken_39 : decode cX5_cellsTaken 39 = .ok (.iconst 0, 1) := by decide +kernel
theorem dX5_cellsTaken_40 : decode cX5_cellsTaken 40 = .ok (.invokevirtual 146, 3) := by decide +kernel
theorem dX5_cellsTaken_43 : decode cX5_cellsTaken 43 = .ok (.iconst 0, 1) := by decide +kernel
theorem dX5_cellsTaken_44 : decode cX5_cellsTaken 44 = .ok (.istore 5, 2) := by decide +kernel
theorem dX5_cellsTaken_46 : decode cX5_cellsTaken 46 = .ok (.iconst 0, 1) := by decide +kernel
theorem dX5_cellsTaken_47 : decode cX5_cellsTaken 47 = .ok (.istore 6, 2) := by decide +kernel
theorem dX5_cellsTaken_49 : decode cX5_cellsTaken 49 = .ok (.iload 6, 2) := by decide +kernel
theorem dX5_cellsTaken_51 : decode cX5_cellsTaken 51 = .ok (.aload_n 0, 1) := by decide +kernel
theorem dX5_cellsTaken_52 : decode cX5_cellsTaken 52 = .ok (.getfield 26, 3) := by decide +kernel
theorem dX5_cellsTaken_55 : decode cX5_cellsTaken 55 = .ok (.iload_n 1, 1) := by decide +kernel
theorem dX5_cellsTaken_56 : decode cX5_cellsTaken 56 = .ok (.invokevirtual 193, 3) := by decide +kernel
theorem dX5_cellsTaken_59 : decode cX5_cellsTaken 59 = .ok (.if_icmp .ge 46, 3) := by decide +kernel
theorem dX5_cellsTaken_62 : decode cX5_cellsTaken 62 = .ok (.aload_n 0, 1) := by decide +kernel
theorem dX5_cellsTaken_63 : decode cX5_cellsTaken 63 = .ok (.getfield 26, 3) := by decide +kernel
theorem dX5_cellsTaken_66 : decode cX5_cellsTaken 66 = .ok (.iload_n 1, 1) := by decide +kernel
theorem dX5_cellsTaken_67 : decode cX5_cellsTaken 67 = .ok (.iload 6, 2) := by decide +kernel
theorem dX5_cellsTaken_69 : decode cX5_cellsTaken 69 = .ok (.aload_n 0, 1) := by decide +kernel
theorem dX5_cellsTaken_70 : decode cX5_cellsTaken 70 = .ok (.getfield 33, 3) := by decide +kernel
theorem dX5_cellsTaken_73 : decode cX5_cellsTaken 73 = .ok (.invokevirtual 142, 3) := by decide +kernel
theorem dX5_cellsTaken_76 : decode cX5_cellsTaken 76 = .ok (.aload_n 0, 1) := by decide +kernel
theorem dX5_cellsTaken_77 : decode cX5_cellsTaken 77 = .ok (.getfield 40, 3) := by decide +kernel
theorem dX5_cellsTaken_80 : decode cX5_cellsTaken 80 = .ok (.aload_n 0, 1) := by decide +kernel
theorem dX5_cellsTaken_81 : decode cX5_cellsTaken 81 = .ok (.getfield 19, 3) := by decide +kernel
theorem dX5_cellsTaken_84 : decode cX5_cellsTaken 84 = .ok (.aload_n 0, 1) := by decide +kernel
theorem dX5_cellsTaken_85 : decode cX5_cellsTaken 85 = .ok (.getfield 33, 3) := by decide +kernel
theorem dX5_cellsTaken_88 : decode cX5_cellsTaken 88 = .ok (.invokevirtual 157, 3) := by decide +kernel
theorem dX5_cellsTaken_91 : decode cX5_cellsTaken 91 = .ok (.iload 4, 2) := by decide +kernel
theorem dX5_cellsTaken_93 : decode cX5_cellsTaken 93 = .ok (.if_icmp .ne 6, 3) := by decide +kernel
theorem dX5_cellsTaken_96 : decode cX5_cellsTaken 96 = .ok (.iinc 5 1, 3) := by decide +kernel
theorem dX5_cellsTaken_99 : decode cX5_cellsTaken 99 = .ok (.iinc 6 1, 3) := by decide +kernel
theorem dX5_cellsTaken_102 : decode cX5_cellsTaken 102 = .ok (.goto (-53), 3) := by decide +kernel
theorem dX5_cellsTaken_105 : decode cX5_cellsTaken 105 = .ok (.iload 5, 2) := by decide +kernel
theorem dX5_cellsTaken_107 : decode cX5_cellsTaken 107 = .ok (.ireturn, 1) := by decide +kernel
theorem dX5_isLitBy_0 : decode cX5_isLitBy 0 = .ok (.bipush 8, 2) := by decide +kernel
theorem dX5_isLitBy_2 : decode cX5_isLitBy 2 = .ok (.iload_n 2, 1) := by decide +kernel
theorem dX5_isLitBy_3 : decode cX5_isLitBy 3 = .ok (.imul, 1) := by decide +kernel
theorem dX5_isLitBy_4 : decode cX5_isLitBy 4 = .ok (.aload_n 0, 1) := by decide +kernel
theorem dX5_isLitBy_5 : decode cX5_isLitBy 5 = .ok (.getfield 54, 3) := by decide +kernel
theorem dX5_isLitBy_8 : decode cX5_isLitBy 8 = .ok (.sipush 4096, 3) := by decide +kernel
theorem dX5_isLitBy_11 : decode cX5_isLitBy 11 = .ok (.imul, 1) := by decide +kernel
theorem dX5_isLitBy_12 : decode cX5_isLitBy 12 = .ok (.aload_n 0, 1) := by decide +kernel
theorem dX5_isLitBy_13 : decode cX5_isLitBy 13 = .ok (.getfield 26, 3) := by decide +kernel
theorem dX5_isLitBy_16 : decode cX5_isLitBy 16 = .ok (.iload_n 1, 1) := by decide +kernel
theorem dX5_isLitBy_17 : decode cX5_isLitBy 17 = .ok (.invokevirtual 193, 3) := by decide +kernel
theorem dX5_isLitBy_20 : decode cX5_isLitBy 20 = .ok (.imul, 1) := by decide +kernel
theorem dX5_isLitBy_21 : decode cX5_isLitBy 21 = .ok (.if_icmp .lt 7, 3) := by decide +kernel
theorem dX5_isLitBy_24 : decode cX5_isLitBy 24 = .ok (.iconst 1, 1) := by decide +kernel
theorem dX5_isLitBy_25 : decode cX5_isLitBy 25 = .ok (.goto 4, 3) := by decide +kernel
theorem dX5_isLitBy_28 : decode cX5_isLitBy 28 = .ok (.iconst 0, 1) := by decide +kernel
theorem dX5_isLitBy_29 : decode cX5_isLitBy 29 = .ok (.ireturn, 1) := by decide +kernel
theorem dX5_litMinutes_0 : decode cX5_litMinutes 0 = .ok (.aload_n 0, 1) := by decide +kernel
theorem dX5_litMinutes_1 : decode cX5_litMinutes 1 = .ok (.getfield 51, 3) := by decide +kernel
theorem dX5_litMinutes_4 : decode cX5_litMinutes 4 = .ok (.iload_n 1, 1) := by decide +kernel
theorem dX5_litMinutes_5 : decode cX5_litMinutes 5 = .ok (.bipush 8, 2) := by decide +kernel
theorem dX5_litMinutes_7 : decode cX5_litMinutes 7 = .ok (.imul, 1) := by decide +kernel
theorem dX5_litMinutes_8 : decode cX5_litMinutes 8 = .ok (.iload_n 2, 1) := by decide +kernel
theorem dX5_litMinutes_9 : decode cX5_litMinutes 9 = .ok (.iadd, 1) := by decide +kernel
theorem dX5_litMinutes_10 : decode cX5_litMinutes 10 = .ok (.iaload, 1) := by decide +kernel
theorem dX5_litMinutes_11 : decode cX5_litMinutes 11 = .ok (.istore_n 3, 1) := by decide +kernel
theorem dX5_litMinutes_12 : decode cX5_litMinutes 12 = .ok (.iload_n 3, 1) := by decide +kernel
theorem dX5_litMinutes_13 : decode cX5_litMinutes 13 = .ok (.iconst (-1), 1) := by decide +kernel
theorem dX5_litMinutes_14 : decode cX5_litMinutes 14 = .ok (.if_icmp .eq 5, 3) := by decide +kernel
theorem dX5_litMinutes_17 : decode cX5_litMinutes 17 = .ok (.iload_n 3, 1) := by decide +kernel
theorem dX5_litMinutes_18 : decode cX5_litMinutes 18 = .ok (.ireturn, 1) := by decide +kernel
theorem dX5_litMinutes_19 : decode cX5_litMinutes 19 = .ok (.iconst 0, 1) := by decide +kernel
theorem dX5_litMinutes_20 : decode cX5_litMinutes 20 = .ok (.istore 4, 2) := by decide +kernel
theorem dX5_litMinutes_22 : decode cX5_litMinutes 22 = .ok (.iconst 0, 1) := by decide +kernel
theorem dX5_litMinutes_23 : decode cX5_litMinutes 23 = .ok (.istore 5, 2) := by decide +kernel
theorem dX5_litMinutes_25 : decode cX5_litMinutes 25 = .ok (.iload 5, 2) := by decide +kernel
theorem dX5_litMinutes_27 : decode cX5_litMinutes 27 = .ok (.aload_n 0, 1) := by decide +kernel
theorem dX5_litMinutes_28 : decode cX5_litMinutes 28 = .ok (.getfield 10, 3) := by decide +kernel
theorem dX5_litMinutes_31 : decode cX5_litMinutes 31 = .ok (.getfield 160, 3) := by decide +kernel
theorem dX5_litMinutes_34 : decode cX5_litMinutes 34 = .ok (.iload_n 2, 1) := by decide +kernel
theorem dX5_litMinutes_35 : decode cX5_litMinutes 35 = .ok (.iaload, 1) := by decide +kernel
theorem dX5_litMinutes_36 : decode cX5_litMinutes 36 = .ok (.if_icmp .ge 37, 3) := by decide +kernel
theorem dX5_litMinutes_39 : decode cX5_litMinutes 39 = .ok (.aload_n 0, 1) := by decide +kernel
theorem dX5_litMinutes_40 : decode cX5_litMinutes 40 = .ok (.iload_n 1, 1) := by decide +kernel
theorem dX5_litMinutes_41 : decode cX5_litMinutes 41 = .ok (.aload_n 0, 1) := by decide +kernel
theorem dX5_litMinutes_42 : decode cX5_litMinutes 42 = .ok (.iload_n 1, 1) := by decide +kernel
theorem dX5_litMinutes_43 : decode cX5_litMinutes 43 = .ok (.iload_n 2, 1) := by decide +kernel
theorem dX5_litMinutes_44 : decode cX5_litMinutes 44 = .ok (.iload 5, 2) := by decide +kernel
theorem dX5_litMinutes_46 : decode cX5_litMinutes 46 = .ok (.bipush (-9), 2) := by decide +kernel
theorem dX5_litMinutes_48 : decode cX5_litMinutes 48 = .ok (.iconst 0, 1) := by decide +kernel
theorem dX5_litMinutes_49 : decode cX5_litMinutes 49 = .ok (.invokevirtual 131, 3) := by decide +kernel
theorem dX5_litMinutes_52 : decode cX5_litMinutes 52 = .ok (.invokevirtual 232, 3) := by decide +kernel
theorem dX5_litMinutes_55 : decode cX5_litMinutes 55 = .ok (.ifCond .eq 12, 3) := by decide +kernel
theorem dX5_litMinutes_58 : decode cX5_litMinutes 58 = .ok (.iload 4, 2) := by decide +kernel
theorem dX5_litMinutes_60 : decode cX5_litMinutes 60 = .ok (.iconst 1, 1) := by decide +kernel
theorem dX5_litMinutes_61 : decode cX5_litMinutes 61 = .ok (.iload 5, 2) := by decide +kernel
theorem dX5_litMinutes_63 : decode cX5_litMinutes 63 = .ok (.ishl, 1) := by decide +kernel
theorem dX5_litMinutes_64 : decode cX5_litMinutes 64 = .ok (.ior, 1) := by decide +kernel
theorem dX5_litMinutes_65 : decode cX5_litMinutes 65 = .ok (.istore 4, 2) := by decide +kernel
theorem dX5_litMinutes_67 : decode cX5_litMinutes 67 = .ok (.iinc 5 1, 3) := by decide +kernel
theorem dX5_litMinutes_70 : decode cX5_litMinutes 70 = .ok (.goto (-45), 3) := by decide +kernel
theorem dX5_litMinutes_73 : decode cX5_litMinutes 73 = .ok (.aload_n 0, 1) := by decide +kernel
theorem dX5_litMinutes_74 : decode cX5_litMinutes 74 = .ok (.getfield 51, 3) := by decide +kernel
theorem dX5_litMinutes_77 : decode cX5_litMinutes 77 = .ok (.iload_n 1, 1) := by decide +kernel
theorem dX5_litMinutes_78 : decode cX5_litMinutes 78 = .ok (.bipush 8, 2) := by decide +kernel
theorem dX5_litMinutes_80 : decode cX5_litMinutes 80 = .ok (.imul, 1) := by decide +kernel
theorem dX5_litMinutes_81 : decode cX5_litMinutes 81 = .ok (.iload_n 2, 1) := by decide +kernel
theorem dX5_litMinutes_82 : decode cX5_litMinutes 82 = .ok (.iadd, 1) := by decide +kernel
theorem dX5_litMinutes_83 : decode cX5_litMinutes 83 = .ok (.iload 4, 2) := by decide +kernel
theorem dX5_litMinutes_85 : decode cX5_litMinutes 85 = .ok (.iastore, 1) := by decide +kernel
theorem dX5_litMinutes_86 : decode cX5_litMinutes 86 = .ok (.iload 4, 2) := by decide +kernel
theorem dX5_litMinutes_88 : decode cX5_litMinutes 88 = .ok (.ireturn, 1) := by decide +kernel
theorem dX5_hoursWith_0 : decode cX5_hoursWith 0 = .ok (.iconst 0, 1) := by decide +kernel
theorem dX5_hoursWith_1 : decode cX5_hoursWith 1 = .ok (.istore 6, 2) := by decide +kernel
theorem dX5_hoursWith_3 : decode cX5_hoursWith 3 = .ok (.iconst 0, 1) := by decide +kernel
theorem dX5_hoursWith_4 : decode cX5_hoursWith 4 = .ok (.istore 7, 2) := by decide +kernel
theorem dX5_hoursWith_6 : decode cX5_hoursWith 6 = .ok (.iload 7, 2) := by decide +kernel
theorem dX5_hoursWith_8 : decode cX5_hoursWith 8 = .ok (.aload_n 0, 1) := by decide +kernel
theorem dX5_hoursWith_9 : decode cX5_hoursWith 9 = .ok (.getfield 10, 3) := by decide +kernel
theorem dX5_hoursWith_12 : decode cX5_hoursWith 12 = .ok (.getfield 160, 3) := by decide +kernel
theorem dX5_hoursWith_15 : decode cX5_hoursWith 15 = .ok (.iload_n 2, 1) := by decide +kernel
theorem dX5_hoursWith_16 : decode cX5_hoursWith 16 = .ok (.iaload, 1) := by decide +kernel
theorem dX5_hoursWith_17 : decode cX5_hoursWith 17 = .ok (.if_icmp .ge 54, 3) := by decide +kernel
theorem dX5_hoursWith_20 : decode cX5_hoursWith 20 = .ok (.iload_n 3, 1) := by decide +kernel
theorem dX5_hoursWith_21 : decode cX5_hoursWith 21 = .ok (.iload 7, 2) := by decide +kernel
theorem dX5_hoursWith_23 : decode cX5_hoursWith 23 = .ok (.ishr, 1) := by decide +kernel
theorem dX5_hoursWith_24 : decode cX5_hoursWith 24 = .ok (.iconst 1, 1) := by decide +kernel
theorem dX5_hoursWith_25 : decode cX5_hoursWith 25 = .ok (.iand, 1) := by decide +kernel
theorem dX5_hoursWith_26 : decode cX5_hoursWith 26 = .ok (.iconst 1, 1) := by decide +kernel
theorem dX5_hoursWith_27 : decode cX5_hoursWith 27 = .ok (.if_icmp .ne 7, 3) := by decide +kernel
theorem dX5_hoursWith_30 : decode cX5_hoursWith 30 = .ok (.iconst 1, 1) := by decide +kernel
theorem dX5_hoursWith_31 : decode cX5_hoursWith 31 = .ok (.goto 4, 3) := by decide +kernel
theorem dX5_hoursWith_34 : decode cX5_hoursWith 34 = .ok (.iconst 0, 1) := by decide +kernel
theorem dX5_hoursWith_35 : decode cX5_hoursWith 35 = .ok (.istore 8, 2) := by decide +kernel
theorem dX5_hoursWith_37 : decode cX5_hoursWith 37 = .ok (.iload 8, 2) := by decide +kernel
theorem dX5_hoursWith_39 : decode cX5_hoursWith 39 = .ok (.ifCond .eq 26, 3) := by decide +kernel
theorem dX5_hoursWith_42 : decode cX5_hoursWith 42 = .ok (.aload_n 0, 1) := by decide +kernel
theorem dX5_hoursWith_43 : decode cX5_hoursWith 43 = .ok (.iload_n 1, 1) := by decide +kernel
theorem dX5_hoursWith_44 : decode cX5_hoursWith 44 = .ok (.aload_n 0, 1) := by decide +kernel
theorem dX5_hoursWith_45 : decode cX5_hoursWith 45 = .ok (.iload_n 1, 1) := by decide +kernel
theorem dX5_hoursWith_46 : decode cX5_hoursWith 46 = .ok (.iload_n 2, 1) := by decide +kernel
theorem dX5_hoursWith_47 : decode cX5_hoursWith 47 = .ok (.iload 7, 2) := by decide +kernel
theorem dX5_hoursWith_49 : decode cX5_hoursWith 49 = .ok (.iload 4, 2) := by decide +kernel
theorem dX5_hoursWith_51 : decode cX5_hoursWith 51 = .ok (.iload 5, 2) := by decide +kernel
theorem dX5_hoursWith_53 : decode cX5_hoursWith 53 = .ok (.invokevirtual 131, 3) := by decide +kernel
theorem dX5_hoursWith_56 : decode cX5_hoursWith 56 = .ok (.invokevirtual 232, 3) := by decide +kernel
theorem dX5_hoursWith_59 : decode cX5_hoursWith 59 = .ok (.ifCond .eq 6, 3) := by decide +kernel
theorem dX5_hoursWith_62 : decode cX5_hoursWith 62 = .ok (.iinc 6 1, 3) := by decide +kernel
theorem dX5_hoursWith_65 : decode cX5_hoursWith 65 = .ok (.iinc 7 1, 3) := by decide +kernel
theorem dX5_hoursWith_68 : decode cX5_hoursWith 68 = .ok (.goto (-62), 3) := by decide +kernel
theorem dX5_hoursWith_71 : decode cX5_hoursWith 71 = .ok (.iload 6, 2) := by decide +kernel
theorem dX5_hoursWith_73 : decode cX5_hoursWith 73 = .ok (.ireturn, 1) := by decide +kernel
theorem dX5_firstFall_0 : decode cX5_firstFall 0 = .ok (.iconst 0, 1) := by decide +kernel
theorem dX5_firstFall_1 : decode cX5_firstFall 1 = .ok (.istore_n 2, 1) := by decide +kernel
theorem dX5_firstFall_2 : decode cX5_firstFall 2 = .ok (.iload_n 2, 1) := by decide +kernel
theorem dX5_firstFall_3 : decode cX5_firstFall 3 = .ok (.bipush 8, 2) := by decide +kernel
theorem dX5_firstFall_5 : decode cX5_firstFall 5 = .ok (.if_icmp .ge 35, 3) := by decide +kernel
theorem dX5_firstFall_8 : decode cX5_firstFall 8 = .ok (.aload_n 0, 1) := by decide +kernel
theorem dX5_firstFall_9 : decode cX5_firstFall 9 = .ok (.getfield 44, 3) := by decide +kernel
theorem dX5_firstFall_12 : decode cX5_firstFall 12 = .ok (.iload_n 2, 1) := by decide +kernel
theorem dX5_firstFall_13 : decode cX5_firstFall 13 = .ok (.iaload, 1) := by decide +kernel
theorem dX5_firstFall_14 : decode cX5_firstFall 14 = .ok (.istore_n 3, 1) := by decide +kernel
theorem dX5_firstFall_15 : decode cX5_firstFall 15 = .ok (.iload_n 3, 1) := by decide +kernel
theorem dX5_firstFall_16 : decode cX5_firstFall 16 = .ok (.ifCond .le 18, 3) := by decide +kernel
theorem dX5_firstFall_19 : decode cX5_firstFall 19 = .ok (.aload_n 0, 1) := by decide +kernel
theorem dX5_firstFall_20 : decode cX5_firstFall 20 = .ok (.iload_n 1, 1) := by decide +kernel
theorem dX5_firstFall_21 : decode cX5_firstFall 21 = .ok (.iload_n 2, 1) := by decide +kernel
theorem dX5_firstFall_22 : decode cX5_firstFall 22 = .ok (.invokevirtual 166, 3) := by decide +kernel
theorem dX5_firstFall_25 : decode cX5_firstFall 25 = .ok (.invokestatic 170, 3) := by decide +kernel
theorem dX5_firstFall_28 : decode cX5_firstFall 28 = .ok (.iload_n 3, 1) := by decide +kernel
theorem dX5_firstFall_29 : decode cX5_firstFall 29 = .ok (.if_icmp .ge 5, 3) := by decide +kernel
theorem dX5_firstFall_32 : decode cX5_firstFall 32 = .ok (.iload_n 2, 1) := by decide +kernel
theorem dX5_firstFall_33 : decode cX5_firstFall 33 = .ok (.ireturn, 1) := by decide +kernel
theorem dX5_firstFall_34 : decode cX5_firstFall 34 = .ok (.iinc 2 1, 3) := by decide +kernel
theorem dX5_firstFall_37 : decode cX5_firstFall 37 = .ok (.goto (-35), 3) := by decide +kernel
theorem dX5_firstFall_40 : decode cX5_firstFall 40 = .ok (.bipush (-9), 2) := by decide +kernel
theorem dX5_firstFall_42 : decode cX5_firstFall 42 = .ok (.ireturn, 1) := by decide +kernel
theorem dX5_firstFallWith_0 : decode cX5_firstFallWith 0 = .ok (.iconst 0, 1) := by decide +kernel
theorem dX5_firstFallWith_1 : decode cX5_firstFallWith 1 = .ok (.istore 4, 2) := by decide +kernel
theorem dX5_firstFallWith_3 : decode cX5_firstFallWith 3 = .ok (.iload 4, 2) := by decide +kernel
theorem dX5_firstFallWith_5 : decode cX5_firstFallWith 5 = .ok (.bipush 8, 2) := by decide +kernel
theorem dX5_firstFallWith_7 : decode cX5_firstFallWith 7 = .ok (.if_icmp .ge 51, 3) := by decide +kernel
theorem dX5_firstFallWith_10 : decode cX5_firstFallWith 10 = .ok (.aload_n 0, 1) := by decide +kernel
theorem dX5_firstFallWith_11 : decode cX5_firstFallWith 11 = .ok (.getfield 44, 3) := by decide +kernel
theorem dX5_firstFallWith_14 : decode cX5_firstFallWith 14 = .ok (.iload 4, 2) := by decide +kernel
theorem dX5_firstFallWith_16 : decode cX5_firstFallWith 16 = .ok (.iaload, 1) := by decide +kernel
theorem dX5_firstFallWith_17 : decode cX5_firstFallWith 17 = .ok (.istore 5, 2) := by decide +kernel
theorem dX5_firstFallWith_19 : decode cX5_firstFallWith 19 = .ok (.iload 5, 2) := by decide +kernel
theorem dX5_firstFallWith_21 : decode cX5_firstFallWith 21 = .ok (.ifCond .le 31, 3) := by decide +kernel
theorem dX5_firstFallWith_24 : decode cX5_firstFallWith 24 = .ok (.aload_n 0, 1) := by decide +kernel
theorem dX5_firstFallWith_25 : decode cX5_firstFallWith 25 = .ok (.iload_n 1, 1) := by decide +kernel
theorem dX5_firstFallWith_26 : decode cX5_firstFallWith 26 = .ok (.iload 4, 2) := by decide +kernel
theorem dX5_firstFallWith_28 : decode cX5_firstFallWith 28 = .ok (.invokevirtual 166, 3) := by decide +kernel
theorem dX5_firstFallWith_31 : decode cX5_firstFallWith 31 = .ok (.istore 6, 2) := by decide +kernel
theorem dX5_firstFallWith_33 : decode cX5_firstFallWith 33 = .ok (.aload_n 0, 1) := by decide +kernel
theorem dX5_firstFallWith_34 : decode cX5_firstFallWith 34 = .ok (.iload_n 1, 1) := by decide +kernel
theorem dX5_firstFallWith_35 : decode cX5_firstFallWith 35 = .ok (.iload 4, 2) := by decide +kernel
theorem dX5_firstFallWith_37 : decode cX5_firstFallWith 37 = .ok (.iload 6, 2) := by decide +kernel
theorem dX5_firstFallWith_39 : decode cX5_firstFallWith 39 = .ok (.iload_n 2, 1) := by decide +kernel
theorem dX5_firstFallWith_40 : decode cX5_firstFallWith 40 = .ok (.iload_n 3, 1) := by decide +kernel
theorem dX5_firstFallWith_41 : decode cX5_firstFallWith 41 = .ok (.invokevirtual 175, 3) := by decide +kernel
theorem dX5_firstFallWith_44 : decode cX5_firstFallWith 44 = .ok (.iload 5, 2) := by decide +kernel
theorem dX5_firstFallWith_46 : decode cX5_firstFallWith 46 = .ok (.if_icmp .ge 6, 3) := by decide +kernel
theorem dX5_firstFallWith_49 : decode cX5_firstFallWith 49 = .ok (.iload 4, 2) := by decide +kernel
theorem dX5_firstFallWith_51 : decode cX5_firstFallWith 51 = .ok (.ireturn, 1) := by decide +kernel
theorem dX5_firstFallWith_52 : decode cX5_firstFallWith 52 = .ok (.iinc 4 1, 3) := by decide +kernel
theorem dX5_firstFallWith_55 : decode cX5_firstFallWith 55 = .ok (.goto (-52), 3) := by decide +kernel
theorem dX5_firstFallWith_58 : decode cX5_firstFallWith 58 = .ok (.bipush (-9), 2) := by decide +kernel
theorem dX5_firstFallWith_60 : decode cX5_firstFallWith 60 = .ok (.ireturn, 1) := by decide +kernel
theorem dX5_firstBreach_0 : decode cX5_firstBreach 0 = .ok (.iconst 0, 1) := by decide +kernel
theorem dX5_firstBreach_1 : decode cX5_firstBreach 1 = .ok (.istore_n 3, 1) := by decide +kernel
theorem dX5_firstBreach_2 : decode cX5_firstBreach 2 = .ok (.iload_n 3, 1) := by decide +kernel
theorem dX5_firstBreach_3 : decode cX5_firstBreach 3 = .ok (.aload_n 0, 1) := by decide +kernel
theorem dX5_firstBreach_4 : decode cX5_firstBreach 4 = .ok (.getfield 26, 3) := by decide +kernel
theorem dX5_firstBreach_7 : decode cX5_firstBreach 7 = .ok (.getfield 208, 3) := by decide +kernel
theorem dX5_firstBreach_10 : decode cX5_firstBreach 10 = .ok (.if_icmp .ge 54, 3) := by decide +kernel
theorem dX5_firstBreach_13 : decode cX5_firstBreach 13 = .ok (.aload_n 0, 1) := by decide +kernel
theorem dX5_firstBreach_14 : decode cX5_firstBreach 14 = .ok (.getfield 26, 3) := by decide +kernel
theorem dX5_firstBreach_17 : decode cX5_firstBreach 17 = .ok (.iload_n 3, 1) := by decide +kernel
theorem dX5_firstBreach_18 : decode cX5_firstBreach 18 = .ok (.invokevirtual 202, 3) := by decide +kernel
theorem dX5_firstBreach_21 : decode cX5_firstBreach 21 = .ok (.ifCond .eq 37, 3) := by decide +kernel
theorem dX5_firstBreach_24 : decode cX5_firstBreach 24 = .ok (.aload_n 0, 1) := by decide +kernel
theorem dX5_firstBreach_25 : decode cX5_firstBreach 25 = .ok (.iload_n 3, 1) := by decide +kernel
theorem dX5_firstBreach_26 : decode cX5_firstBreach 26 = .ok (.invokevirtual 199, 3) := by decide +kernel
theorem dX5_firstBreach_29 : decode cX5_firstBreach 29 = .ok (.bipush (-9), 2) := by decide +kernel
theorem dX5_firstBreach_31 : decode cX5_firstBreach 31 = .ok (.if_icmp .ne 27, 3) := by decide +kernel
theorem dX5_firstBreach_34 : decode cX5_firstBreach 34 = .ok (.aload_n 0, 1) := by decide +kernel
theorem dX5_firstBreach_35 : decode cX5_firstBreach 35 = .ok (.iload_n 3, 1) := by decide +kernel
theorem dX5_firstBreach_36 : decode cX5_firstBreach 36 = .ok (.iload_n 1, 1) := by decide +kernel
theorem dX5_firstBreach_37 : decode cX5_firstBreach 37 = .ok (.iload_n 2, 1) := by decide +kernel
theorem dX5_firstBreach_38 : decode cX5_firstBreach 38 = .ok (.invokevirtual 235, 3) := by decide +kernel
theorem dX5_firstBreach_41 : decode cX5_firstBreach 41 = .ok (.istore 4, 2) := by decide +kernel
theorem dX5_firstBreach_43 : decode cX5_firstBreach 43 = .ok (.iload 4, 2) := by decide +kernel
theorem dX5_firstBreach_45 : decode cX5_firstBreach 45 = .ok (.bipush (-9), 2) := by decide +kernel
theorem dX5_firstBreach_47 : decode cX5_firstBreach 47 = .ok (.if_icmp .eq 11, 3) := by decide +kernel
theorem dX5_firstBreach_50 : decode cX5_firstBreach 50 = .ok (.bipush 8, 2) := by decide +kernel
theorem dX5_firstBreach_52 : decode cX5_firstBreach 52 = .ok (.iload_n 3, 1) := by decide +kernel
theorem dX5_firstBreach_53 : decode cX5_firstBreach 53 = .ok (.imul, 1) := by decide +kernel
theorem dX5_firstBreach_54 : decode cX5_firstBreach 54 = .ok (.iload 4, 2) := by decide +kernel
theorem dX5_firstBreach_56 : decode cX5_firstBreach 56 = .ok (.iadd, 1) := by decide +kernel
theorem dX5_firstBreach_57 : decode cX5_firstBreach 57 = .ok (.ireturn, 1) := by decide +kernel
theorem dX5_firstBreach_58 : decode cX5_firstBreach 58 = .ok (.iinc 3 1, 3) := by decide +kernel
theorem dX5_firstBreach_61 : decode cX5_firstBreach 61 = .ok (.goto (-59), 3) := by decide +kernel
theorem dX5_firstBreach_64 : decode cX5_firstBreach 64 = .ok (.bipush (-9), 2) := by decide +kernel
theorem dX5_firstBreach_66 : decode cX5_firstBreach 66 = .ok (.ireturn, 1) := by decide +kernel
theorem dX5_lawfulWindows_0 : decode cX5_lawfulWindows 0 = .ok (.iconst 0, 1) := by decide +kernel
theorem dX5_lawfulWindows_1 : decode cX5_lawfulWindows 1 = .ok (.istore_n 1, 1) := by decide +kernel
theorem dX5_lawfulWindows_2 : decode cX5_lawfulWindows 2 = .ok (.iconst 0, 1) := by decide +kernel
theorem dX5_lawfulWindows_3 : decode cX5_lawfulWindows 3 = .ok (.istore_n 2, 1) := by decide +kernel
theorem dX5_lawfulWindows_4 : decode cX5_lawfulWindows 4 = .ok (.iload_n 2, 1) := by decide +kernel
theorem dX5_lawfulWindows_5 : decode cX5_lawfulWindows 5 = .ok (.aload_n 0, 1) := by decide +kernel
theorem dX5_lawfulWindows_6 : decode cX5_lawfulWindows 6 = .ok (.getfield 26, 3) := by decide +kernel
theorem dX5_lawfulWindows_9 : decode cX5_lawfulWindows 9 = .ok (.getfield 208, 3) := by decide +kernel
theorem dX5_lawfulWindows_12 : decode cX5_lawfulWindows 12 = .ok (.if_icmp .ge 22, 3) := by decide +kernel
theorem dX5_lawfulWindows_15 : decode cX5_lawfulWindows 15 = .ok (.aload_n 0, 1) := by decide +kernel
theorem dX5_lawfulWindows_16 : decode cX5_lawfulWindows 16 = .ok (.iload_n 2, 1) := by decide +kernel
theorem dX5_lawfulWindows_17 : decode cX5_lawfulWindows 17 = .ok (.invokevirtual 199, 3) := by decide +kernel
theorem dX5_lawfulWindows_20 : decode cX5_lawfulWindows 20 = .ok (.bipush (-9), 2) := by decide +kernel
theorem dX5_lawfulWindows_22 : decode cX5_lawfulWindows 22 = .ok (.if_icmp .ne 6, 3) := by decide +kernel
theorem dX5_lawfulWindows_25 : decode cX5_lawfulWindows 25 = .ok (.iinc 1 1, 3) := by decide +kernel
theorem dX5_lawfulWindows_28 : decode cX5_lawfulWindows 28 = .ok (.iinc 2 1, 3) := by decide +kernel
theorem dX5_lawfulWindows_31 : decode cX5_lawfulWindows 31 = .ok (.goto (-27), 3) := by decide +kernel
theorem dX5_lawfulWindows_34 : decode cX5_lawfulWindows 34 = .ok (.iload_n 1, 1) := by decide +kernel
theorem dX5_lawfulWindows_35 : decode cX5_lawfulWindows 35 = .ok (.ireturn, 1) := by decide +kernel
theorem dX5_passYear_0 : decode cX5_passYear 0 = .ok (.aload_n 0, 1) := by decide +kernel
theorem dX5_passYear_1 : decode cX5_passYear 1 = .ok (.dup, 1) := by decide +kernel
theorem dX5_passYear_2 : decode cX5_passYear 2 = .ok (.getfield 58, 3) := by decide +kernel
theorem dX5_passYear_5 : decode cX5_passYear 5 = .ok (.iconst 1, 1) := by decide +kernel
theorem dX5_passYear_6 : decode cX5_passYear 6 = .ok (.iadd, 1) := by decide +kernel
theorem dX5_passYear_7 : decode cX5_passYear 7 = .ok (.putfield 58, 3) := by decide +kernel
theorem dX5_passYear_10 : decode cX5_passYear 10 = .ok (.aload_n 0, 1) := by decide +kernel
theorem dX5_passYear_11 : decode cX5_passYear 11 = .ok (.getfield 19, 3) := by decide +kernel
theorem dX5_passYear_14 : decode cX5_passYear 14 = .ok (.invokevirtual 239, 3) := by decide +kernel
theorem dX5_passYear_17 : decode cX5_passYear 17 = .ok (.ifCond .eq 7, 3) := by decide +kernel
theorem dX5_passYear_20 : decode cX5_passYear 20 = .ok (.aload_n 0, 1) := by decide +kernel
theorem dX5_passYear_21 : decode cX5_passYear 21 = .ok (.invokevirtual 78, 3) := by decide +kernel
theorem dX5_passYear_24 : decode cX5_passYear 24 = .ok (.iconst 0, 1) := by decide +kernel
theorem dX5_passYear_25 : decode cX5_passYear 25 = .ok (.istore_n 1, 1) := by decide +kernel
theorem dX5_passYear_26 : decode cX5_passYear 26 = .ok (.iload_n 1, 1) := by decide +kernel
theorem dX5_passYear_27 : decode cX5_passYear 27 = .ok (.aload_n 0, 1) := by decide +kernel
theorem dX5_passYear_28 : decode cX5_passYear 28 = .ok (.getfield 26, 3) := by decide +kernel
theorem dX5_passYear_31 : decode cX5_passYear 31 = .ok (.getfield 208, 3) := by decide +kernel
theorem dX5_passYear_34 : decode cX5_passYear 34 = .ok (.if_icmp .ge 53, 3) := by decide +kernel
theorem dX5_passYear_37 : decode cX5_passYear 37 = .ok (.aload_n 0, 1) := by decide +kernel
theorem dX5_passYear_38 : decode cX5_passYear 38 = .ok (.iload_n 1, 1) := by decide +kernel
theorem dX5_passYear_39 : decode cX5_passYear 39 = .ok (.invokevirtual 199, 3) := by decide +kernel
theorem dX5_passYear_42 : decode cX5_passYear 42 = .ok (.bipush (-9), 2) := by decide +kernel
theorem dX5_passYear_44 : decode cX5_passYear 44 = .ok (.if_icmp .ne 7, 3) := by decide +kernel
theorem dX5_passYear_47 : decode cX5_passYear 47 = .ok (.iconst 1, 1) := by decide +kernel
theorem dX5_passYear_48 : decode cX5_passYear 48 = .ok (.goto 4, 3) := by decide +kernel
theorem dX5_passYear_51 : decode cX5_passYear 51 = .ok (.iconst 0, 1) := by decide +kernel
theorem dX5_passYear_52 : decode cX5_passYear 52 = .ok (.istore_n 2, 1) := by decide +kernel
theorem dX5_passYear_53 : decode cX5_passYear 53 = .ok (.aload_n 0, 1) := by decide +kernel
theorem dX5_passYear_54 : decode cX5_passYear 54 = .ok (.getfield 26, 3) := by decide +kernel
theorem dX5_passYear_57 : decode cX5_passYear 57 = .ok (.getfield 196, 3) := by decide +kernel
theorem dX5_passYear_60 : decode cX5_passYear 60 = .ok (.iload_n 1, 1) := by decide +kernel
theorem dX5_passYear_61 : decode cX5_passYear 61 = .ok (.iload_n 2, 1) := by decide +kernel
theorem dX5_passYear_62 : decode cX5_passYear 62 = .ok (.ifCond .eq 17, 3) := by decide +kernel
theorem dX5_passYear_65 : decode cX5_passYear 65 = .ok (.aload_n 0, 1) := by decide +kernel
theorem dX5_passYear_66 : decode cX5_passYear 66 = .ok (.getfield 26, 3) := by decide +kernel
theorem dX5_passYear_69 : decode cX5_passYear 69 = .ok (.getfield 196, 3) := by decide +kernel
theorem dX5_passYear_72 : decode cX5_passYear 72 = .ok (.iload_n 1, 1) := by decide +kernel
theorem dX5_passYear_73 : decode cX5_passYear 73 = .ok (.iaload, 1) := by decide +kernel
theorem dX5_passYear_74 : decode cX5_passYear 74 = .ok (.iconst 1, 1) := by decide +kernel
theorem dX5_passYear_75 : decode cX5_passYear 75 = .ok (.iadd, 1) := by decide +kernel
theorem dX5_passYear_76 : decode cX5_passYear 76 = .ok (.goto 4, 3) := by decide +kernel
theorem dX5_passYear_79 : decode cX5_passYear 79 = .ok (.iconst 0, 1) := by decide +kernel
theorem dX5_passYear_80 : decode cX5_passYear 80 = .ok (.iastore, 1) := by decide +kernel
theorem dX5_passYear_81 : decode cX5_passYear 81 = .ok (.iinc 1 1, 3) := by decide +kernel
theorem dX5_passYear_84 : decode cX5_passYear 84 = .ok (.goto (-58), 3) := by decide +kernel
theorem dX5_passYear_87 : decode cX5_passYear 87 = .ok (.return_, 1) := by decide +kernel
end
section
theorem dX6_init_0 : decode cX6_init 0 = .ok (.aload_n 0, 1) := by decide +kernel
theorem dX6_init_1 : decode cX6_init 1 = .ok (.invokespecial 1, 3) := by decide +kernel
theorem dX6_init_4 : decode cX6_init 4 = .ok (.aload_n 0, 1) := by decide +kernel
theorem dX6_init_5 : decode cX6_init 5 = .ok (.bipush 8, 2) := by decide +kernel
theorem dX6_init_7 : decode cX6_init 7 = .ok (.newarray .int, 2) := by decide +kernel
theorem dX6_init_9 : decode cX6_init 9 = .ok (.putfield 7, 3) := by decide +kernel
theorem dX6_init_12 : decode cX6_init 12 = .ok (.aload_n 0, 1) := by decide +kernel
theorem dX6_init_13 : decode cX6_init 13 = .ok (.sipush 192, 3) := by decide +kernel
theorem dX6_init_16 : decode cX6_init 16 = .ok (.newarray .int, 2) := by decide +kernel
theorem dX6_init_18 : decode cX6_init 18 = .ok (.putfield 13, 3) := by decide +kernel
theorem dX6_init_21 : decode cX6_init 21 = .ok (.aload_n 0, 1) := by decide +kernel
theorem dX6_init_22 : decode cX6_init 22 = .ok (.sipush 192, 3) := by decide +kernel
theorem dX6_init_25 : decode cX6_init 25 = .ok (.newarray .int, 2) := by decide +kernel
theorem dX6_init_27 : decode cX6_init 27 = .ok (.putfield 16, 3) := by decide +kernel
theorem dX6_init_30 : decode cX6_init 30 = .ok (.aload_n 0, 1) := by decide +kernel
theorem dX6_init_31 : decode cX6_init 31 = .ok (.sipush 192, 3) := by decide +kernel
theorem dX6_init_34 : decode cX6_init 34 = .ok (.newarray .int, 2) := by decide +kernel
theorem dX6_init_36 : decode cX6_init 36 = .ok (.putfield 19, 3) := by decide +kernel
theorem dX6_init_39 : decode cX6_init 39 = .ok (.aload_n 0, 1) := by decide +kernel
theorem dX6_init_40 : decode cX6_init 40 = .ok (.bipush 8, 2) := by decide +kernel
theorem dX6_init_42 : decode cX6_init 42 = .ok (.newarray .int, 2) := by decide +kernel
theorem dX6_init_44 : decode cX6_init 44 = .ok (.putfield 22, 3) := by decide +kernel
theorem dX6_init_47 : decode cX6_init 47 = .ok (.aload_n 0, 1) := by decide +kernel
theorem dX6_init_48 : decode cX6_init 48 = .ok (.iconst 4, 1) := by decide +kernel
theorem dX6_init_49 : decode cX6_init 49 = .ok (.putfield 25, 3) := by decide +kernel
theorem dX6_init_52 : decode cX6_init 52 = .ok (.aload_n 0, 1) := by decide +kernel
theorem dX6_init_53 : decode cX6_init 53 = .ok (.bipush 40, 2) := by decide +kernel
theorem dX6_init_55 : decode cX6_init 55 = .ok (.newarray .int, 2) := by decide +kernel
theorem dX6_init_57 : decode cX6_init 57 = .ok (.putfield 29, 3) := by decide +kernel
theorem dX6_init_60 : decode cX6_init 60 = .ok (.aload_n 0, 1) := by decide +kernel
theorem dX6_init_61 : decode cX6_init 61 = .ok (.bipush 40, 2) := by decide +kernel
theorem dX6_init_63 : decode cX6_init 63 = .ok (.newarray .int, 2) := by decide +kernel
theorem dX6_init_65 : decode cX6_init 65 = .ok (.putfield 32, 3) := by decide +kernel
theorem dX6_init_68 : decode cX6_init 68 = .ok (.aload_n 0, 1) := by decide +kernel
theorem dX6_init_69 : decode cX6_init 69 = .ok (.bipush 40, 2) := by decide +kernel
theorem dX6_init_71 : decode cX6_init 71 = .ok (.newarray .int, 2) := by decide +kernel
theorem dX6_init_73 : decode cX6_init 73 = .ok (.putfield 35, 3) := by decide +kernel
theorem dX6_init_76 : decode cX6_init 76 = .ok (.aload_n 0, 1) := by decide +kernel
theorem dX6_init_77 : decode cX6_init 77 = .ok (.bipush 40, 2) := by decide +kernel
theorem dX6_init_79 : decode cX6_init 79 = .ok (.newarray .int, 2) := by decide +kernel
theorem dX6_init_81 : decode cX6_init 81 = .ok (.putfield 38, 3) := by decide +kernel
theorem dX6_init_84 : decode cX6_init 84 = .ok (.aload_n 0, 1) := by decide +kernel
theorem dX6_init_85 : decode cX6_init 85 = .ok (.bipush 40, 2) := by decide +kernel
theorem dX6_init_87 : decode cX6_init 87 = .ok (.newarray .int, 2) := by decide +kernel
theorem dX6_init_89 : decode cX6_init 89 = .ok (.putfield 41, 3) := by decide +kernel
theorem dX6_init_92 : decode cX6_init 92 = .ok (.aload_n 0, 1) := by decide +kernel
theorem dX6_init_93 : decode cX6_init 93 = .ok (.bipush 40, 2) := by decide +kernel
theorem dX6_init_95 : decode cX6_init 95 = .ok (.newarray .int, 2) := by decide +kernel
theorem dX6_init_97 : decode cX6_init 97 = .ok (.putfield 44, 3) := by decide +kernel
theorem dX6_init_100 : decode cX6_init 100 = .ok (.aload_n 0, 1) := by decide +kernel
theorem dX6_init_101 : decode cX6_init 101 = .ok (.bipush 40, 2) := by decide +kernel
theorem dX6_init_103 : decode cX6_init 103 = .ok (.newarray .int, 2) := by decide +kernel
theorem dX6_init_105 : decode cX6_init 105 = .ok (.putfield 47, 3) := by decide +kernel
theorem dX6_init_108 : decode cX6_init 108 = .ok (.aload_n 0, 1) := by decide +kernel
theorem dX6_init_109 : decode cX6_init 109 = .ok (.bipush 40, 2) := by decide +kernel
theorem dX6_init_111 : decode cX6_init 111 = .ok (.newarray .int, 2) := by decide +kernel
theorem dX6_init_113 : decode cX6_init 113 = .ok (.putfield 50, 3) := by decide +kernel
theorem dX6_init_116 : decode cX6_init 116 = .ok (.aload_n 0, 1) := by decide +kernel
theorem dX6_init_117 : decode cX6_init 117 = .ok (.sipush 320, 3) := by decide +kernel
theorem dX6_init_120 : decode cX6_init 120 = .ok (.newarray .int, 2) := by decide +kernel
theorem dX6_init_122 : decode cX6_init 122 = .ok (.putfield 53, 3) := by decide +kernel
theorem dX6_init_125 : decode cX6_init 125 = .ok (.aload_n 0, 1) := by decide +kernel
theorem dX6_init_126 : decode cX6_init 126 = .ok (.bipush 40, 2) := by decide +kernel
theorem dX6_init_128 : decode cX6_init 128 = .ok (.newarray .boolean, 2) := by decide +kernel
theorem dX6_init_130 : decode cX6_init 130 = .ok (.putfield 56, 3) := by decide +kernel
theorem dX6_init_133 : decode cX6_init 133 = .ok (.aload_n 0, 1) := by decide +kernel
theorem dX6_init_134 : decode cX6_init 134 = .ok (.bipush 40, 2) := by decide +kernel
theorem dX6_init_136 : decode cX6_init 136 = .ok (.newarray .boolean, 2) := by decide +kernel
theorem dX6_init_138 : decode cX6_init 138 = .ok (.putfield 60, 3) := by decide +kernel
theorem dX6_init_141 : decode cX6_init 141 = .ok (.aload_n 0, 1) := by decide +kernel
theorem dX6_init_142 : decode cX6_init 142 = .ok (.bipush 20, 2) := by decide +kernel
theorem dX6_init_144 : decode cX6_init 144 = .ok (.newarray .int, 2) := by decide +kernel
theorem dX6_init_146 : decode cX6_init 146 = .ok (.putfield 63, 3) := by decide +kernel
theorem dX6_init_149 : decode cX6_init 149 = .ok (.aload_n 0, 1) := by decide +kernel
theorem dX6_init_150 : decode cX6_init 150 = .ok (.bipush 20, 2) := by decide +kernel
theorem dX6_init_152 : decode cX6_init 152 = .ok (.newarray .int, 2) := by decide +kernel
theorem dX6_init_154 : decode cX6_init 154 = .ok (.putfield 66, 3) := by decide +kernel
theorem dX6_init_157 : decode cX6_init 157 = .ok (.aload_n 0, 1) := by decide +kernel
theorem dX6_init_158 : decode cX6_init 158 = .ok (.bipush 20, 2) := by decide +kernel
theorem dX6_init_160 : decode cX6_init 160 = .ok (.newarray .int, 2) := by decide +kernel
theorem dX6_init_162 : decode cX6_init 162 = .ok (.putfield 69, 3) := by decide +kernel
theorem dX6_init_165 : decode cX6_init 165 = .ok (.aload_n 0, 1) := by decide +kernel
theorem dX6_init_166 : decode cX6_init 166 = .ok (.bipush 20, 2) := by decide +kernel
theorem dX6_init_168 : decode cX6_init 168 = .ok (.newarray .int, 2) := by decide +kernel
theorem dX6_init_170 : decode cX6_init 170 = .ok (.putfield 72, 3) := by decide +kernel
theorem dX6_init_173 : decode cX6_init 173 = .ok (.aload_n 0, 1) := by decide +kernel
theorem dX6_init_174 : decode cX6_init 174 = .ok (.bipush 20, 2) := by decide +kernel
theorem dX6_init_176 : decode cX6_init 176 = .ok (.newarray .int, 2) := by decide +kernel
theorem dX6_init_178 : decode cX6_init 178 = .ok (.putfield 75, 3) := by decide +kernel
theorem dX6_init_181 : decode cX6_init 181 = .ok (.aload_n 0, 1) := by decide +kernel
theorem dX6_init_182 : decode cX6_init 182 = .ok (.bipush 20, 2) := by decide +kernel
theorem dX6_init_184 : decode cX6_init 184 = .ok (.newarray .int, 2) := by decide +kernel
theorem dX6_init_186 : decode cX6_init 186 = .ok (.putfield 78, 3) := by decide +kernel
theorem dX6_init_189 : decode cX6_init 189 = .ok (.aload_n 0, 1) := by decide +kernel
theorem dX6_init_190 : decode cX6_init 190 = .ok (.bipush 20, 2) := by decide +kernel
theorem dX6_init_192 : decode cX6_init 192 = .ok (.newarray .int, 2) := by decide +kernel
theorem dX6_init_194 : decode cX6_init 194 = .ok (.putfield 81, 3) := by decide +kernel
theorem dX6_init_197 : decode cX6_init 197 = .ok (.aload_n 0, 1) := by decide +kernel
theorem dX6_init_198 : decode cX6_init 198 = .ok (.bipush 20, 2) := by decide +kernel
theorem dX6_init_200 : decode cX6_init 200 = .ok (.newarray .boolean, 2) := by decide +kernel
theorem dX6_init_202 : decode cX6_init 202 = .ok (.putfield 84, 3) := by decide +kernel
theorem dX6_init_205 : decode cX6_init 205 = .ok (.aload_n 0, 1) := by decide +kernel
theorem dX6_init_206 : decode cX6_init 206 = .ok (.bipush 7, 2) := by decide +kernel
theorem dX6_init_208 : decode cX6_init 208 = .ok (.newarray .int, 2) := by decide +kernel
theorem dX6_init_210 : decode cX6_init 210 = .ok (.putfield 87, 3) := by decide +kernel
theorem dX6_init_213 : decode cX6_init 213 = .ok (.aload_n 0, 1) := by decide +kernel
theorem dX6_init_214 : decode cX6_init 214 = .ok (.iconst (-1), 1) := by decide +kernel
theorem dX6_init_215 : decode cX6_init 215 = .ok (.putfield 90, 3) := by decide +kernel
theorem dX6_init_218 : decode cX6_init 218 = .ok (.aload_n 0, 1) := by decide +kernel
theorem dX6_init_219 : decode cX6_init 219 = .ok (.bipush 20, 2) := by decide +kernel
theorem dX6_init_221 : decode cX6_init 221 = .ok (.newarray .boolean, 2) := by decide +kernel
theorem dX6_init_223 : decode cX6_init 223 = .ok (.putfield 93, 3) := by decide +kernel
theorem dX6_init_226 : decode cX6_init 226 = .ok (.return_, 1) := by decide +kernel
theorem dX6_in_0 : decode cX6_in 0 = .ok (.iload_n 0, 1) := by decide +kernel
theorem dX6_in_1 : decode cX6_in 1 = .ok (.iload_n 1, 1) := by decide +kernel
theorem dX6_in_2 : decode cX6_in 2 = .ok (.if_icmp .lt 12, 3) := by decide +kernel
theorem dX6_in_5 : decode cX6_in 5 = .ok (.iload_n 0, 1) := by decide +kernel
theorem dX6_in_6 : decode cX6_in 6 = .ok (.iload_n 2, 1) := by decide +kernel
theorem dX6_in_7 : decode cX6_in 7 = .ok (.if_icmp .gt 7, 3) := by decide +kernel
theorem dX6_in_10 : decode cX6_in 10 = .ok (.iconst 1, 1) := by decide +kernel
theorem dX6_in_11 : decode cX6_in 11 = .ok (.goto 4, 3) := by decide +kernel
theorem dX6_in_14 : decode cX6_in 14 = .ok (.iconst 0, 1) := by decide +kernel
theorem dX6_in_15 : decode cX6_in 15 = .ok (.ireturn, 1) := by decide +kernel
theorem dX6_refuse_0 : decode cX6_refuse 0 = .ok (.aload_n 0, 1) := by decide +kernel
theorem dX6_refuse_1 : decode cX6_refuse 1 = .ok (.getfield 87, 3) := by decide +kernel
theorem dX6_refuse_4 : decode cX6_refuse 4 = .ok (.iload_n 1, 1) := by decide +kernel
theorem dX6_refuse_5 : decode cX6_refuse 5 = .ok (.ineg, 1) := by decide +kernel
theorem dX6_refuse_6 : decode cX6_refuse 6 = .ok (.dup2, 1) := by decide +kernel
theorem dX6_refuse_7 : decode cX6_refuse 7 = .ok (.iaload, 1) := by decide +kernel
theorem dX6_refuse_8 : decode cX6_refuse 8 = .ok (.iconst 1, 1) := by decide +kernel
theorem dX6_refuse_9 : decode cX6_refuse 9 = .ok (.iadd, 1) := by decide +kernel
theorem dX6_refuse_10 : decode cX6_refuse 10 = .ok (.iastore, 1) := by decide +kernel
theorem dX6_refuse_11 : decode cX6_refuse 11 = .ok (.iload_n 1, 1) := by decide +kernel
theorem dX6_refuse_12 : decode cX6_refuse 12 = .ok (.ireturn, 1) := by decide +kernel
theorem dX6_refuseBig_0 : decode cX6_refuseBig 0 = .ok (.aload_n 0, 1) := by decide +kernel
theorem dX6_refuseBig_1 : decode cX6_refuseBig 1 = .ok (.getfield 87, 3) := by decide +kernel
theorem dX6_refuseBig_4 : decode cX6_refuseBig 4 = .ok (.iload_n 1, 1) := by decide +kernel
theorem dX6_refuseBig_5 : decode cX6_refuseBig 5 = .ok (.ineg, 1) := by decide +kernel
theorem dX6_refuseBig_6 : decode cX6_refuseBig 6 = .ok (.dup2, 1) := by decide +kernel
theorem dX6_refuseBig_7 : decode cX6_refuseBig 7 = .ok (.iaload, 1) := by decide +kernel
theorem dX6_refuseBig_8 : decode cX6_refuseBig 8 = .ok (.iconst 1, 1) := by decide +kernel
theorem dX6_refuseBig_9 : decode cX6_refuseBig 9 = .ok (.iadd, 1) := by decide +kernel
theorem dX6_refuseBig_10 : decode cX6_refuseBig 10 = .ok (.iastore, 1) := by decide +kernel
theorem dX6_refuseBig_11 : decode cX6_refuseBig 11 = .ok (.ldc 96, 2) := by decide +kernel
theorem dX6_refuseBig_13 : decode cX6_refuseBig 13 = .ok (.iload_n 1, 1) := by decide +kernel
theorem dX6_refuseBig_14 : decode cX6_refuseBig 14 = .ok (.isub, 1) := by decide +kernel
theorem dX6_refuseBig_15 : decode cX6_refuseBig 15 = .ok (.ireturn, 1) := by decide +kernel
theorem dX6_isBlock_0 : decode cX6_isBlock 0 = .ok (.iload_n 1, 1) := by decide +kernel
theorem dX6_isBlock_1 : decode cX6_isBlock 1 = .ok (.iconst 0, 1) := by decide +kernel
theorem dX6_isBlock_2 : decode cX6_isBlock 2 = .ok (.aload_n 0, 1) := by decide +kernel
theorem dX6_isBlock_3 : decode cX6_isBlock 3 = .ok (.getfield 97, 3) := by decide +kernel
theorem dX6_isBlock_6 : decode cX6_isBlock 6 = .ok (.iconst 1, 1) := by decide +kernel
theorem dX6_isBlock_7 : decode cX6_isBlock 7 = .ok (.isub, 1) := by decide +kernel
theorem dX6_isBlock_8 : decode cX6_isBlock 8 = .ok (.invokestatic 100, 3) := by decide +kernel
theorem dX6_isBlock_11 : decode cX6_isBlock 11 = .ok (.ireturn, 1) := by decide +kernel
theorem dX6_isWindow_0 : decode cX6_isWindow 0 = .ok (.iload_n 1, 1) := by decide +kernel
theorem dX6_isWindow_1 : decode cX6_isWindow 1 = .ok (.iconst 0, 1) := by decide +kernel
theorem dX6_isWindow_2 : decode cX6_isWindow 2 = .ok (.aload_n 0, 1) := by decide +kernel
theorem dX6_isWindow_3 : decode cX6_isWindow 3 = .ok (.getfield 104, 3) := by decide +kernel
theorem dX6_isWindow_6 : decode cX6_isWindow 6 = .ok (.iconst 1, 1) := by decide +kernel
theorem dX6_isWindow_7 : decode cX6_isWindow 7 = .ok (.isub, 1) := by decide +kernel
theorem dX6_isWindow_8 : decode cX6_isWindow 8 = .ok (.invokestatic 100, 3) := by decide +kernel
theorem dX6_isWindow_11 : decode cX6_isWindow 11 = .ok (.ireturn, 1) := by decide +kernel
theorem dX6_isDay_0 : decode cX6_isDay 0 = .ok (.iload_n 0, 1) := by decide +kernel
theorem dX6_isDay_1 : decode cX6_isDay 1 = .ok (.iconst 0, 1) := by decide +kernel
theorem dX6_isDay_2 : decode cX6_isDay 2 = .ok (.bipush 7, 2) := by decide +kernel
theorem dX6_isDay_4 : decode cX6_isDay 4 = .ok (.invokestatic 100, 3) := by decide +kernel
theorem dX6_isDay_7 : decode cX6_isDay 7 = .ok (.ireturn, 1) := by decide +kernel
theorem dX6_isMinute_0 : decode cX6_isMinute 0 = .ok (.iload_n 1, 1) := by decide +kernel
theorem dX6_isMinute_1 : decode cX6_isMinute 1 = .ok (.invokestatic 107, 3) := by decide +kernel
theorem dX6_isMinute_4 : decode cX6_isMinute 4 = .ok (.ifCond .eq 23, 3) := by decide +kernel
theorem dX6_isMinute_7 : decode cX6_isMinute 7 = .ok (.iload_n 2, 1) := by decide +kernel
theorem dX6_isMinute_8 : decode cX6_isMinute 8 = .ok (.iconst 0, 1) := by decide +kernel
theorem dX6_isMinute_9 : decode cX6_isMinute 9 = .ok (.aload_n 0, 1) := by decide +kernel
theorem dX6_isMinute_10 : decode cX6_isMinute 10 = .ok (.getfield 7, 3) := by decide +kernel
theorem dX6_isMinute_13 : decode cX6_isMinute 13 = .ok (.iload_n 1, 1) := by decide +kernel
theorem dX6_isMinute_14 : decode cX6_isMinute 14 = .ok (.iaload, 1) := by decide +kernel
theorem dX6_isMinute_15 : decode cX6_isMinute 15 = .ok (.iconst 1, 1) := by decide +kernel
theorem dX6_isMinute_16 : decode cX6_isMinute 16 = .ok (.isub, 1) := by decide +kernel
theorem dX6_isMinute_17 : decode cX6_isMinute 17 = .ok (.invokestatic 100, 3) := by decide +kernel
theorem dX6_isMinute_20 : decode cX6_isMinute 20 = .ok (.ifCond .eq 7, 3) := by decide +kernel
theorem dX6_isMinute_23 : decode cX6_isMinute 23 = .ok (.iconst 1, 1) := by decide +kernel
theorem dX6_isMinute_24 : decode cX6_isMinute 24 = .ok (.goto 4, 3) := by decide +kernel
theorem dX6_isMinute_27 : decode cX6_isMinute 27 = .ok (.iconst 0, 1) := by decide +kernel
theorem dX6_isMinute_28 : decode cX6_isMinute 28 = .ok (.ireturn, 1) := by decide +kernel
theorem dX6_cellsOf_0 : decode cX6_cellsOf 0 = .ok (.aload_n 0, 1) := by decide +kernel
theorem dX6_cellsOf_1 : decode cX6_cellsOf 1 = .ok (.getfield 72, 3) := by decide +kernel
theorem dX6_cellsOf_4 : decode cX6_cellsOf 4 = .ok (.iload_n 1, 1) := by decide +kernel
theorem dX6_cellsOf_5 : decode cX6_cellsOf 5 = .ok (.iaload, 1) := by decide +kernel
theorem dX6_cellsOf_6 : decode cX6_cellsOf 6 = .ok (.aload_n 0, 1) := by decide +kernel
theorem dX6_cellsOf_7 : decode cX6_cellsOf 7 = .ok (.getfield 69, 3) := by decide +kernel
theorem dX6_cellsOf_10 : decode cX6_cellsOf 10 = .ok (.iload_n 1, 1) := by decide +kernel
theorem dX6_cellsOf_11 : decode cX6_cellsOf 11 = .ok (.iaload, 1) := by decide +kernel
theorem dX6_cellsOf_12 : decode cX6_cellsOf 12 = .ok (.isub, 1) := by decide +kernel
theorem dX6_cellsOf_13 : decode cX6_cellsOf 13 = .ok (.aload_n 0, 1) := by decide +kernel
theorem dX6_cellsOf_14 : decode cX6_cellsOf 14 = .ok (.getfield 78, 3) := by decide +kernel
theorem dX6_cellsOf_17 : decode cX6_cellsOf 17 = .ok (.iload_n 1, 1) := by decide +kernel
theorem dX6_cellsOf_18 : decode cX6_cellsOf 18 = .ok (.iaload, 1) := by decide +kernel
theorem dX6_cellsOf_19 : decode cX6_cellsOf 19 = .ok (.aload_n 0, 1) := by decide +kernel
theorem dX6_cellsOf_20 : decode cX6_cellsOf 20 = .ok (.getfield 75, 3) := by decide +kernel
theorem dX6_cellsOf_23 : decode cX6_cellsOf 23 = .ok (.iload_n 1, 1) := by decide +kernel
theorem dX6_cellsOf_24 : decode cX6_cellsOf 24 = .ok (.iaload, 1) := by decide +kernel
theorem dX6_cellsOf_25 : decode cX6_cellsOf 25 = .ok (.isub, 1) := by decide +kernel
theorem dX6_cellsOf_26 : decode cX6_cellsOf 26 = .ok (.imul, 1) := by decide +kernel
theorem dX6_cellsOf_27 : decode cX6_cellsOf 27 = .ok (.ireturn, 1) := by decide +kernel
theorem dX6_minute_0 : decode cX6_minute 0 = .ok (.iload_n 1, 1) := by decide +kernel
theorem dX6_minute_1 : decode cX6_minute 1 = .ok (.invokestatic 107, 3) := by decide +kernel
theorem dX6_minute_4 : decode cX6_minute 4 = .ok (.ifCond .ne 9, 3) := by decide +kernel
theorem dX6_minute_7 : decode cX6_minute 7 = .ok (.aload_n 0, 1) := by decide +kernel
theorem dX6_minute_8 : decode cX6_minute 8 = .ok (.iconst (-1), 1) := by decide +kernel
theorem dX6_minute_9 : decode cX6_minute 9 = .ok (.invokevirtual 111, 3) := by decide +kernel
theorem dX6_minute_12 : decode cX6_minute 12 = .ok (.ireturn, 1) := by decide +kernel
theorem dX6_minute_13 : decode cX6_minute 13 = .ok (.iload_n 2, 1) := by decide +kernel
theorem dX6_minute_14 : decode cX6_minute 14 = .ok (.bipush (-50), 2) := by decide +kernel
theorem dX6_minute_16 : decode cX6_minute 16 = .ok (.if_icmp .lt 15, 3) := by decide +kernel
theorem dX6_minute_19 : decode cX6_minute 19 = .ok (.iload_n 3, 1) := by decide +kernel
theorem dX6_minute_20 : decode cX6_minute 20 = .ok (.bipush (-50), 2) := by decide +kernel
theorem dX6_minute_22 : decode cX6_minute 22 = .ok (.if_icmp .lt 9, 3) := by decide +kernel
theorem dX6_minute_25 : decode cX6_minute 25 = .ok (.iload 4, 2) := by decide +kernel
theorem dX6_minute_27 : decode cX6_minute 27 = .ok (.iconst 1, 1) := by decide +kernel
theorem dX6_minute_28 : decode cX6_minute 28 = .ok (.if_icmp .ge 10, 3) := by decide +kernel
theorem dX6_minute_31 : decode cX6_minute 31 = .ok (.aload_n 0, 1) := by decide +kernel
theorem dX6_minute_32 : decode cX6_minute 32 = .ok (.bipush (-4), 2) := by decide +kernel
theorem dX6_minute_34 : decode cX6_minute 34 = .ok (.invokevirtual 111, 3) := by decide +kernel
theorem dX6_minute_37 : decode cX6_minute 37 = .ok (.ireturn, 1) := by decide +kernel
theorem dX6_minute_38 : decode cX6_minute 38 = .ok (.iload_n 2, 1) := by decide +kernel
theorem dX6_minute_39 : decode cX6_minute 39 = .ok (.bipush 50, 2) := by decide +kernel
theorem dX6_minute_41 : decode cX6_minute 41 = .ok (.if_icmp .gt 27, 3) := by decide +kernel
theorem dX6_minute_44 : decode cX6_minute 44 = .ok (.iload_n 3, 1) := by decide +kernel
theorem dX6_minute_45 : decode cX6_minute 45 = .ok (.bipush 50, 2) := by decide +kernel
theorem dX6_minute_47 : decode cX6_minute 47 = .ok (.if_icmp .gt 21, 3) := by decide +kernel
theorem dX6_minute_50 : decode cX6_minute 50 = .ok (.iload 4, 2) := by decide +kernel
theorem dX6_minute_52 : decode cX6_minute 52 = .ok (.bipush 50, 2) := by decide +kernel
theorem dX6_minute_54 : decode cX6_minute 54 = .ok (.if_icmp .gt 14, 3) := by decide +kernel
theorem dX6_minute_57 : decode cX6_minute 57 = .ok (.aload_n 0, 1) := by decide +kernel
theorem dX6_minute_58 : decode cX6_minute 58 = .ok (.getfield 7, 3) := by decide +kernel
theorem dX6_minute_61 : decode cX6_minute 61 = .ok (.iload_n 1, 1) := by decide +kernel
theorem dX6_minute_62 : decode cX6_minute 62 = .ok (.iaload, 1) := by decide +kernel
theorem dX6_minute_63 : decode cX6_minute 63 = .ok (.bipush 24, 2) := by decide +kernel
theorem dX6_minute_65 : decode cX6_minute 65 = .ok (.if_icmp .ne 10, 3) := by decide +kernel
theorem dX6_minute_68 : decode cX6_minute 68 = .ok (.aload_n 0, 1) := by decide +kernel
theorem dX6_minute_69 : decode cX6_minute 69 = .ok (.bipush (-6), 2) := by decide +kernel
theorem dX6_minute_71 : decode cX6_minute 71 = .ok (.invokevirtual 111, 3) := by decide +kernel
theorem dX6_minute_74 : decode cX6_minute 74 = .ok (.ireturn, 1) := by decide +kernel
theorem dX6_minute_75 : decode cX6_minute 75 = .ok (.bipush 24, 2) := by decide +kernel
theorem dX6_minute_77 : decode cX6_minute 77 = .ok (.iload_n 1, 1) := by decide +kernel
theorem dX6_minute_78 : decode cX6_minute 78 = .ok (.imul, 1) := by decide +kernel
theorem dX6_minute_79 : decode cX6_minute 79 = .ok (.aload_n 0, 1) := by decide +kernel
theorem dX6_minute_80 : decode cX6_minute 80 = .ok (.getfield 7, 3) := by decide +kernel
theorem dX6_minute_83 : decode cX6_minute 83 = .ok (.iload_n 1, 1) := by decide +kernel
theorem dX6_minute_84 : decode cX6_minute 84 = .ok (.iaload, 1) := by decide +kernel
theorem dX6_minute_85 : decode cX6_minute 85 = .ok (.iadd, 1) := by decide +kernel
theorem dX6_minute_86 : decode cX6_minute 86 = .ok (.istore 5, 2) := by decide +kernel
theorem dX6_minute_88 : decode cX6_minute 88 = .ok (.aload_n 0, 1) := by decide +kernel
theorem dX6_minute_89 : decode cX6_minute 89 = .ok (.getfield 13, 3) := by decide +kernel
theorem dX6_minute_92 : decode cX6_minute 92 = .ok (.iload 5, 2) := by decide +kernel
theorem dX6_minute_94 : decode cX6_minute 94 = .ok (.iload_n 2, 1) := by decide +kernel
theorem dX6_minute_95 : decode cX6_minute 95 = .ok (.iastore, 1) := by decide +kernel
theorem dX6_minute_96 : decode cX6_minute 96 = .ok (.aload_n 0, 1) := by decide +kernel
theorem dX6_minute_97 : decode cX6_minute 97 = .ok (.getfield 16, 3) := by decide +kernel
theorem dX6_minute_100 : decode cX6_minute 100 = .ok (.iload 5, 2) := by decide +kernel
theorem dX6_minute_102 : decode cX6_minute 102 = .ok (.iload_n 3, 1) := by decide +kernel
theorem dX6_minute_103 : decode cX6_minute 103 = .ok (.iastore, 1) := by decide +kernel
theorem dX6_minute_104 : decode cX6_minute 104 = .ok (.aload_n 0, 1) := by decide +kernel
theorem dX6_minute_105 : decode cX6_minute 105 = .ok (.getfield 19, 3) := by decide +kernel
theorem dX6_minute_108 : decode cX6_minute 108 = .ok (.iload 5, 2) := by decide +kernel
theorem dX6_minute_110 : decode cX6_minute 110 = .ok (.iload 4, 2) := by decide +kernel
theorem dX6_minute_112 : decode cX6_minute 112 = .ok (.iastore, 1) := by decide +kernel
theorem dX6_minute_113 : decode cX6_minute 113 = .ok (.aload_n 0, 1) := by decide +kernel
theorem dX6_minute_114 : decode cX6_minute 114 = .ok (.getfield 7, 3) := by decide +kernel
theorem dX6_minute_117 : decode cX6_minute 117 = .ok (.iload_n 1, 1) := by decide +kernel
theorem dX6_minute_118 : decode cX6_minute 118 = .ok (.dup2, 1) := by decide +kernel
theorem dX6_minute_119 : decode cX6_minute 119 = .ok (.iaload, 1) := by decide +kernel
theorem dX6_minute_120 : decode cX6_minute 120 = .ok (.iconst 1, 1) := by decide +kernel
theorem dX6_minute_121 : decode cX6_minute 121 = .ok (.iadd, 1) := by decide +kernel
theorem dX6_minute_122 : decode cX6_minute 122 = .ok (.iastore, 1) := by decide +kernel
theorem dX6_minute_123 : decode cX6_minute 123 = .ok (.aload_n 0, 1) := by decide +kernel
theorem dX6_minute_124 : decode cX6_minute 124 = .ok (.getfield 7, 3) := by decide +kernel
theorem dX6_minute_127 : decode cX6_minute 127 = .ok (.iload_n 1, 1) := by decide +kernel
theorem dX6_minute_128 : decode cX6_minute 128 = .ok (.iaload, 1) := by decide +kernel
theorem dX6_minute_129 : decode cX6_minute 129 = .ok (.iconst 1, 1) := by decide +kernel
theorem dX6_minute_130 : decode cX6_minute 130 = .ok (.isub, 1) := by decide +kernel
theorem dX6_minute_131 : decode cX6_minute 131 = .ok (.ireturn, 1) := by decide +kernel
theorem dX6_block_0 : decode cX6_block 0 = .ok (.iload_n 1, 1) := by decide +kernel
theorem dX6_block_1 : decode cX6_block 1 = .ok (.iconst 0, 1) := by decide +kernel
theorem dX6_block_2 : decode cX6_block 2 = .ok (.iconst 3, 1) := by decide +kernel
theorem dX6_block_3 : decode cX6_block 3 = .ok (.invokestatic 100, 3) := by decide +kernel
theorem dX6_block_6 : decode cX6_block 6 = .ok (.ifCond .ne 10, 3) := by decide +kernel
theorem dX6_block_9 : decode cX6_block 9 = .ok (.aload_n 0, 1) := by decide +kernel
theorem dX6_block_10 : decode cX6_block 10 = .ok (.bipush (-2), 2) := by decide +kernel
theorem dX6_block_12 : decode cX6_block 12 = .ok (.invokevirtual 111, 3) := by decide +kernel
theorem dX6_block_15 : decode cX6_block 15 = .ok (.ireturn, 1) := by decide +kernel
theorem dX6_block_16 : decode cX6_block 16 = .ok (.iload_n 2, 1) := by decide +kernel
theorem dX6_block_17 : decode cX6_block 17 = .ok (.ifCond .lt 32, 3) := by decide +kernel
theorem dX6_block_20 : decode cX6_block 20 = .ok (.iload 4, 2) := by decide +kernel
theorem dX6_block_22 : decode cX6_block 22 = .ok (.ifCond .lt 27, 3) := by decide +kernel
theorem dX6_block_25 : decode cX6_block 25 = .ok (.iload 6, 2) := by decide +kernel
theorem dX6_block_27 : decode cX6_block 27 = .ok (.ifCond .lt 22, 3) := by decide +kernel
theorem dX6_block_30 : decode cX6_block 30 = .ok (.iload_n 3, 1) := by decide +kernel
theorem dX6_block_31 : decode cX6_block 31 = .ok (.iload_n 2, 1) := by decide +kernel
theorem dX6_block_32 : decode cX6_block 32 = .ok (.if_icmp .le 17, 3) := by decide +kernel
theorem dX6_block_35 : decode cX6_block 35 = .ok (.iload 5, 2) := by decide +kernel
theorem dX6_block_37 : decode cX6_block 37 = .ok (.iload 4, 2) := by decide +kernel
theorem dX6_block_39 : decode cX6_block 39 = .ok (.if_icmp .le 10, 3) := by decide +kernel
theorem dX6_block_42 : decode cX6_block 42 = .ok (.iload 7, 2) := by decide +kernel
theorem dX6_block_44 : decode cX6_block 44 = .ok (.iload 6, 2) := by decide +kernel
theorem dX6_block_46 : decode cX6_block 46 = .ok (.if_icmp .gt 10, 3) := by decide +kernel
theorem dX6_block_49 : decode cX6_block 49 = .ok (.aload_n 0, 1) := by decide +kernel
theorem dX6_block_50 : decode cX6_block 50 = .ok (.bipush (-4), 2) := by decide +kernel
theorem dX6_block_52 : decode cX6_block 52 = .ok (.invokevirtual 111, 3) := by decide +kernel
theorem dX6_block_55 : decode cX6_block 55 = .ok (.ireturn, 1) := by decide +kernel
theorem dX6_block_56 : decode cX6_block 56 = .ok (.iload_n 3, 1) := by decide +kernel
theorem dX6_block_57 : decode cX6_block 57 = .ok (.sipush 200, 3) := by decide +kernel
theorem dX6_block_60 : decode cX6_block 60 = .ok (.if_icmp .gt 28, 3) := by decide +kernel
theorem dX6_block_63 : decode cX6_block 63 = .ok (.iload 5, 2) := by decide +kernel
theorem dX6_block_65 : decode cX6_block 65 = .ok (.sipush 200, 3) := by decide +kernel
theorem dX6_block_68 : decode cX6_block 68 = .ok (.if_icmp .gt 20, 3) := by decide +kernel
theorem dX6_block_71 : decode cX6_block 71 = .ok (.iload 7, 2) := by decide +kernel
theorem dX6_block_73 : decode cX6_block 73 = .ok (.sipush 200, 3) := by decide +kernel
theorem dX6_block_76 : decode cX6_block 76 = .ok (.if_icmp .gt 12, 3) := by decide +kernel
theorem dX6_block_79 : decode cX6_block 79 = .ok (.aload_n 0, 1) := by decide +kernel
theorem dX6_block_80 : decode cX6_block 80 = .ok (.getfield 97, 3) := by decide +kernel
theorem dX6_block_83 : decode cX6_block 83 = .ok (.bipush 40, 2) := by decide +kernel
theorem dX6_block_85 : decode cX6_block 85 = .ok (.if_icmp .ne 10, 3) := by decide +kernel
theorem dX6_block_88 : decode cX6_block 88 = .ok (.aload_n 0, 1) := by decide +kernel
theorem dX6_block_89 : decode cX6_block 89 = .ok (.bipush (-6), 2) := by decide +kernel
theorem dX6_block_91 : decode cX6_block 91 = .ok (.invokevirtual 111, 3) := by decide +kernel
theorem dX6_block_94 : decode cX6_block 94 = .ok (.ireturn, 1) := by decide +kernel
theorem dX6_block_95 : decode cX6_block 95 = .ok (.aload_n 0, 1) := by decide +kernel
theorem dX6_block_96 : decode cX6_block 96 = .ok (.getfield 29, 3) := by decide +kernel
theorem dX6_block_99 : decode cX6_block 99 = .ok (.aload_n 0, 1) := by decide +kernel
theorem dX6_block_100 : decode cX6_block 100 = .ok (.getfield 97, 3) := by decide +kernel
theorem dX6_block_103 : decode cX6_block 103 = .ok (.iload_n 1, 1) := by decide +kernel
theorem dX6_block_104 : decode cX6_block 104 = .ok (.iastore, 1) := by decide +kernel
theorem dX6_block_105 : decode cX6_block 105 = .ok (.aload_n 0, 1) := by decide +kernel
theorem dX6_block_106 : decode cX6_block 106 = .ok (.getfield 32, 3) := by decide +kernel
theorem dX6_block_109 : decode cX6_block 109 = .ok (.aload_n 0, 1) := by decide +kernel
theorem dX6_block_110 : decode cX6_block 110 = .ok (.getfield 97, 3) := by decide +kernel
theorem dX6_block_113 : decode cX6_block 113 = .ok (.iload_n 2, 1) := by decide +kernel
theorem dX6_block_114 : decode cX6_block 114 = .ok (.iastore, 1) := by decide +kernel
theorem dX6_block_115 : decode cX6_block 115 = .ok (.aload_n 0, 1) := by decide +kernel
theorem dX6_block_116 : decode cX6_block 116 = .ok (.getfield 35, 3) := by decide +kernel
theorem dX6_block_119 : decode cX6_block 119 = .ok (.aload_n 0, 1) := by decide +kernel
theorem dX6_block_120 : decode cX6_block 120 = .ok (.getfield 97, 3) := by decide +kernel
theorem dX6_block_123 : decode cX6_block 123 = .ok (.iload_n 3, 1) := by decide +kernel
theorem dX6_block_124 : decode cX6_block 124 = .ok (.iastore, 1) := by decide +kernel
theorem dX6_block_125 : decode cX6_block 125 = .ok (.aload_n 0, 1) := by decide +kernel
theorem dX6_block_126 : decode cX6_block 126 = .ok (.getfield 38, 3) := by decide +kernel
theorem dX6_block_129 : decode cX6_block 129 = .ok (.aload_n 0, 1) := by decide +kernel
theorem dX6_block_130 : decode cX6_block 130 = .ok (.getfield 97, 3) := by decide +kernel
theorem dX6_block_133 : decode cX6_block 133 = .ok (.iload 4, 2) := by decide +kernel
theorem dX6_block_135 : decode cX6_block 135 = .ok (.iastore, 1) := by decide +kernel
theorem dX6_block_136 : decode cX6_block 136 = .ok (.aload_n 0, 1) := by decide +kernel
theorem dX6_block_137 : decode cX6_block 137 = .ok (.getfield 41, 3) := by decide +kernel
theorem dX6_block_140 : decode cX6_block 140 = .ok (.aload_n 0, 1) := by decide +kernel
theorem dX6_block_141 : decode cX6_block 141 = .ok (.getfield 97, 3) := by decide +kernel
theorem dX6_block_144 : decode cX6_block 144 = .ok (.iload 5, 2) := by decide +kernel
theorem dX6_block_146 : decode cX6_block 146 = .ok (.iastore, 1) := by decide +kernel
theorem dX6_block_147 : decode cX6_block 147 = .ok (.aload_n 0, 1) := by decide +kernel
theorem dX6_block_148 : decode cX6_block 148 = .ok (.getfield 44, 3) := by decide +kernel
theorem dX6_block_151 : decode cX6_block 151 = .ok (.aload_n 0, 1) := by decide +kernel
theorem dX6_block_152 : decode cX6_block 152 = .ok (.getfield 97, 3) := by decide +kernel
theorem dX6_block_155 : decode cX6_block 155 = .ok (.iload 6, 2) := by decide +kernel
theorem dX6_block_157 : decode cX6_block 157 = .ok (.iastore, 1) := by decide +kernel
theorem dX6_block_158 : decode cX6_block 158 = .ok (.aload_n 0, 1) := by decide +kernel
theorem dX6_block_159 : decode cX6_block 159 = .ok (.getfield 47, 3) := by decide +kernel
theorem dX6_block_162 : decode cX6_block 162 = .ok (.aload_n 0, 1) := by decide +kernel
theorem dX6_block_163 : decode cX6_block 163 = .ok (.getfield 97, 3) := by decide +kernel
theorem dX6_block_166 : decode cX6_block 166 = .ok (.iload 7, 2) := by decide +kernel
theorem dX6_block_168 : decode cX6_block 168 = .ok (.iastore, 1) := by decide +kernel
theorem dX6_block_169 : decode cX6_block 169 = .ok (.aload_n 0, 1) := by decide +kernel
theorem dX6_block_170 : decode cX6_block 170 = .ok (.getfield 50, 3) := by decide +kernel
theorem dX6_block_173 : decode cX6_block 173 = .ok (.aload_n 0, 1) := by decide +kernel
theorem dX6_block_174 : decode cX6_block 174 = .ok (.getfield 97, 3) := by decide +kernel
theorem dX6_block_177 : decode cX6_block 177 = .ok (.sipush 200, 3) := by decide +kernel
theorem dX6_block_180 : decode cX6_block 180 = .ok (.iastore, 1) := by decide +kernel
theorem dX6_block_181 : decode cX6_block 181 = .ok (.aload_n 0, 1) := by decide +kernel
theorem dX6_block_182 : decode cX6_block 182 = .ok (.dup, 1) := by decide +kernel
theorem dX6_block_183 : decode cX6_block 183 = .ok (.getfield 97, 3) := by decide +kernel
theorem dX6_block_186 : decode cX6_block 186 = .ok (.iconst 1, 1) := by decide +kernel
theorem dX6_block_187 : decode cX6_block 187 = .ok (.iadd, 1) := by decide +kernel
theorem dX6_block_188 : decode cX6_block 188 = .ok (.putfield 97, 3) := by decide +kernel
theorem dX6_block_191 : decode cX6_block 191 = .ok (.aload_n 0, 1) := by decide +kernel
theorem dX6_block_192 : decode cX6_block 192 = .ok (.getfield 97, 3) := by decide +kernel
theorem dX6_block_195 : decode cX6_block 195 = .ok (.iconst 1, 1) := by decide +kernel
theorem dX6_block_196 : decode cX6_block 196 = .ok (.isub, 1) := by decide +kernel
theorem dX6_block_197 : decode cX6_block 197 = .ok (.ireturn, 1) := by decide +kernel
theorem dX6_share_0 : decode cX6_share 0 = .ok (.aload_n 0, 1) := by decide +kernel
theorem dX6_share_1 : decode cX6_share 1 = .ok (.iload_n 1, 1) := by decide +kernel
theorem dX6_share_2 : decode cX6_share 2 = .ok (.invokevirtual 115, 3) := by decide +kernel
theorem dX6_share_5 : decode cX6_share 5 = .ok (.ifCond .eq 10, 3) := by decide +kernel
theorem dX6_share_8 : decode cX6_share 8 = .ok (.iload_n 2, 1) := by decide +kernel
theorem dX6_share_9 : decode cX6_share 9 = .ok (.invokestatic 107, 3) := by decide +kernel
theorem dX6_share_12 : decode cX6_share 12 = .ok (.ifCond .ne 9, 3) := by decide +kernel
theorem dX6_share_15 : decode cX6_share 15 = .ok (.aload_n 0, 1) := by decide +kernel
theorem dX6_share_16 : decode cX6_share 16 = .ok (.iconst (-1), 1) := by decide +kernel
theorem dX6_share_17 : decode cX6_share 17 = .ok (.invokevirtual 111, 3) := by decide +kernel
theorem dX6_share_20 : decode cX6_share 20 = .ok (.ireturn, 1) := by decide +kernel
theorem dX6_share_21 : decode cX6_share 21 = .ok (.aload_n 0, 1) := by decide +kernel
theorem dX6_share_22 : decode cX6_share 22 = .ok (.getfield 29, 3) := by decide +kernel
theorem dX6_share_25 : decode cX6_share 25 = .ok (.iload_n 1, 1) := by decide +kernel
theorem dX6_share_26 : decode cX6_share 26 = .ok (.iaload, 1) := by decide +kernel
theorem dX6_share_27 : decode cX6_share 27 = .ok (.iconst 1, 1) := by decide +kernel
theorem dX6_share_28 : decode cX6_share 28 = .ok (.if_icmp .eq 10, 3) := by decide +kernel
theorem dX6_share_31 : decode cX6_share 31 = .ok (.aload_n 0, 1) := by decide +kernel
theorem dX6_share_32 : decode cX6_share 32 = .ok (.bipush (-2), 2) := by decide +kernel
theorem dX6_share_34 : decode cX6_share 34 = .ok (.invokevirtual 111, 3) := by decide +kernel
theorem dX6_share_37 : decode cX6_share 37 = .ok (.ireturn, 1) := by decide +kernel
theorem dX6_share_38 : decode cX6_share 38 = .ok (.iload_n 3, 1) := by decide +kernel
theorem dX6_share_39 : decode cX6_share 39 = .ok (.ifCond .ge 10, 3) := by decide +kernel
theorem dX6_share_42 : decode cX6_share 42 = .ok (.aload_n 0, 1) := by decide +kernel
theorem dX6_share_43 : decode cX6_share 43 = .ok (.bipush (-4), 2) := by decide +kernel
theorem dX6_share_45 : decode cX6_share 45 = .ok (.invokevirtual 111, 3) := by decide +kernel
theorem dX6_share_48 : decode cX6_share 48 = .ok (.ireturn, 1) := by decide +kernel
theorem dX6_share_49 : decode cX6_share 49 = .ok (.iload_n 3, 1) := by decide +kernel
theorem dX6_share_50 : decode cX6_share 50 = .ok (.bipush 8, 2) := by decide +kernel
theorem dX6_share_52 : decode cX6_share 52 = .ok (.if_icmp .le 10, 3) := by decide +kernel
theorem dX6_share_55 : decode cX6_share 55 = .ok (.aload_n 0, 1) := by decide +kernel
theorem dX6_share_56 : decode cX6_share 56 = .ok (.bipush (-6), 2) := by decide +kernel
theorem dX6_share_58 : decode cX6_share 58 = .ok (.invokevirtual 111, 3) := by decide +kernel
theorem dX6_share_61 : decode cX6_share 61 = .ok (.ireturn, 1) := by decide +kernel
theorem dX6_share_62 : decode cX6_share 62 = .ok (.aload_n 0, 1) := by decide +kernel
theorem dX6_share_63 : decode cX6_share 63 = .ok (.getfield 53, 3) := by decide +kernel
theorem dX6_share_66 : decode cX6_share 66 = .ok (.bipush 8, 2) := by decide +kernel
theorem dX6_share_68 : decode cX6_share 68 = .ok (.iload_n 1, 1) := by decide +kernel
theorem dX6_share_69 : decode cX6_share 69 = .ok (.imul, 1) := by decide +kernel
theorem dX6_share_70 : decode cX6_share 70 = .ok (.iload_n 2, 1) := by decide +kernel
theorem dX6_share_71 : decode cX6_share 71 = .ok (.iadd, 1) := by decide +kernel
theorem dX6_share_72 : decode cX6_share 72 = .ok (.iaload, 1) := by decide +kernel
theorem dX6_share_73 : decode cX6_share 73 = .ok (.istore 4, 2) := by decide +kernel
theorem dX6_share_75 : decode cX6_share 75 = .ok (.aload_n 0, 1) := by decide +kernel
theorem dX6_share_76 : decode cX6_share 76 = .ok (.getfield 53, 3) := by decide +kernel
theorem dX6_share_79 : decode cX6_share 79 = .ok (.bipush 8, 2) := by decide +kernel
theorem dX6_share_81 : decode cX6_share 81 = .ok (.iload_n 1, 1) := by decide +kernel
theorem dX6_share_82 : decode cX6_share 82 = .ok (.imul, 1) := by decide +kernel
theorem dX6_share_83 : decode cX6_share 83 = .ok (.iload_n 2, 1) := by decide +kernel
theorem dX6_share_84 : decode cX6_share 84 = .ok (.iadd, 1) := by decide +kernel
theorem dX6_share_85 : decode cX6_share 85 = .ok (.iload_n 3, 1) := by decide +kernel
theorem dX6_share_86 : decode cX6_share 86 = .ok (.iastore, 1) := by decide +kernel
theorem dX6_share_87 : decode cX6_share 87 = .ok (.iload 4, 2) := by decide +kernel
theorem dX6_share_89 : decode cX6_share 89 = .ok (.ireturn, 1) := by decide +kernel
theorem dX6_most_0 : decode cX6_most 0 = .ok (.aload_n 0, 1) := by decide +kernel
theorem dX6_most_1 : decode cX6_most 1 = .ok (.iload_n 1, 1) := by decide +kernel
theorem dX6_most_2 : decode cX6_most 2 = .ok (.invokevirtual 115, 3) := by decide +kernel
theorem dX6_most_5 : decode cX6_most 5 = .ok (.ifCond .ne 9, 3) := by decide +kernel
theorem dX6_most_8 : decode cX6_most 8 = .ok (.aload_n 0, 1) := by decide +kernel
theorem dX6_most_9 : decode cX6_most 9 = .ok (.iconst (-1), 1) := by decide +kernel
theorem dX6_most_10 : decode cX6_most 10 = .ok (.invokevirtual 111, 3) := by decide +kernel
theorem dX6_most_13 : decode cX6_most 13 = .ok (.ireturn, 1) := by decide +kernel
theorem dX6_most_14 : decode cX6_most 14 = .ok (.aload_n 0, 1) := by decide +kernel
theorem dX6_most_15 : decode cX6_most 15 = .ok (.getfield 29, 3) := by decide +kernel
theorem dX6_most_18 : decode cX6_most 18 = .ok (.iload_n 1, 1) := by decide +kernel
theorem dX6_most_19 : decode cX6_most 19 = .ok (.iaload, 1) := by decide +kernel
theorem dX6_most_20 : decode cX6_most 20 = .ok (.iconst 1, 1) := by decide +kernel
theorem dX6_most_21 : decode cX6_most 21 = .ok (.if_icmp .eq 10, 3) := by decide +kernel
theorem dX6_most_24 : decode cX6_most 24 = .ok (.aload_n 0, 1) := by decide +kernel
theorem dX6_most_25 : decode cX6_most 25 = .ok (.bipush (-2), 2) := by decide +kernel
theorem dX6_most_27 : decode cX6_most 27 = .ok (.invokevirtual 111, 3) := by decide +kernel
theorem dX6_most_30 : decode cX6_most 30 = .ok (.ireturn, 1) := by decide +kernel
theorem dX6_most_31 : decode cX6_most 31 = .ok (.iload_n 2, 1) := by decide +kernel
theorem dX6_most_32 : decode cX6_most 32 = .ok (.aload_n 0, 1) := by decide +kernel
theorem dX6_most_33 : decode cX6_most 33 = .ok (.getfield 47, 3) := by decide +kernel
theorem dX6_most_36 : decode cX6_most 36 = .ok (.iload_n 1, 1) := by decide +kernel
theorem dX6_most_37 : decode cX6_most 37 = .ok (.iaload, 1) := by decide +kernel
theorem dX6_most_38 : decode cX6_most 38 = .ok (.if_icmp .ge 10, 3) := by decide +kernel
theorem dX6_most_41 : decode cX6_most 41 = .ok (.aload_n 0, 1) := by decide +kernel
theorem dX6_most_42 : decode cX6_most 42 = .ok (.bipush (-4), 2) := by decide +kernel
theorem dX6_most_44 : decode cX6_most 44 = .ok (.invokevirtual 111, 3) := by decide +kernel
theorem dX6_most_47 : decode cX6_most 47 = .ok (.ireturn, 1) := by decide +kernel
theorem dX6_most_48 : decode cX6_most 48 = .ok (.iload_n 2, 1) := by decide +kernel
theorem dX6_most_49 : decode cX6_most 49 = .ok (.sipush 200, 3) := by decide +kernel
theorem dX6_most_52 : decode cX6_most 52 = .ok (.if_icmp .le 10, 3) := by decide +kernel
theorem dX6_most_55 : decode cX6_most 55 = .ok (.aload_n 0, 1) := by decide +kernel
theorem dX6_most_56 : decode cX6_most 56 = .ok (.bipush (-6), 2) := by decide +kernel
theorem dX6_most_58 : decode cX6_most 58 = .ok (.invokevirtual 111, 3) := by decide +kernel
theorem dX6_most_61 : decode cX6_most 61 = .ok (.ireturn, 1) := by decide +kernel
theorem dX6_most_62 : decode cX6_most 62 = .ok (.aload_n 0, 1) := by decide +kernel
theorem dX6_most_63 : decode cX6_most 63 = .ok (.getfield 50, 3) := by decide +kernel
theorem dX6_most_66 : decode cX6_most 66 = .ok (.iload_n 1, 1) := by decide +kernel
theorem dX6_most_67 : decode cX6_most 67 = .ok (.iaload, 1) := by decide +kernel
theorem dX6_most_68 : decode cX6_most 68 = .ok (.istore_n 3, 1) := by decide +kernel
theorem dX6_most_69 : decode cX6_most 69 = .ok (.aload_n 0, 1) := by decide +kernel
theorem dX6_most_70 : decode cX6_most 70 = .ok (.getfield 50, 3) := by decide +kernel
theorem dX6_most_73 : decode cX6_most 73 = .ok (.iload_n 1, 1) := by decide +kernel
theorem dX6_most_74 : decode cX6_most 74 = .ok (.iload_n 2, 1) := by decide +kernel
theorem dX6_most_75 : decode cX6_most 75 = .ok (.iastore, 1) := by decide +kernel
theorem dX6_most_76 : decode cX6_most 76 = .ok (.iload_n 3, 1) := by decide +kernel
theorem dX6_most_77 : decode cX6_most 77 = .ok (.ireturn, 1) := by decide +kernel
theorem dX6_cut_0 : decode cX6_cut 0 = .ok (.aload_n 0, 1) := by decide +kernel
theorem dX6_cut_1 : decode cX6_cut 1 = .ok (.iload_n 1, 1) := by decide +kernel
theorem dX6_cut_2 : decode cX6_cut 2 = .ok (.invokevirtual 115, 3) := by decide +kernel
theorem dX6_cut_5 : decode cX6_cut 5 = .ok (.ifCond .ne 9, 3) := by decide +kernel
theorem dX6_cut_8 : decode cX6_cut 8 = .ok (.aload_n 0, 1) := by decide +kernel
theorem dX6_cut_9 : decode cX6_cut 9 = .ok (.iconst (-1), 1) := by decide +kernel
theorem dX6_cut_10 : decode cX6_cut 10 = .ok (.invokevirtual 111, 3) := by decide +kernel
theorem dX6_cut_13 : decode cX6_cut 13 = .ok (.ireturn, 1) := by decide +kernel
theorem dX6_cut_14 : decode cX6_cut 14 = .ok (.aload_n 0, 1) := by decide +kernel
theorem dX6_cut_15 : decode cX6_cut 15 = .ok (.getfield 29, 3) := by decide +kernel
theorem dX6_cut_18 : decode cX6_cut 18 = .ok (.iload_n 1, 1) := by decide +kernel
theorem dX6_cut_19 : decode cX6_cut 19 = .ok (.iaload, 1) := by decide +kernel
theorem dX6_cut_20 : decode cX6_cut 20 = .ok (.iconst 1, 1) := by decide +kernel
theorem dX6_cut_21 : decode cX6_cut 21 = .ok (.if_icmp .eq 10, 3) := by decide +kernel
theorem dX6_cut_24 : decode cX6_cut 24 = .ok (.aload_n 0, 1) := by decide +kernel
theorem dX6_cut_25 : decode cX6_cut 25 = .ok (.bipush (-2), 2) := by decide +kernel
theorem dX6_cut_27 : decode cX6_cut 27 = .ok (.invokevirtual 111, 3) := by decide +kernel
theorem dX6_cut_30 : decode cX6_cut 30 = .ok (.ireturn, 1) := by decide +kernel
theorem dX6_cut_31 : decode cX6_cut 31 = .ok (.aload_n 0, 1) := by decide +kernel
theorem dX6_cut_32 : decode cX6_cut 32 = .ok (.getfield 60, 3) := by decide +kernel
theorem dX6_cut_35 : decode cX6_cut 35 = .ok (.iload_n 1, 1) := by decide +kernel
theorem dX6_cut_36 : decode cX6_cut 36 = .ok (.baload, 1) := by decide +kernel
theorem dX6_cut_37 : decode cX6_cut 37 = .ok (.ifCond .eq 10, 3) := by decide +kernel
theorem dX6_cut_40 : decode cX6_cut 40 = .ok (.aload_n 0, 1) := by decide +kernel
theorem dX6_cut_41 : decode cX6_cut 41 = .ok (.bipush (-3), 2) := by decide +kernel
theorem dX6_cut_43 : decode cX6_cut 43 = .ok (.invokevirtual 111, 3) := by decide +kernel
theorem dX6_cut_46 : decode cX6_cut 46 = .ok (.ireturn, 1) := by decide +kernel
theorem dX6_cut_47 : decode cX6_cut 47 = .ok (.iload_n 2, 1) := by decide +kernel
theorem dX6_cut_48 : decode cX6_cut 48 = .ok (.aload_n 0, 1) := by decide +kernel
theorem dX6_cut_49 : decode cX6_cut 49 = .ok (.getfield 44, 3) := by decide +kernel
theorem dX6_cut_52 : decode cX6_cut 52 = .ok (.iload_n 1, 1) := by decide +kernel
theorem dX6_cut_53 : decode cX6_cut 53 = .ok (.iaload, 1) := by decide +kernel
theorem dX6_cut_54 : decode cX6_cut 54 = .ok (.if_icmp .gt 10, 3) := by decide +kernel
theorem dX6_cut_57 : decode cX6_cut 57 = .ok (.aload_n 0, 1) := by decide +kernel
theorem dX6_cut_58 : decode cX6_cut 58 = .ok (.bipush (-4), 2) := by decide +kernel
theorem dX6_cut_60 : decode cX6_cut 60 = .ok (.invokevirtual 111, 3) := by decide +kernel
theorem dX6_cut_63 : decode cX6_cut 63 = .ok (.ireturn, 1) := by decide +kernel
theorem dX6_cut_64 : decode cX6_cut 64 = .ok (.iload_n 2, 1) := by decide +kernel
theorem dX6_cut_65 : decode cX6_cut 65 = .ok (.aload_n 0, 1) := by decide +kernel
theorem dX6_cut_66 : decode cX6_cut 66 = .ok (.getfield 47, 3) := by decide +kernel
theorem dX6_cut_69 : decode cX6_cut 69 = .ok (.iload_n 1, 1) := by decide +kernel
theorem dX6_cut_70 : decode cX6_cut 70 = .ok (.iaload, 1) := by decide +kernel
theorem dX6_cut_71 : decode cX6_cut 71 = .ok (.if_icmp .le 10, 3) := by decide +kernel
theorem dX6_cut_74 : decode cX6_cut 74 = .ok (.aload_n 0, 1) := by decide +kernel
theorem dX6_cut_75 : decode cX6_cut 75 = .ok (.bipush (-6), 2) := by decide +kernel
theorem dX6_cut_77 : decode cX6_cut 77 = .ok (.invokevirtual 111, 3) := by decide +kernel
theorem dX6_cut_80 : decode cX6_cut 80 = .ok (.ireturn, 1) := by decide +kernel
theorem dX6_cut_81 : decode cX6_cut 81 = .ok (.aload_n 0, 1) := by decide +kernel
theorem dX6_cut_82 : decode cX6_cut 82 = .ok (.getfield 47, 3) := by decide +kernel
theorem dX6_cut_85 : decode cX6_cut 85 = .ok (.iload_n 1, 1) := by decide +kernel
theorem dX6_cut_86 : decode cX6_cut 86 = .ok (.iaload, 1) := by decide +kernel
theorem dX6_cut_87 : decode cX6_cut 87 = .ok (.istore_n 3, 1) := by decide +kernel
theorem dX6_cut_88 : decode cX6_cut 88 = .ok (.aload_n 0, 1) := by decide +kernel
theorem dX6_cut_89 : decode cX6_cut 89 = .ok (.getfield 47, 3) := by decide +kernel
theorem dX6_cut_92 : decode cX6_cut 92 = .ok (.iload_n 1, 1) := by decide +kernel
theorem dX6_cut_93 : decode cX6_cut 93 = .ok (.iload_n 2, 1) := by decide +kernel
theorem dX6_cut_94 : decode cX6_cut 94 = .ok (.iastore, 1) := by decide +kernel
theorem dX6_cut_95 : decode cX6_cut 95 = .ok (.iload_n 3, 1) := by decide +kernel
theorem dX6_cut_96 : decode cX6_cut 96 = .ok (.ireturn, 1) := by decide +kernel
theorem dX6_lackOfPlan_0 : decode cX6_lackOfPlan 0 = .ok (.aload_n 0, 1) := by decide +kernel
theorem dX6_lackOfPlan_1 : decode cX6_lackOfPlan 1 = .ok (.iload_n 1, 1) := by decide +kernel
theorem dX6_lackOfPlan_2 : decode cX6_lackOfPlan 2 = .ok (.invokevirtual 115, 3) := by decide +kernel
theorem dX6_lackOfPlan_5 : decode cX6_lackOfPlan 5 = .ok (.ifCond .ne 7, 3) := by decide +kernel
theorem dX6_lackOfPlan_8 : decode cX6_lackOfPlan 8 = .ok (.iconst (-1), 1) := by decide +kernel
theorem dX6_lackOfPlan_9 : decode cX6_lackOfPlan 9 = .ok (.goto 42, 3) := by decide +kernel
theorem dX6_lackOfPlan_12 : decode cX6_lackOfPlan 12 = .ok (.aload_n 0, 1) := by decide +kernel
theorem dX6_lackOfPlan_13 : decode cX6_lackOfPlan 13 = .ok (.getfield 29, 3) := by decide +kernel
theorem dX6_lackOfPlan_16 : decode cX6_lackOfPlan 16 = .ok (.iload_n 1, 1) := by decide +kernel
theorem dX6_lackOfPlan_17 : decode cX6_lackOfPlan 17 = .ok (.iaload, 1) := by decide +kernel
theorem dX6_lackOfPlan_18 : decode cX6_lackOfPlan 18 = .ok (.iconst 3, 1) := by decide +kernel
theorem dX6_lackOfPlan_19 : decode cX6_lackOfPlan 19 = .ok (.if_icmp .eq 8, 3) := by decide +kernel
theorem dX6_lackOfPlan_22 : decode cX6_lackOfPlan 22 = .ok (.bipush (-2), 2) := by decide +kernel
theorem dX6_lackOfPlan_24 : decode cX6_lackOfPlan 24 = .ok (.goto 27, 3) := by decide +kernel
theorem dX6_lackOfPlan_27 : decode cX6_lackOfPlan 27 = .ok (.aload_n 0, 1) := by decide +kernel
theorem dX6_lackOfPlan_28 : decode cX6_lackOfPlan 28 = .ok (.getfield 60, 3) := by decide +kernel
theorem dX6_lackOfPlan_31 : decode cX6_lackOfPlan 31 = .ok (.iload_n 1, 1) := by decide +kernel
theorem dX6_lackOfPlan_32 : decode cX6_lackOfPlan 32 = .ok (.baload, 1) := by decide +kernel
theorem dX6_lackOfPlan_33 : decode cX6_lackOfPlan 33 = .ok (.ifCond .ne 12, 3) := by decide +kernel
theorem dX6_lackOfPlan_36 : decode cX6_lackOfPlan 36 = .ok (.aload_n 0, 1) := by decide +kernel
theorem dX6_lackOfPlan_37 : decode cX6_lackOfPlan 37 = .ok (.getfield 56, 3) := by decide +kernel
theorem dX6_lackOfPlan_40 : decode cX6_lackOfPlan 40 = .ok (.iload_n 1, 1) := by decide +kernel
theorem dX6_lackOfPlan_41 : decode cX6_lackOfPlan 41 = .ok (.baload, 1) := by decide +kernel
theorem dX6_lackOfPlan_42 : decode cX6_lackOfPlan 42 = .ok (.ifCond .eq 8, 3) := by decide +kernel
theorem dX6_lackOfPlan_45 : decode cX6_lackOfPlan 45 = .ok (.bipush (-3), 2) := by decide +kernel
theorem dX6_lackOfPlan_47 : decode cX6_lackOfPlan 47 = .ok (.goto 4, 3) := by decide +kernel
theorem dX6_lackOfPlan_50 : decode cX6_lackOfPlan 50 = .ok (.iconst 0, 1) := by decide +kernel
theorem dX6_lackOfPlan_51 : decode cX6_lackOfPlan 51 = .ok (.ireturn, 1) := by decide +kernel
theorem dX6_build_0 : decode cX6_build 0 = .ok (.aload_n 0, 1) := by decide +kernel
theorem dX6_build_1 : decode cX6_build 1 = .ok (.iload_n 1, 1) := by decide +kernel
theorem dX6_build_2 : decode cX6_build 2 = .ok (.invokevirtual 118, 3) := by decide +kernel
theorem dX6_build_5 : decode cX6_build 5 = .ok (.istore_n 2, 1) := by decide +kernel
theorem dX6_build_6 : decode cX6_build 6 = .ok (.iload_n 2, 1) := by decide +kernel
theorem dX6_build_7 : decode cX6_build 7 = .ok (.ifCond .ge 9, 3) := by decide +kernel
theorem dX6_build_10 : decode cX6_build 10 = .ok (.aload_n 0, 1) := by decide +kernel
theorem dX6_build_11 : decode cX6_build 11 = .ok (.iload_n 2, 1) := by decide +kernel
theorem dX6_build_12 : decode cX6_build 12 = .ok (.invokevirtual 111, 3) := by decide +kernel
theorem dX6_build_15 : decode cX6_build 15 = .ok (.ireturn, 1) := by decide +kernel
theorem dX6_build_16 : decode cX6_build 16 = .ok (.aload_n 0, 1) := by decide +kernel
theorem dX6_build_17 : decode cX6_build 17 = .ok (.getfield 56, 3) := by decide +kernel
theorem dX6_build_20 : decode cX6_build 20 = .ok (.iload_n 1, 1) := by decide +kernel
theorem dX6_build_21 : decode cX6_build 21 = .ok (.iconst 1, 1) := by decide +kernel
theorem dX6_build_22 : decode cX6_build 22 = .ok (.bastore, 1) := by decide +kernel
theorem dX6_build_23 : decode cX6_build 23 = .ok (.iconst 1, 1) := by decide +kernel
theorem dX6_build_24 : decode cX6_build 24 = .ok (.ireturn, 1) := by decide +kernel
theorem dX6_go_0 : decode cX6_go 0 = .ok (.aload_n 0, 1) := by decide +kernel
theorem dX6_go_1 : decode cX6_go 1 = .ok (.iload_n 1, 1) := by decide +kernel
theorem dX6_go_2 : decode cX6_go 2 = .ok (.invokevirtual 115, 3) := by decide +kernel
theorem dX6_go_5 : decode cX6_go 5 = .ok (.ifCond .ne 9, 3) := by decide +kernel
theorem dX6_go_8 : decode cX6_go 8 = .ok (.aload_n 0, 1) := by decide +kernel
theorem dX6_go_9 : decode cX6_go 9 = .ok (.iconst (-1), 1) := by decide +kernel
theorem dX6_go_10 : decode cX6_go 10 = .ok (.invokevirtual 111, 3) := by decide +kernel
theorem dX6_go_13 : decode cX6_go 13 = .ok (.ireturn, 1) := by decide +kernel
theorem dX6_go_14 : decode cX6_go 14 = .ok (.aload_n 0, 1) := by decide +kernel
theorem dX6_go_15 : decode cX6_go 15 = .ok (.getfield 60, 3) := by decide +kernel
theorem dX6_go_18 : decode cX6_go 18 = .ok (.iload_n 1, 1) := by decide +kernel
theorem dX6_go_19 : decode cX6_go 19 = .ok (.baload, 1) := by decide +kernel
theorem dX6_go_20 : decode cX6_go 20 = .ok (.ifCond .eq 10, 3) := by decide +kernel
theorem dX6_go_23 : decode cX6_go 23 = .ok (.aload_n 0, 1) := by decide +kernel
theorem dX6_go_24 : decode cX6_go 24 = .ok (.bipush (-3), 2) := by decide +kernel
theorem dX6_go_26 : decode cX6_go 26 = .ok (.invokevirtual 111, 3) := by decide +kernel
theorem dX6_go_29 : decode cX6_go 29 = .ok (.ireturn, 1) := by decide +kernel
theorem dX6_go_30 : decode cX6_go 30 = .ok (.aload_n 0, 1) := by decide +kernel
theorem dX6_go_31 : decode cX6_go 31 = .ok (.getfield 60, 3) := by decide +kernel
theorem dX6_go_34 : decode cX6_go 34 = .ok (.iload_n 1, 1) := by decide +kernel
theorem dX6_go_35 : decode cX6_go 35 = .ok (.iconst 1, 1) := by decide +kernel
theorem dX6_go_36 : decode cX6_go 36 = .ok (.bastore, 1) := by decide +kernel
theorem dX6_go_37 : decode cX6_go 37 = .ok (.iconst 1, 1) := by decide +kernel
theorem dX6_go_38 : decode cX6_go 38 = .ok (.ireturn, 1) := by decide +kernel
theorem dX6_window_0 : decode cX6_window 0 = .ok (.iload_n 1, 1) := by decide +kernel
theorem dX6_window_1 : decode cX6_window 1 = .ok (.iconst 0, 1) := by decide +kernel
theorem dX6_window_2 : decode cX6_window 2 = .ok (.iconst 3, 1) := by decide +kernel
theorem dX6_window_3 : decode cX6_window 3 = .ok (.invokestatic 100, 3) := by decide +kernel
theorem dX6_window_6 : decode cX6_window 6 = .ok (.ifCond .ne 10, 3) := by decide +kernel
theorem dX6_window_9 : decode cX6_window 9 = .ok (.aload_n 0, 1) := by decide +kernel
theorem dX6_window_10 : decode cX6_window 10 = .ok (.bipush (-2), 2) := by decide +kernel
theorem dX6_window_12 : decode cX6_window 12 = .ok (.invokevirtual 111, 3) := by decide +kernel
theorem dX6_window_15 : decode cX6_window 15 = .ok (.ireturn, 1) := by decide +kernel
theorem dX6_window_16 : decode cX6_window 16 = .ok (.iload_n 2, 1) := by decide +kernel
theorem dX6_window_17 : decode cX6_window 17 = .ok (.ifCond .lt 25, 3) := by decide +kernel
theorem dX6_window_20 : decode cX6_window 20 = .ok (.iload_n 3, 1) := by decide +kernel
theorem dX6_window_21 : decode cX6_window 21 = .ok (.ifCond .lt 21, 3) := by decide +kernel
theorem dX6_window_24 : decode cX6_window 24 = .ok (.iload 5, 2) := by decide +kernel
theorem dX6_window_26 : decode cX6_window 26 = .ok (.ifCond .lt 16, 3) := by decide +kernel
theorem dX6_window_29 : decode cX6_window 29 = .ok (.iload 4, 2) := by decide +kernel
theorem dX6_window_31 : decode cX6_window 31 = .ok (.iload_n 3, 1) := by decide +kernel
theorem dX6_window_32 : decode cX6_window 32 = .ok (.if_icmp .le 10, 3) := by decide +kernel
theorem dX6_window_35 : decode cX6_window 35 = .ok (.iload 6, 2) := by decide +kernel
theorem dX6_window_37 : decode cX6_window 37 = .ok (.iload 5, 2) := by decide +kernel
theorem dX6_window_39 : decode cX6_window 39 = .ok (.if_icmp .gt 10, 3) := by decide +kernel
theorem dX6_window_42 : decode cX6_window 42 = .ok (.aload_n 0, 1) := by decide +kernel
theorem dX6_window_43 : decode cX6_window 43 = .ok (.bipush (-4), 2) := by decide +kernel
theorem dX6_window_45 : decode cX6_window 45 = .ok (.invokevirtual 111, 3) := by decide +kernel
theorem dX6_window_48 : decode cX6_window 48 = .ok (.ireturn, 1) := by decide +kernel
theorem dX6_window_49 : decode cX6_window 49 = .ok (.iload_n 2, 1) := by decide +kernel
theorem dX6_window_50 : decode cX6_window 50 = .ok (.sipush 200, 3) := by decide +kernel
theorem dX6_window_53 : decode cX6_window 53 = .ok (.if_icmp .gt 43, 3) := by decide +kernel
theorem dX6_window_56 : decode cX6_window 56 = .ok (.iload 4, 2) := by decide +kernel
theorem dX6_window_58 : decode cX6_window 58 = .ok (.sipush 200, 3) := by decide +kernel
theorem dX6_window_61 : decode cX6_window 61 = .ok (.if_icmp .gt 35, 3) := by decide +kernel
theorem dX6_window_64 : decode cX6_window 64 = .ok (.iload 6, 2) := by decide +kernel
theorem dX6_window_66 : decode cX6_window 66 = .ok (.sipush 200, 3) := by decide +kernel
theorem dX6_window_69 : decode cX6_window 69 = .ok (.if_icmp .gt 27, 3) := by decide +kernel
theorem dX6_window_72 : decode cX6_window 72 = .ok (.iload 4, 2) := by decide +kernel
theorem dX6_window_74 : decode cX6_window 74 = .ok (.iload_n 3, 1) := by decide +kernel
theorem dX6_window_75 : decode cX6_window 75 = .ok (.isub, 1) := by decide +kernel
theorem dX6_window_76 : decode cX6_window 76 = .ok (.iload 6, 2) := by decide +kernel
theorem dX6_window_78 : decode cX6_window 78 = .ok (.iload 5, 2) := by decide +kernel
theorem dX6_window_80 : decode cX6_window 80 = .ok (.isub, 1) := by decide +kernel
theorem dX6_window_81 : decode cX6_window 81 = .ok (.imul, 1) := by decide +kernel
theorem dX6_window_82 : decode cX6_window 82 = .ok (.bipush 64, 2) := by decide +kernel
theorem dX6_window_84 : decode cX6_window 84 = .ok (.if_icmp .gt 12, 3) := by decide +kernel
theorem dX6_window_87 : decode cX6_window 87 = .ok (.aload_n 0, 1) := by decide +kernel
theorem dX6_window_88 : decode cX6_window 88 = .ok (.getfield 104, 3) := by decide +kernel
theorem dX6_window_91 : decode cX6_window 91 = .ok (.bipush 20, 2) := by decide +kernel
theorem dX6_window_93 : decode cX6_window 93 = .ok (.if_icmp .ne 10, 3) := by decide +kernel
theorem dX6_window_96 : decode cX6_window 96 = .ok (.aload_n 0, 1) := by decide +kernel
theorem dX6_window_97 : decode cX6_window 97 = .ok (.bipush (-6), 2) := by decide +kernel
theorem dX6_window_99 : decode cX6_window 99 = .ok (.invokevirtual 111, 3) := by decide +kernel
theorem dX6_window_102 : decode cX6_window 102 = .ok (.ireturn, 1) := by decide +kernel
theorem dX6_window_103 : decode cX6_window 103 = .ok (.aload_n 0, 1) := by decide +kernel
theorem dX6_window_104 : decode cX6_window 104 = .ok (.getfield 63, 3) := by decide +kernel
theorem dX6_window_107 : decode cX6_window 107 = .ok (.aload_n 0, 1) := by decide +kernel
theorem dX6_window_108 : decode cX6_window 108 = .ok (.getfield 104, 3) := by decide +kernel
theorem dX6_window_111 : decode cX6_window 111 = .ok (.iload_n 1, 1) := by decide +kernel
theorem dX6_window_112 : decode cX6_window 112 = .ok (.iastore, 1) := by decide +kernel
theorem dX6_window_113 : decode cX6_window 113 = .ok (.aload_n 0, 1) := by decide +kernel
theorem dX6_window_114 : decode cX6_window 114 = .ok (.getfield 66, 3) := by decide +kernel
theorem dX6_window_117 : decode cX6_window 117 = .ok (.aload_n 0, 1) := by decide +kernel
theorem dX6_window_118 : decode cX6_window 118 = .ok (.getfield 104, 3) := by decide +kernel
theorem dX6_window_121 : decode cX6_window 121 = .ok (.iload_n 2, 1) := by decide +kernel
theorem dX6_window_122 : decode cX6_window 122 = .ok (.iastore, 1) := by decide +kernel
theorem dX6_window_123 : decode cX6_window 123 = .ok (.aload_n 0, 1) := by decide +kernel
theorem dX6_window_124 : decode cX6_window 124 = .ok (.getfield 69, 3) := by decide +kernel
theorem dX6_window_127 : decode cX6_window 127 = .ok (.aload_n 0, 1) := by decide +kernel
theorem dX6_window_128 : decode cX6_window 128 = .ok (.getfield 104, 3) := by decide +kernel
theorem dX6_window_131 : decode cX6_window 131 = .ok (.iload_n 3, 1) := by decide +kernel
theorem dX6_window_132 : decode cX6_window 132 = .ok (.iastore, 1) := by decide +kernel
theorem dX6_window_133 : decode cX6_window 133 = .ok (.aload_n 0, 1) := by decide +kernel
theorem dX6_window_134 : decode cX6_window 134 = .ok (.getfield 72, 3) := by decide +kernel
theorem dX6_window_137 : decode cX6_window 137 = .ok (.aload_n 0, 1) := by decide +kernel
theorem dX6_window_138 : decode cX6_window 138 = .ok (.getfield 104, 3) := by decide +kernel
theorem dX6_window_141 : decode cX6_window 141 = .ok (.iload 4, 2) := by decide +kernel
theorem dX6_window_143 : decode cX6_window 143 = .ok (.iastore, 1) := by decide +kernel
theorem dX6_window_144 : decode cX6_window 144 = .ok (.aload_n 0, 1) := by decide +kernel
theorem dX6_window_145 : decode cX6_window 145 = .ok (.getfield 75, 3) := by decide +kernel
theorem dX6_window_148 : decode cX6_window 148 = .ok (.aload_n 0, 1) := by decide +kernel
theorem dX6_window_149 : decode cX6_window 149 = .ok (.getfield 104, 3) := by decide +kernel
theorem dX6_window_152 : decode cX6_window 152 = .ok (.iload 5, 2) := by decide +kernel
theorem dX6_window_154 : decode cX6_window 154 = .ok (.iastore, 1) := by decide +kernel
theorem dX6_window_155 : decode cX6_window 155 = .ok (.aload_n 0, 1) := by decide +kernel
theorem dX6_window_156 : decode cX6_window 156 = .ok (.getfield 78, 3) := by decide +kernel
theorem dX6_window_159 : decode cX6_window 159 = .ok (.aload_n 0, 1) := by decide +kernel
theorem dX6_window_160 : decode cX6_window 160 = .ok (.getfield 104, 3) := by decide +kernel
theorem dX6_window_163 : decode cX6_window 163 = .ok (.iload 6, 2) := by decide +kernel
theorem dX6_window_165 : decode cX6_window 165 = .ok (.iastore, 1) := by decide +kernel
theorem dX6_window_166 : decode cX6_window 166 = .ok (.aload_n 0, 1) := by decide +kernel
theorem dX6_window_167 : decode cX6_window 167 = .ok (.dup, 1) := by decide +kernel
theorem dX6_window_168 : decode cX6_window 168 = .ok (.getfield 104, 3) := by decide +kernel
theorem dX6_window_171 : decode cX6_window 171 = .ok (.iconst 1, 1) := by decide +kernel
theorem dX6_window_172 : decode cX6_window 172 = .ok (.iadd, 1) := by decide +kernel
theorem dX6_window_173 : decode cX6_window 173 = .ok (.putfield 104, 3) := by decide +kernel
theorem dX6_window_176 : decode cX6_window 176 = .ok (.aload_n 0, 1) := by decide +kernel
theorem dX6_window_177 : decode cX6_window 177 = .ok (.getfield 104, 3) := by decide +kernel
theorem dX6_window_180 : decode cX6_window 180 = .ok (.iconst 1, 1) := by decide +kernel
theorem dX6_window_181 : decode cX6_window 181 = .ok (.isub, 1) := by decide +kernel
theorem dX6_window_182 : decode cX6_window 182 = .ok (.ireturn, 1) := by decide +kernel
theorem dX6_part_0 : decode cX6_part 0 = .ok (.iload_n 1, 1) := by decide +kernel
theorem dX6_part_1 : decode cX6_part 1 = .ok (.iconst 1, 1) := by decide +kernel
theorem dX6_part_2 : decode cX6_part 2 = .ok (.if_icmp .ge 10, 3) := by decide +kernel
theorem dX6_part_5 : decode cX6_part 5 = .ok (.aload_n 0, 1) := by decide +kernel
theorem dX6_part_6 : decode cX6_part 6 = .ok (.bipush (-4), 2) := by decide +kernel
theorem dX6_part_8 : decode cX6_part 8 = .ok (.invokevirtual 111, 3) := by decide +kernel
theorem dX6_part_11 : decode cX6_part 11 = .ok (.ireturn, 1) := by decide +kernel
theorem dX6_part_12 : decode cX6_part 12 = .ok (.iload_n 1, 1) := by decide +kernel
theorem dX6_part_13 : decode cX6_part 13 = .ok (.bipush 8, 2) := by decide +kernel
theorem dX6_part_15 : decode cX6_part 15 = .ok (.if_icmp .le 10, 3) := by decide +kernel
theorem dX6_part_18 : decode cX6_part 18 = .ok (.aload_n 0, 1) := by decide +kernel
theorem dX6_part_19 : decode cX6_part 19 = .ok (.bipush (-6), 2) := by decide +kernel
theorem dX6_part_21 : decode cX6_part 21 = .ok (.invokevirtual 111, 3) := by decide +kernel
theorem dX6_part_24 : decode cX6_part 24 = .ok (.ireturn, 1) := by decide +kernel
theorem dX6_part_25 : decode cX6_part 25 = .ok (.aload_n 0, 1) := by decide +kernel
theorem dX6_part_26 : decode cX6_part 26 = .ok (.getfield 25, 3) := by decide +kernel
theorem dX6_part_29 : decode cX6_part 29 = .ok (.istore_n 2, 1) := by decide +kernel
theorem dX6_part_30 : decode cX6_part 30 = .ok (.aload_n 0, 1) := by decide +kernel
theorem dX6_part_31 : decode cX6_part 31 = .ok (.iload_n 1, 1) := by decide +kernel
theorem dX6_part_32 : decode cX6_part 32 = .ok (.putfield 25, 3) := by decide +kernel
theorem dX6_part_35 : decode cX6_part 35 = .ok (.iload_n 2, 1) := by decide +kernel
theorem dX6_part_36 : decode cX6_part 36 = .ok (.ireturn, 1) := by decide +kernel
theorem dX6_law_0 : decode cX6_law 0 = .ok (.iload_n 1, 1) := by decide +kernel
theorem dX6_law_1 : decode cX6_law 1 = .ok (.invokestatic 107, 3) := by decide +kernel
theorem dX6_law_4 : decode cX6_law 4 = .ok (.ifCond .ne 9, 3) := by decide +kernel
theorem dX6_law_7 : decode cX6_law 7 = .ok (.aload_n 0, 1) := by decide +kernel
theorem dX6_law_8 : decode cX6_law 8 = .ok (.iconst (-1), 1) := by decide +kernel
theorem dX6_law_9 : decode cX6_law 9 = .ok (.invokevirtual 111, 3) := by decide +kernel
theorem dX6_law_12 : decode cX6_law 12 = .ok (.ireturn, 1) := by decide +kernel
theorem dX6_law_13 : decode cX6_law 13 = .ok (.iload_n 2, 1) := by decide +kernel
theorem dX6_law_14 : decode cX6_law 14 = .ok (.ifCond .ge 10, 3) := by decide +kernel
theorem dX6_law_17 : decode cX6_law 17 = .ok (.aload_n 0, 1) := by decide +kernel
theorem dX6_law_18 : decode cX6_law 18 = .ok (.bipush (-4), 2) := by decide +kernel
theorem dX6_law_20 : decode cX6_law 20 = .ok (.invokevirtual 111, 3) := by decide +kernel
theorem dX6_law_23 : decode cX6_law 23 = .ok (.ireturn, 1) := by decide +kernel
theorem dX6_law_24 : decode cX6_law 24 = .ok (.iload_n 2, 1) := by decide +kernel
theorem dX6_law_25 : decode cX6_law 25 = .ok (.bipush 24, 2) := by decide +kernel
theorem dX6_law_27 : decode cX6_law 27 = .ok (.if_icmp .le 10, 3) := by decide +kernel
theorem dX6_law_30 : decode cX6_law 30 = .ok (.aload_n 0, 1) := by decide +kernel
theorem dX6_law_31 : decode cX6_law 31 = .ok (.bipush (-6), 2) := by decide +kernel
theorem dX6_law_33 : decode cX6_law 33 = .ok (.invokevirtual 111, 3) := by decide +kernel
theorem dX6_law_36 : decode cX6_law 36 = .ok (.ireturn, 1) := by decide +kernel
theorem dX6_law_37 : decode cX6_law 37 = .ok (.aload_n 0, 1) := by decide +kernel
theorem dX6_law_38 : decode cX6_law 38 = .ok (.getfield 22, 3) := by decide +kernel
theorem dX6_law_41 : decode cX6_law 41 = .ok (.iload_n 1, 1) := by decide +kernel
theorem dX6_law_42 : decode cX6_law 42 = .ok (.iaload, 1) := by decide +kernel
theorem dX6_law_43 : decode cX6_law 43 = .ok (.istore_n 3, 1) := by decide +kernel
theorem dX6_law_44 : decode cX6_law 44 = .ok (.aload_n 0, 1) := by decide +kernel
theorem dX6_law_45 : decode cX6_law 45 = .ok (.getfield 22, 3) := by decide +kernel
theorem dX6_law_48 : decode cX6_law 48 = .ok (.iload_n 1, 1) := by decide +kernel
theorem dX6_law_49 : decode cX6_law 49 = .ok (.iload_n 2, 1) := by decide +kernel
theorem dX6_law_50 : decode cX6_law 50 = .ok (.iastore, 1) := by decide +kernel
theorem dX6_law_51 : decode cX6_law 51 = .ok (.iload_n 3, 1) := by decide +kernel
theorem dX6_law_52 : decode cX6_law 52 = .ok (.ireturn, 1) := by decide +kernel
theorem dX6_isThere_0 : decode cX6_isThere 0 = .ok (.aload_n 0, 1) := by decide +kernel
theorem dX6_isThere_1 : decode cX6_isThere 1 = .ok (.getfield 60, 3) := by decide +kernel
theorem dX6_isThere_4 : decode cX6_isThere 4 = .ok (.iload_n 1, 1) := by decide +kernel
theorem dX6_isThere_5 : decode cX6_isThere 5 = .ok (.baload, 1) := by decide +kernel
theorem dX6_isThere_6 : decode cX6_isThere 6 = .ok (.ifCond .ne 34, 3) := by decide +kernel
theorem dX6_isThere_9 : decode cX6_isThere 9 = .ok (.aload_n 0, 1) := by decide +kernel
theorem dX6_isThere_10 : decode cX6_isThere 10 = .ok (.getfield 29, 3) := by decide +kernel
theorem dX6_isThere_13 : decode cX6_isThere 13 = .ok (.iload_n 1, 1) := by decide +kernel
theorem dX6_isThere_14 : decode cX6_isThere 14 = .ok (.iaload, 1) := by decide +kernel
theorem dX6_isThere_15 : decode cX6_isThere 15 = .ok (.iconst 3, 1) := by decide +kernel
theorem dX6_isThere_16 : decode cX6_isThere 16 = .ok (.if_icmp .ne 20, 3) := by decide +kernel
theorem dX6_isThere_19 : decode cX6_isThere 19 = .ok (.aload_n 0, 1) := by decide +kernel
theorem dX6_isThere_20 : decode cX6_isThere 20 = .ok (.getfield 56, 3) := by decide +kernel
theorem dX6_isThere_23 : decode cX6_isThere 23 = .ok (.iload_n 1, 1) := by decide +kernel
theorem dX6_isThere_24 : decode cX6_isThere 24 = .ok (.baload, 1) := by decide +kernel
theorem dX6_isThere_25 : decode cX6_isThere 25 = .ok (.ifCond .ne 11, 3) := by decide +kernel
theorem dX6_isThere_28 : decode cX6_isThere 28 = .ok (.iload_n 1, 1) := by decide +kernel
theorem dX6_isThere_29 : decode cX6_isThere 29 = .ok (.aload_n 0, 1) := by decide +kernel
theorem dX6_isThere_30 : decode cX6_isThere 30 = .ok (.getfield 90, 3) := by decide +kernel
theorem dX6_isThere_33 : decode cX6_isThere 33 = .ok (.if_icmp .ne 7, 3) := by decide +kernel
theorem dX6_isThere_36 : decode cX6_isThere 36 = .ok (.iconst 1, 1) := by decide +kernel
theorem dX6_isThere_37 : decode cX6_isThere 37 = .ok (.goto 4, 3) := by decide +kernel
theorem dX6_isThere_40 : decode cX6_isThere 40 = .ok (.iconst 0, 1) := by decide +kernel
theorem dX6_isThere_41 : decode cX6_isThere 41 = .ok (.ireturn, 1) := by decide +kernel
theorem dX6_topOf_0 : decode cX6_topOf 0 = .ok (.iload_n 1, 1) := by decide +kernel
theorem dX6_topOf_1 : decode cX6_topOf 1 = .ok (.aload_n 0, 1) := by decide +kernel
theorem dX6_topOf_2 : decode cX6_topOf 2 = .ok (.getfield 90, 3) := by decide +kernel
theorem dX6_topOf_5 : decode cX6_topOf 5 = .ok (.if_icmp .ne 10, 3) := by decide +kernel
theorem dX6_topOf_8 : decode cX6_topOf 8 = .ok (.aload_n 0, 1) := by decide +kernel
theorem dX6_topOf_9 : decode cX6_topOf 9 = .ok (.getfield 121, 3) := by decide +kernel
theorem dX6_topOf_12 : decode cX6_topOf 12 = .ok (.goto 9, 3) := by decide +kernel
theorem dX6_topOf_15 : decode cX6_topOf 15 = .ok (.aload_n 0, 1) := by decide +kernel
theorem dX6_topOf_16 : decode cX6_topOf 16 = .ok (.getfield 47, 3) := by decide +kernel
theorem dX6_topOf_19 : decode cX6_topOf 19 = .ok (.iload_n 1, 1) := by decide +kernel
theorem dX6_topOf_20 : decode cX6_topOf 20 = .ok (.iaload, 1) := by decide +kernel
theorem dX6_topOf_21 : decode cX6_topOf 21 = .ok (.ireturn, 1) := by decide +kernel
theorem dX6_show_0 : decode cX6_show 0 = .ok (.aload_n 0, 1) := by decide +kernel
theorem dX6_show_1 : decode cX6_show 1 = .ok (.getfield 72, 3) := by decide +kernel
theorem dX6_show_4 : decode cX6_show 4 = .ok (.iload_n 1, 1) := by decide +kernel
theorem dX6_show_5 : decode cX6_show 5 = .ok (.iaload, 1) := by decide +kernel
theorem dX6_show_6 : decode cX6_show 6 = .ok (.aload_n 0, 1) := by decide +kernel
theorem dX6_show_7 : decode cX6_show 7 = .ok (.getfield 69, 3) := by decide +kernel
theorem dX6_show_10 : decode cX6_show 10 = .ok (.iload_n 1, 1) := by decide +kernel
theorem dX6_show_11 : decode cX6_show 11 = .ok (.iaload, 1) := by decide +kernel
theorem dX6_show_12 : decode cX6_show 12 = .ok (.isub, 1) := by decide +kernel
theorem dX6_show_13 : decode cX6_show 13 = .ok (.istore 4, 2) := by decide +kernel
theorem dX6_show_15 : decode cX6_show 15 = .ok (.iconst 2, 1) := by decide +kernel
theorem dX6_show_16 : decode cX6_show 16 = .ok (.aload_n 0, 1) := by decide +kernel
theorem dX6_show_17 : decode cX6_show 17 = .ok (.getfield 69, 3) := by decide +kernel
theorem dX6_show_20 : decode cX6_show 20 = .ok (.iload_n 1, 1) := by decide +kernel
theorem dX6_show_21 : decode cX6_show 21 = .ok (.iaload, 1) := by decide +kernel
theorem dX6_show_22 : decode cX6_show 22 = .ok (.iload_n 2, 1) := by decide +kernel
theorem dX6_show_23 : decode cX6_show 23 = .ok (.iload 4, 2) := by decide +kernel
theorem dX6_show_25 : decode cX6_show 25 = .ok (.irem, 1) := by decide +kernel
theorem dX6_show_26 : decode cX6_show 26 = .ok (.iadd, 1) := by decide +kernel
theorem dX6_show_27 : decode cX6_show 27 = .ok (.imul, 1) := by decide +kernel
theorem dX6_show_28 : decode cX6_show 28 = .ok (.iconst 1, 1) := by decide +kernel
theorem dX6_show_29 : decode cX6_show 29 = .ok (.iadd, 1) := by decide +kernel
theorem dX6_show_30 : decode cX6_show 30 = .ok (.istore 5, 2) := by decide +kernel
theorem dX6_show_32 : decode cX6_show 32 = .ok (.aload_n 0, 1) := by decide +kernel
theorem dX6_show_33 : decode cX6_show 33 = .ok (.aload_n 0, 1) := by decide +kernel
theorem dX6_show_34 : decode cX6_show 34 = .ok (.getfield 63, 3) := by decide +kernel
theorem dX6_show_37 : decode cX6_show 37 = .ok (.iload_n 1, 1) := by decide +kernel
theorem dX6_show_38 : decode cX6_show 38 = .ok (.iaload, 1) := by decide +kernel
theorem dX6_show_39 : decode cX6_show 39 = .ok (.iconst 2, 1) := by decide +kernel
theorem dX6_show_40 : decode cX6_show 40 = .ok (.if_icmp .ge 14, 3) := by decide +kernel
theorem dX6_show_43 : decode cX6_show 43 = .ok (.iconst 2, 1) := by decide +kernel
theorem dX6_show_44 : decode cX6_show 44 = .ok (.aload_n 0, 1) := by decide +kernel
theorem dX6_show_45 : decode cX6_show 45 = .ok (.getfield 66, 3) := by decide +kernel
theorem dX6_show_48 : decode cX6_show 48 = .ok (.iload_n 1, 1) := by decide +kernel
theorem dX6_show_49 : decode cX6_show 49 = .ok (.iaload, 1) := by decide +kernel
theorem dX6_show_50 : decode cX6_show 50 = .ok (.imul, 1) := by decide +kernel
theorem dX6_show_51 : decode cX6_show 51 = .ok (.goto 5, 3) := by decide +kernel
theorem dX6_show_54 : decode cX6_show 54 = .ok (.iload 5, 2) := by decide +kernel
theorem dX6_show_56 : decode cX6_show 56 = .ok (.putfield 124, 3) := by decide +kernel
theorem dX6_show_59 : decode cX6_show 59 = .ok (.aload_n 0, 1) := by decide +kernel
theorem dX6_show_60 : decode cX6_show 60 = .ok (.aload_n 0, 1) := by decide +kernel
theorem dX6_show_61 : decode cX6_show 61 = .ok (.getfield 63, 3) := by decide +kernel
theorem dX6_show_64 : decode cX6_show 64 = .ok (.iload_n 1, 1) := by decide +kernel
theorem dX6_show_65 : decode cX6_show 65 = .ok (.iaload, 1) := by decide +kernel
theorem dX6_show_66 : decode cX6_show 66 = .ok (.iconst 2, 1) := by decide +kernel
theorem dX6_show_67 : decode cX6_show 67 = .ok (.if_icmp .ge 8, 3) := by decide +kernel
theorem dX6_show_70 : decode cX6_show 70 = .ok (.iload 5, 2) := by decide +kernel
theorem dX6_show_72 : decode cX6_show 72 = .ok (.goto 11, 3) := by decide +kernel
theorem dX6_show_75 : decode cX6_show 75 = .ok (.iconst 2, 1) := by decide +kernel
theorem dX6_show_76 : decode cX6_show 76 = .ok (.aload_n 0, 1) := by decide +kernel
theorem dX6_show_77 : decode cX6_show 77 = .ok (.getfield 66, 3) := by decide +kernel
theorem dX6_show_80 : decode cX6_show 80 = .ok (.iload_n 1, 1) := by decide +kernel
theorem dX6_show_81 : decode cX6_show 81 = .ok (.iaload, 1) := by decide +kernel
theorem dX6_show_82 : decode cX6_show 82 = .ok (.imul, 1) := by decide +kernel
theorem dX6_show_83 : decode cX6_show 83 = .ok (.putfield 127, 3) := by decide +kernel
theorem dX6_show_86 : decode cX6_show 86 = .ok (.aload_n 0, 1) := by decide +kernel
theorem dX6_show_87 : decode cX6_show 87 = .ok (.iconst 2, 1) := by decide +kernel
theorem dX6_show_88 : decode cX6_show 88 = .ok (.aload_n 0, 1) := by decide +kernel
theorem dX6_show_89 : decode cX6_show 89 = .ok (.getfield 75, 3) := by decide +kernel
theorem dX6_show_92 : decode cX6_show 92 = .ok (.iload_n 1, 1) := by decide +kernel
theorem dX6_show_93 : decode cX6_show 93 = .ok (.iaload, 1) := by decide +kernel
theorem dX6_show_94 : decode cX6_show 94 = .ok (.iload_n 2, 1) := by decide +kernel
theorem dX6_show_95 : decode cX6_show 95 = .ok (.iload 4, 2) := by decide +kernel
theorem dX6_show_97 : decode cX6_show 97 = .ok (.idiv, 1) := by decide +kernel
theorem dX6_show_98 : decode cX6_show 98 = .ok (.iadd, 1) := by decide +kernel
theorem dX6_show_99 : decode cX6_show 99 = .ok (.imul, 1) := by decide +kernel
theorem dX6_show_100 : decode cX6_show 100 = .ok (.iconst 1, 1) := by decide +kernel
theorem dX6_show_101 : decode cX6_show 101 = .ok (.iadd, 1) := by decide +kernel
theorem dX6_show_102 : decode cX6_show 102 = .ok (.putfield 130, 3) := by decide +kernel
theorem dX6_show_105 : decode cX6_show 105 = .ok (.aload_n 0, 1) := by decide +kernel
theorem dX6_show_106 : decode cX6_show 106 = .ok (.aload_n 0, 1) := by decide +kernel
theorem dX6_show_107 : decode cX6_show 107 = .ok (.getfield 13, 3) := by decide +kernel
theorem dX6_show_110 : decode cX6_show 110 = .ok (.iload_n 3, 1) := by decide +kernel
theorem dX6_show_111 : decode cX6_show 111 = .ok (.iaload, 1) := by decide +kernel
theorem dX6_show_112 : decode cX6_show 112 = .ok (.putfield 133, 3) := by decide +kernel
theorem dX6_show_115 : decode cX6_show 115 = .ok (.aload_n 0, 1) := by decide +kernel
theorem dX6_show_116 : decode cX6_show 116 = .ok (.aload_n 0, 1) := by decide +kernel
theorem dX6_show_117 : decode cX6_show 117 = .ok (.getfield 16, 3) := by decide +kernel
theorem dX6_show_120 : decode cX6_show 120 = .ok (.iload_n 3, 1) := by decide +kernel
theorem dX6_show_121 : decode cX6_show 121 = .ok (.iaload, 1) := by decide +kernel
theorem dX6_show_122 : decode cX6_show 122 = .ok (.putfield 136, 3) := by decide +kernel
theorem dX6_show_125 : decode cX6_show 125 = .ok (.aload_n 0, 1) := by decide +kernel
theorem dX6_show_126 : decode cX6_show 126 = .ok (.aload_n 0, 1) := by decide +kernel
theorem dX6_show_127 : decode cX6_show 127 = .ok (.getfield 19, 3) := by decide +kernel
theorem dX6_show_130 : decode cX6_show 130 = .ok (.iload_n 3, 1) := by decide +kernel
theorem dX6_show_131 : decode cX6_show 131 = .ok (.iaload, 1) := by decide +kernel
theorem dX6_show_132 : decode cX6_show 132 = .ok (.putfield 139, 3) := by decide +kernel
theorem dX6_show_135 : decode cX6_show 135 = .ok (.return_, 1) := by decide +kernel
theorem dX6_isInFront_0 : decode cX6_isInFront 0 = .ok (.aload_n 0, 1) := by decide +kernel
theorem dX6_isInFront_1 : decode cX6_isInFront 1 = .ok (.getfield 63, 3) := by decide +kernel
theorem dX6_isInFront_4 : decode cX6_isInFront 4 = .ok (.iload_n 1, 1) := by decide +kernel
theorem dX6_isInFront_5 : decode cX6_isInFront 5 = .ok (.iaload, 1) := by decide +kernel
theorem dX6_isInFront_6 : decode cX6_isInFront 6 = .ok (.iconst 2, 1) := by decide +kernel
theorem dX6_isInFront_7 : decode cX6_isInFront 7 = .ok (.if_icmp .ge 12, 3) := by decide +kernel
theorem dX6_isInFront_10 : decode cX6_isInFront 10 = .ok (.aload_n 0, 1) := by decide +kernel
theorem dX6_isInFront_11 : decode cX6_isInFront 11 = .ok (.getfield 13, 3) := by decide +kernel
theorem dX6_isInFront_14 : decode cX6_isInFront 14 = .ok (.iload_n 2, 1) := by decide +kernel
theorem dX6_isInFront_15 : decode cX6_isInFront 15 = .ok (.iaload, 1) := by decide +kernel
theorem dX6_isInFront_16 : decode cX6_isInFront 16 = .ok (.goto 9, 3) := by decide +kernel
theorem dX6_isInFront_19 : decode cX6_isInFront 19 = .ok (.aload_n 0, 1) := by decide +kernel
theorem dX6_isInFront_20 : decode cX6_isInFront 20 = .ok (.getfield 16, 3) := by decide +kernel
theorem dX6_isInFront_23 : decode cX6_isInFront 23 = .ok (.iload_n 2, 1) := by decide +kernel
theorem dX6_isInFront_24 : decode cX6_isInFront 24 = .ok (.iaload, 1) := by decide +kernel
theorem dX6_isInFront_25 : decode cX6_isInFront 25 = .ok (.istore_n 3, 1) := by decide +kernel
theorem dX6_isInFront_26 : decode cX6_isInFront 26 = .ok (.aload_n 0, 1) := by decide +kernel
theorem dX6_isInFront_27 : decode cX6_isInFront 27 = .ok (.getfield 63, 3) := by decide +kernel
theorem dX6_isInFront_30 : decode cX6_isInFront 30 = .ok (.iload_n 1, 1) := by decide +kernel
theorem dX6_isInFront_31 : decode cX6_isInFront 31 = .ok (.iaload, 1) := by decide +kernel
theorem dX6_isInFront_32 : decode cX6_isInFront 32 = .ok (.iconst 2, 1) := by decide +kernel
theorem dX6_isInFront_33 : decode cX6_isInFront 33 = .ok (.irem, 1) := by decide +kernel
theorem dX6_isInFront_34 : decode cX6_isInFront 34 = .ok (.ifCond .ne 15, 3) := by decide +kernel
theorem dX6_isInFront_37 : decode cX6_isInFront 37 = .ok (.iload_n 3, 1) := by decide +kernel
theorem dX6_isInFront_38 : decode cX6_isInFront 38 = .ok (.ifCond .le 7, 3) := by decide +kernel
theorem dX6_isInFront_41 : decode cX6_isInFront 41 = .ok (.iconst 1, 1) := by decide +kernel
theorem dX6_isInFront_42 : decode cX6_isInFront 42 = .ok (.goto 16, 3) := by decide +kernel
theorem dX6_isInFront_45 : decode cX6_isInFront 45 = .ok (.iconst 0, 1) := by decide +kernel
theorem dX6_isInFront_46 : decode cX6_isInFront 46 = .ok (.goto 12, 3) := by decide +kernel
theorem dX6_isInFront_49 : decode cX6_isInFront 49 = .ok (.iload_n 3, 1) := by decide +kernel
theorem dX6_isInFront_50 : decode cX6_isInFront 50 = .ok (.ifCond .ge 7, 3) := by decide +kernel
theorem dX6_isInFront_53 : decode cX6_isInFront 53 = .ok (.iconst 1, 1) := by decide +kernel
theorem dX6_isInFront_54 : decode cX6_isInFront 54 = .ok (.goto 4, 3) := by decide +kernel
theorem dX6_isInFront_57 : decode cX6_isInFront 57 = .ok (.iconst 0, 1) := by decide +kernel
theorem dX6_isInFront_58 : decode cX6_isInFront 58 = .ok (.ireturn, 1) := by decide +kernel
theorem dX6_bound_0 : decode cX6_bound 0 = .ok (.iload_n 2, 1) := by decide +kernel
theorem dX6_bound_1 : decode cX6_bound 1 = .ok (.ifCond .ne 31, 3) := by decide +kernel
theorem dX6_bound_4 : decode cX6_bound 4 = .ok (.aload_n 0, 1) := by decide +kernel
theorem dX6_bound_5 : decode cX6_bound 5 = .ok (.aload_n 0, 1) := by decide +kernel
theorem dX6_bound_6 : decode cX6_bound 6 = .ok (.getfield 142, 3) := by decide +kernel
theorem dX6_bound_9 : decode cX6_bound 9 = .ok (.ifCond .ne 14, 3) := by decide +kernel
theorem dX6_bound_12 : decode cX6_bound 12 = .ok (.iload_n 1, 1) := by decide +kernel
theorem dX6_bound_13 : decode cX6_bound 13 = .ok (.iload_n 3, 1) := by decide +kernel
theorem dX6_bound_14 : decode cX6_bound 14 = .ok (.if_icmp .le 9, 3) := by decide +kernel
theorem dX6_bound_17 : decode cX6_bound 17 = .ok (.iload_n 1, 1) := by decide +kernel
theorem dX6_bound_18 : decode cX6_bound 18 = .ok (.iload 4, 2) := by decide +kernel
theorem dX6_bound_20 : decode cX6_bound 20 = .ok (.if_icmp .lt 7, 3) := by decide +kernel
theorem dX6_bound_23 : decode cX6_bound 23 = .ok (.iconst 1, 1) := by decide +kernel
theorem dX6_bound_24 : decode cX6_bound 24 = .ok (.goto 4, 3) := by decide +kernel
theorem dX6_bound_27 : decode cX6_bound 27 = .ok (.iconst 0, 1) := by decide +kernel
theorem dX6_bound_28 : decode cX6_bound 28 = .ok (.putfield 142, 3) := by decide +kernel
theorem dX6_bound_31 : decode cX6_bound 31 = .ok (.return_, 1) := by decide +kernel
theorem dX6_bound_32 : decode cX6_bound 32 = .ok (.iload_n 2, 1) := by decide +kernel
theorem dX6_bound_33 : decode cX6_bound 33 = .ok (.ifCond .le 9, 3) := by decide +kernel
theorem dX6_bound_36 : decode cX6_bound 36 = .ok (.iload_n 3, 1) := by decide +kernel
theorem dX6_bound_37 : decode cX6_bound 37 = .ok (.iload_n 1, 1) := by decide +kernel
theorem dX6_bound_38 : decode cX6_bound 38 = .ok (.isub, 1) := by decide +kernel
theorem dX6_bound_39 : decode cX6_bound 39 = .ok (.goto 7, 3) := by decide +kernel
theorem dX6_bound_42 : decode cX6_bound 42 = .ok (.iload_n 1, 1) := by decide +kernel
theorem dX6_bound_43 : decode cX6_bound 43 = .ok (.iload 4, 2) := by decide +kernel
theorem dX6_bound_45 : decode cX6_bound 45 = .ok (.isub, 1) := by decide +kernel
theorem dX6_bound_46 : decode cX6_bound 46 = .ok (.istore 5, 2) := by decide +kernel
theorem dX6_bound_48 : decode cX6_bound 48 = .ok (.iload_n 2, 1) := by decide +kernel
theorem dX6_bound_49 : decode cX6_bound 49 = .ok (.ifCond .le 10, 3) := by decide +kernel
theorem dX6_bound_52 : decode cX6_bound 52 = .ok (.iload 4, 2) := by decide +kernel
theorem dX6_bound_54 : decode cX6_bound 54 = .ok (.iload_n 1, 1) := by decide +kernel
theorem dX6_bound_55 : decode cX6_bound 55 = .ok (.isub, 1) := by decide +kernel
theorem dX6_bound_56 : decode cX6_bound 56 = .ok (.goto 6, 3) := by decide +kernel
theorem dX6_bound_59 : decode cX6_bound 59 = .ok (.iload_n 1, 1) := by decide +kernel
theorem dX6_bound_60 : decode cX6_bound 60 = .ok (.iload_n 3, 1) := by decide +kernel
theorem dX6_bound_61 : decode cX6_bound 61 = .ok (.isub, 1) := by decide +kernel
theorem dX6_bound_62 : decode cX6_bound 62 = .ok (.istore 6, 2) := by decide +kernel
theorem dX6_bound_64 : decode cX6_bound 64 = .ok (.iconst 2, 1) := by decide +kernel
theorem dX6_bound_65 : decode cX6_bound 65 = .ok (.iload_n 2, 1) := by decide +kernel
theorem dX6_bound_66 : decode cX6_bound 66 = .ok (.ifCond .le 7, 3) := by decide +kernel
theorem dX6_bound_69 : decode cX6_bound 69 = .ok (.iload_n 2, 1) := by decide +kernel
theorem dX6_bound_70 : decode cX6_bound 70 = .ok (.goto 5, 3) := by decide +kernel
theorem dX6_bound_73 : decode cX6_bound 73 = .ok (.iload_n 2, 1) := by decide +kernel
theorem dX6_bound_74 : decode cX6_bound 74 = .ok (.ineg, 1) := by decide +kernel
theorem dX6_bound_75 : decode cX6_bound 75 = .ok (.imul, 1) := by decide +kernel
theorem dX6_bound_76 : decode cX6_bound 76 = .ok (.istore 7, 2) := by decide +kernel
theorem dX6_bound_78 : decode cX6_bound 78 = .ok (.iload 5, 2) := by decide +kernel
theorem dX6_bound_80 : decode cX6_bound 80 = .ok (.aload_n 0, 1) := by decide +kernel
theorem dX6_bound_81 : decode cX6_bound 81 = .ok (.getfield 146, 3) := by decide +kernel
theorem dX6_bound_84 : decode cX6_bound 84 = .ok (.imul, 1) := by decide +kernel
theorem dX6_bound_85 : decode cX6_bound 85 = .ok (.aload_n 0, 1) := by decide +kernel
theorem dX6_bound_86 : decode cX6_bound 86 = .ok (.getfield 149, 3) := by decide +kernel
theorem dX6_bound_89 : decode cX6_bound 89 = .ok (.iload 7, 2) := by decide +kernel
theorem dX6_bound_91 : decode cX6_bound 91 = .ok (.imul, 1) := by decide +kernel
theorem dX6_bound_92 : decode cX6_bound 92 = .ok (.if_icmp .le 15, 3) := by decide +kernel
theorem dX6_bound_95 : decode cX6_bound 95 = .ok (.aload_n 0, 1) := by decide +kernel
theorem dX6_bound_96 : decode cX6_bound 96 = .ok (.iload 5, 2) := by decide +kernel
theorem dX6_bound_98 : decode cX6_bound 98 = .ok (.putfield 149, 3) := by decide +kernel
theorem dX6_bound_101 : decode cX6_bound 101 = .ok (.aload_n 0, 1) := by decide +kernel
theorem dX6_bound_102 : decode cX6_bound 102 = .ok (.iload 7, 2) := by decide +kernel
theorem dX6_bound_104 : decode cX6_bound 104 = .ok (.putfield 146, 3) := by decide +kernel
theorem dX6_bound_107 : decode cX6_bound 107 = .ok (.aload_n 0, 1) := by decide +kernel
theorem dX6_bound_108 : decode cX6_bound 108 = .ok (.getfield 152, 3) := by decide +kernel
theorem dX6_bound_111 : decode cX6_bound 111 = .ok (.ifCond .eq 20, 3) := by decide +kernel
theorem dX6_bound_114 : decode cX6_bound 114 = .ok (.iload 6, 2) := by decide +kernel
theorem dX6_bound_116 : decode cX6_bound 116 = .ok (.aload_n 0, 1) := by decide +kernel
theorem dX6_bound_117 : decode cX6_bound 117 = .ok (.getfield 152, 3) := by decide +kernel
theorem dX6_bound_120 : decode cX6_bound 120 = .ok (.imul, 1) := by decide +kernel
theorem dX6_bound_121 : decode cX6_bound 121 = .ok (.aload_n 0, 1) := by decide +kernel
theorem dX6_bound_122 : decode cX6_bound 122 = .ok (.getfield 155, 3) := by decide +kernel
theorem dX6_bound_125 : decode cX6_bound 125 = .ok (.iload 7, 2) := by decide +kernel
theorem dX6_bound_127 : decode cX6_bound 127 = .ok (.imul, 1) := by decide +kernel
theorem dX6_bound_128 : decode cX6_bound 128 = .ok (.if_icmp .ge 15, 3) := by decide +kernel
theorem dX6_bound_131 : decode cX6_bound 131 = .ok (.aload_n 0, 1) := by decide +kernel
theorem dX6_bound_132 : decode cX6_bound 132 = .ok (.iload 6, 2) := by decide +kernel
theorem dX6_bound_134 : decode cX6_bound 134 = .ok (.putfield 155, 3) := by decide +kernel
theorem dX6_bound_137 : decode cX6_bound 137 = .ok (.aload_n 0, 1) := by decide +kernel
theorem dX6_bound_138 : decode cX6_bound 138 = .ok (.iload 7, 2) := by decide +kernel
theorem dX6_bound_140 : decode cX6_bound 140 = .ok (.putfield 152, 3) := by decide +kernel
end
section
theorem dX6_bound_143 : decode cX6_bound 143 = .ok (.return_, 1) := by decide +kernel
theorem dX6_stands_0 : decode cX6_stands 0 = .ok (.aload_n 0, 1) := by decide +kernel
theorem dX6_stands_1 : decode cX6_stands 1 = .ok (.iconst 0, 1) := by decide +kernel
theorem dX6_stands_2 : decode cX6_stands 2 = .ok (.putfield 149, 3) := by decide +kernel
theorem dX6_stands_5 : decode cX6_stands 5 = .ok (.aload_n 0, 1) := by decide +kernel
theorem dX6_stands_6 : decode cX6_stands 6 = .ok (.iconst 1, 1) := by decide +kernel
theorem dX6_stands_7 : decode cX6_stands 7 = .ok (.putfield 146, 3) := by decide +kernel
theorem dX6_stands_10 : decode cX6_stands 10 = .ok (.aload_n 0, 1) := by decide +kernel
theorem dX6_stands_11 : decode cX6_stands 11 = .ok (.iconst 0, 1) := by decide +kernel
theorem dX6_stands_12 : decode cX6_stands 12 = .ok (.putfield 152, 3) := by decide +kernel
theorem dX6_stands_15 : decode cX6_stands 15 = .ok (.aload_n 0, 1) := by decide +kernel
theorem dX6_stands_16 : decode cX6_stands 16 = .ok (.iconst 0, 1) := by decide +kernel
theorem dX6_stands_17 : decode cX6_stands 17 = .ok (.putfield 142, 3) := by decide +kernel
theorem dX6_stands_20 : decode cX6_stands 20 = .ok (.aload_n 0, 1) := by decide +kernel
theorem dX6_stands_21 : decode cX6_stands 21 = .ok (.aload_n 0, 1) := by decide +kernel
theorem dX6_stands_22 : decode cX6_stands 22 = .ok (.getfield 124, 3) := by decide +kernel
theorem dX6_stands_25 : decode cX6_stands 25 = .ok (.aload_n 0, 1) := by decide +kernel
theorem dX6_stands_26 : decode cX6_stands 26 = .ok (.getfield 133, 3) := by decide +kernel
theorem dX6_stands_29 : decode cX6_stands 29 = .ok (.iconst 2, 1) := by decide +kernel
theorem dX6_stands_30 : decode cX6_stands 30 = .ok (.aload_n 0, 1) := by decide +kernel
theorem dX6_stands_31 : decode cX6_stands 31 = .ok (.getfield 32, 3) := by decide +kernel
theorem dX6_stands_34 : decode cX6_stands 34 = .ok (.iload_n 1, 1) := by decide +kernel
theorem dX6_stands_35 : decode cX6_stands 35 = .ok (.iaload, 1) := by decide +kernel
theorem dX6_stands_36 : decode cX6_stands 36 = .ok (.imul, 1) := by decide +kernel
theorem dX6_stands_37 : decode cX6_stands 37 = .ok (.iconst 2, 1) := by decide +kernel
theorem dX6_stands_38 : decode cX6_stands 38 = .ok (.aload_n 0, 1) := by decide +kernel
theorem dX6_stands_39 : decode cX6_stands 39 = .ok (.getfield 35, 3) := by decide +kernel
theorem dX6_stands_42 : decode cX6_stands 42 = .ok (.iload_n 1, 1) := by decide +kernel
theorem dX6_stands_43 : decode cX6_stands 43 = .ok (.iaload, 1) := by decide +kernel
theorem dX6_stands_44 : decode cX6_stands 44 = .ok (.imul, 1) := by decide +kernel
theorem dX6_stands_45 : decode cX6_stands 45 = .ok (.invokevirtual 158, 3) := by decide +kernel
theorem dX6_stands_48 : decode cX6_stands 48 = .ok (.aload_n 0, 1) := by decide +kernel
theorem dX6_stands_49 : decode cX6_stands 49 = .ok (.aload_n 0, 1) := by decide +kernel
theorem dX6_stands_50 : decode cX6_stands 50 = .ok (.getfield 127, 3) := by decide +kernel
theorem dX6_stands_53 : decode cX6_stands 53 = .ok (.aload_n 0, 1) := by decide +kernel
theorem dX6_stands_54 : decode cX6_stands 54 = .ok (.getfield 136, 3) := by decide +kernel
theorem dX6_stands_57 : decode cX6_stands 57 = .ok (.iconst 2, 1) := by decide +kernel
theorem dX6_stands_58 : decode cX6_stands 58 = .ok (.aload_n 0, 1) := by decide +kernel
theorem dX6_stands_59 : decode cX6_stands 59 = .ok (.getfield 38, 3) := by decide +kernel
theorem dX6_stands_62 : decode cX6_stands 62 = .ok (.iload_n 1, 1) := by decide +kernel
theorem dX6_stands_63 : decode cX6_stands 63 = .ok (.iaload, 1) := by decide +kernel
theorem dX6_stands_64 : decode cX6_stands 64 = .ok (.imul, 1) := by decide +kernel
theorem dX6_stands_65 : decode cX6_stands 65 = .ok (.iconst 2, 1) := by decide +kernel
theorem dX6_stands_66 : decode cX6_stands 66 = .ok (.aload_n 0, 1) := by decide +kernel
theorem dX6_stands_67 : decode cX6_stands 67 = .ok (.getfield 41, 3) := by decide +kernel
theorem dX6_stands_70 : decode cX6_stands 70 = .ok (.iload_n 1, 1) := by decide +kernel
theorem dX6_stands_71 : decode cX6_stands 71 = .ok (.iaload, 1) := by decide +kernel
theorem dX6_stands_72 : decode cX6_stands 72 = .ok (.imul, 1) := by decide +kernel
theorem dX6_stands_73 : decode cX6_stands 73 = .ok (.invokevirtual 158, 3) := by decide +kernel
theorem dX6_stands_76 : decode cX6_stands 76 = .ok (.aload_n 0, 1) := by decide +kernel
theorem dX6_stands_77 : decode cX6_stands 77 = .ok (.aload_n 0, 1) := by decide +kernel
theorem dX6_stands_78 : decode cX6_stands 78 = .ok (.getfield 130, 3) := by decide +kernel
theorem dX6_stands_81 : decode cX6_stands 81 = .ok (.aload_n 0, 1) := by decide +kernel
theorem dX6_stands_82 : decode cX6_stands 82 = .ok (.getfield 139, 3) := by decide +kernel
theorem dX6_stands_85 : decode cX6_stands 85 = .ok (.iconst 2, 1) := by decide +kernel
theorem dX6_stands_86 : decode cX6_stands 86 = .ok (.aload_n 0, 1) := by decide +kernel
theorem dX6_stands_87 : decode cX6_stands 87 = .ok (.getfield 44, 3) := by decide +kernel
theorem dX6_stands_90 : decode cX6_stands 90 = .ok (.iload_n 1, 1) := by decide +kernel
theorem dX6_stands_91 : decode cX6_stands 91 = .ok (.iaload, 1) := by decide +kernel
theorem dX6_stands_92 : decode cX6_stands 92 = .ok (.imul, 1) := by decide +kernel
theorem dX6_stands_93 : decode cX6_stands 93 = .ok (.iconst 2, 1) := by decide +kernel
theorem dX6_stands_94 : decode cX6_stands 94 = .ok (.aload_n 0, 1) := by decide +kernel
theorem dX6_stands_95 : decode cX6_stands 95 = .ok (.iload_n 1, 1) := by decide +kernel
theorem dX6_stands_96 : decode cX6_stands 96 = .ok (.invokevirtual 162, 3) := by decide +kernel
theorem dX6_stands_99 : decode cX6_stands 99 = .ok (.imul, 1) := by decide +kernel
theorem dX6_stands_100 : decode cX6_stands 100 = .ok (.invokevirtual 158, 3) := by decide +kernel
theorem dX6_stands_103 : decode cX6_stands 103 = .ok (.aload_n 0, 1) := by decide +kernel
theorem dX6_stands_104 : decode cX6_stands 104 = .ok (.getfield 142, 3) := by decide +kernel
theorem dX6_stands_107 : decode cX6_stands 107 = .ok (.ifCond .ne 28, 3) := by decide +kernel
theorem dX6_stands_110 : decode cX6_stands 110 = .ok (.aload_n 0, 1) := by decide +kernel
theorem dX6_stands_111 : decode cX6_stands 111 = .ok (.getfield 149, 3) := by decide +kernel
theorem dX6_stands_114 : decode cX6_stands 114 = .ok (.aload_n 0, 1) := by decide +kernel
theorem dX6_stands_115 : decode cX6_stands 115 = .ok (.getfield 152, 3) := by decide +kernel
theorem dX6_stands_118 : decode cX6_stands 118 = .ok (.imul, 1) := by decide +kernel
theorem dX6_stands_119 : decode cX6_stands 119 = .ok (.aload_n 0, 1) := by decide +kernel
theorem dX6_stands_120 : decode cX6_stands 120 = .ok (.getfield 155, 3) := by decide +kernel
theorem dX6_stands_123 : decode cX6_stands 123 = .ok (.aload_n 0, 1) := by decide +kernel
theorem dX6_stands_124 : decode cX6_stands 124 = .ok (.getfield 146, 3) := by decide +kernel
theorem dX6_stands_127 : decode cX6_stands 127 = .ok (.imul, 1) := by decide +kernel
theorem dX6_stands_128 : decode cX6_stands 128 = .ok (.if_icmp .ge 7, 3) := by decide +kernel
theorem dX6_stands_131 : decode cX6_stands 131 = .ok (.iconst 1, 1) := by decide +kernel
theorem dX6_stands_132 : decode cX6_stands 132 = .ok (.goto 4, 3) := by decide +kernel
theorem dX6_stands_135 : decode cX6_stands 135 = .ok (.iconst 0, 1) := by decide +kernel
theorem dX6_stands_136 : decode cX6_stands 136 = .ok (.ireturn, 1) := by decide +kernel
theorem dX6_lightOf_0 : decode cX6_lightOf 0 = .ok (.bipush 24, 2) := by decide +kernel
theorem dX6_lightOf_2 : decode cX6_lightOf 2 = .ok (.iload_n 3, 1) := by decide +kernel
theorem dX6_lightOf_3 : decode cX6_lightOf 3 = .ok (.imul, 1) := by decide +kernel
theorem dX6_lightOf_4 : decode cX6_lightOf 4 = .ok (.iload 4, 2) := by decide +kernel
theorem dX6_lightOf_6 : decode cX6_lightOf 6 = .ok (.iadd, 1) := by decide +kernel
theorem dX6_lightOf_7 : decode cX6_lightOf 7 = .ok (.istore 5, 2) := by decide +kernel
theorem dX6_lightOf_9 : decode cX6_lightOf 9 = .ok (.aload_n 0, 1) := by decide +kernel
theorem dX6_lightOf_10 : decode cX6_lightOf 10 = .ok (.iload_n 1, 1) := by decide +kernel
theorem dX6_lightOf_11 : decode cX6_lightOf 11 = .ok (.iload 5, 2) := by decide +kernel
theorem dX6_lightOf_13 : decode cX6_lightOf 13 = .ok (.invokevirtual 165, 3) := by decide +kernel
theorem dX6_lightOf_16 : decode cX6_lightOf 16 = .ok (.ifCond .ne 5, 3) := by decide +kernel
theorem dX6_lightOf_19 : decode cX6_lightOf 19 = .ok (.iconst 0, 1) := by decide +kernel
theorem dX6_lightOf_20 : decode cX6_lightOf 20 = .ok (.ireturn, 1) := by decide +kernel
theorem dX6_lightOf_21 : decode cX6_lightOf 21 = .ok (.aload_n 0, 1) := by decide +kernel
theorem dX6_lightOf_22 : decode cX6_lightOf 22 = .ok (.iload_n 1, 1) := by decide +kernel
theorem dX6_lightOf_23 : decode cX6_lightOf 23 = .ok (.iload_n 2, 1) := by decide +kernel
theorem dX6_lightOf_24 : decode cX6_lightOf 24 = .ok (.iload 5, 2) := by decide +kernel
theorem dX6_lightOf_26 : decode cX6_lightOf 26 = .ok (.invokevirtual 169, 3) := by decide +kernel
theorem dX6_lightOf_29 : decode cX6_lightOf 29 = .ok (.sipush 4096, 3) := by decide +kernel
theorem dX6_lightOf_32 : decode cX6_lightOf 32 = .ok (.istore 6, 2) := by decide +kernel
theorem dX6_lightOf_34 : decode cX6_lightOf 34 = .ok (.iconst 0, 1) := by decide +kernel
theorem dX6_lightOf_35 : decode cX6_lightOf 35 = .ok (.istore 7, 2) := by decide +kernel
theorem dX6_lightOf_37 : decode cX6_lightOf 37 = .ok (.iload 7, 2) := by decide +kernel
theorem dX6_lightOf_39 : decode cX6_lightOf 39 = .ok (.aload_n 0, 1) := by decide +kernel
theorem dX6_lightOf_40 : decode cX6_lightOf 40 = .ok (.getfield 97, 3) := by decide +kernel
theorem dX6_lightOf_43 : decode cX6_lightOf 43 = .ok (.if_icmp .ge 106, 3) := by decide +kernel
theorem dX6_lightOf_46 : decode cX6_lightOf 46 = .ok (.iload 6, 2) := by decide +kernel
theorem dX6_lightOf_48 : decode cX6_lightOf 48 = .ok (.ifCond .le 101, 3) := by decide +kernel
theorem dX6_lightOf_51 : decode cX6_lightOf 51 = .ok (.aload_n 0, 1) := by decide +kernel
theorem dX6_lightOf_52 : decode cX6_lightOf 52 = .ok (.getfield 29, 3) := by decide +kernel
theorem dX6_lightOf_55 : decode cX6_lightOf 55 = .ok (.iload 7, 2) := by decide +kernel
theorem dX6_lightOf_57 : decode cX6_lightOf 57 = .ok (.iaload, 1) := by decide +kernel
theorem dX6_lightOf_58 : decode cX6_lightOf 58 = .ok (.iconst 2, 1) := by decide +kernel
theorem dX6_lightOf_59 : decode cX6_lightOf 59 = .ok (.if_icmp .eq 84, 3) := by decide +kernel
theorem dX6_lightOf_62 : decode cX6_lightOf 62 = .ok (.aload_n 0, 1) := by decide +kernel
theorem dX6_lightOf_63 : decode cX6_lightOf 63 = .ok (.iload 7, 2) := by decide +kernel
theorem dX6_lightOf_65 : decode cX6_lightOf 65 = .ok (.invokevirtual 173, 3) := by decide +kernel
theorem dX6_lightOf_68 : decode cX6_lightOf 68 = .ok (.ifCond .eq 75, 3) := by decide +kernel
theorem dX6_lightOf_71 : decode cX6_lightOf 71 = .ok (.aload_n 0, 1) := by decide +kernel
theorem dX6_lightOf_72 : decode cX6_lightOf 72 = .ok (.getfield 29, 3) := by decide +kernel
theorem dX6_lightOf_75 : decode cX6_lightOf 75 = .ok (.iload 7, 2) := by decide +kernel
theorem dX6_lightOf_77 : decode cX6_lightOf 77 = .ok (.iaload, 1) := by decide +kernel
theorem dX6_lightOf_78 : decode cX6_lightOf 78 = .ok (.iconst 1, 1) := by decide +kernel
theorem dX6_lightOf_79 : decode cX6_lightOf 79 = .ok (.if_icmp .ne 20, 3) := by decide +kernel
theorem dX6_lightOf_82 : decode cX6_lightOf 82 = .ok (.aload_n 0, 1) := by decide +kernel
theorem dX6_lightOf_83 : decode cX6_lightOf 83 = .ok (.getfield 53, 3) := by decide +kernel
theorem dX6_lightOf_86 : decode cX6_lightOf 86 = .ok (.bipush 8, 2) := by decide +kernel
theorem dX6_lightOf_88 : decode cX6_lightOf 88 = .ok (.iload 7, 2) := by decide +kernel
theorem dX6_lightOf_90 : decode cX6_lightOf 90 = .ok (.imul, 1) := by decide +kernel
theorem dX6_lightOf_91 : decode cX6_lightOf 91 = .ok (.iload_n 3, 1) := by decide +kernel
theorem dX6_lightOf_92 : decode cX6_lightOf 92 = .ok (.iadd, 1) := by decide +kernel
theorem dX6_lightOf_93 : decode cX6_lightOf 93 = .ok (.iaload, 1) := by decide +kernel
theorem dX6_lightOf_94 : decode cX6_lightOf 94 = .ok (.bipush 8, 2) := by decide +kernel
theorem dX6_lightOf_96 : decode cX6_lightOf 96 = .ok (.if_icmp .ge 47, 3) := by decide +kernel
theorem dX6_lightOf_99 : decode cX6_lightOf 99 = .ok (.aload_n 0, 1) := by decide +kernel
theorem dX6_lightOf_100 : decode cX6_lightOf 100 = .ok (.iload 7, 2) := by decide +kernel
theorem dX6_lightOf_102 : decode cX6_lightOf 102 = .ok (.invokevirtual 176, 3) := by decide +kernel
theorem dX6_lightOf_105 : decode cX6_lightOf 105 = .ok (.ifCond .eq 38, 3) := by decide +kernel
theorem dX6_lightOf_108 : decode cX6_lightOf 108 = .ok (.aload_n 0, 1) := by decide +kernel
theorem dX6_lightOf_109 : decode cX6_lightOf 109 = .ok (.getfield 29, 3) := by decide +kernel
theorem dX6_lightOf_112 : decode cX6_lightOf 112 = .ok (.iload 7, 2) := by decide +kernel
theorem dX6_lightOf_114 : decode cX6_lightOf 114 = .ok (.iaload, 1) := by decide +kernel
theorem dX6_lightOf_115 : decode cX6_lightOf 115 = .ok (.iconst 1, 1) := by decide +kernel
theorem dX6_lightOf_116 : decode cX6_lightOf 116 = .ok (.if_icmp .ne 24, 3) := by decide +kernel
theorem dX6_lightOf_119 : decode cX6_lightOf 119 = .ok (.iload 6, 2) := by decide +kernel
theorem dX6_lightOf_121 : decode cX6_lightOf 121 = .ok (.aload_n 0, 1) := by decide +kernel
theorem dX6_lightOf_122 : decode cX6_lightOf 122 = .ok (.getfield 53, 3) := by decide +kernel
theorem dX6_lightOf_125 : decode cX6_lightOf 125 = .ok (.bipush 8, 2) := by decide +kernel
theorem dX6_lightOf_127 : decode cX6_lightOf 127 = .ok (.iload 7, 2) := by decide +kernel
theorem dX6_lightOf_129 : decode cX6_lightOf 129 = .ok (.imul, 1) := by decide +kernel
theorem dX6_lightOf_130 : decode cX6_lightOf 130 = .ok (.iload_n 3, 1) := by decide +kernel
theorem dX6_lightOf_131 : decode cX6_lightOf 131 = .ok (.iadd, 1) := by decide +kernel
theorem dX6_lightOf_132 : decode cX6_lightOf 132 = .ok (.iaload, 1) := by decide +kernel
theorem dX6_lightOf_133 : decode cX6_lightOf 133 = .ok (.imul, 1) := by decide +kernel
theorem dX6_lightOf_134 : decode cX6_lightOf 134 = .ok (.bipush 8, 2) := by decide +kernel
theorem dX6_lightOf_136 : decode cX6_lightOf 136 = .ok (.idiv, 1) := by decide +kernel
theorem dX6_lightOf_137 : decode cX6_lightOf 137 = .ok (.goto 4, 3) := by decide +kernel
theorem dX6_lightOf_140 : decode cX6_lightOf 140 = .ok (.iconst 0, 1) := by decide +kernel
theorem dX6_lightOf_141 : decode cX6_lightOf 141 = .ok (.istore 6, 2) := by decide +kernel
theorem dX6_lightOf_143 : decode cX6_lightOf 143 = .ok (.iinc 7 1, 3) := by decide +kernel
theorem dX6_lightOf_146 : decode cX6_lightOf 146 = .ok (.goto (-109), 3) := by decide +kernel
theorem dX6_lightOf_149 : decode cX6_lightOf 149 = .ok (.iload 6, 2) := by decide +kernel
theorem dX6_lightOf_151 : decode cX6_lightOf 151 = .ok (.ireturn, 1) := by decide +kernel
theorem dX6_sunOf_0 : decode cX6_sunOf 0 = .ok (.iconst 0, 1) := by decide +kernel
theorem dX6_sunOf_1 : decode cX6_sunOf 1 = .ok (.istore 4, 2) := by decide +kernel
theorem dX6_sunOf_3 : decode cX6_sunOf 3 = .ok (.iconst 0, 1) := by decide +kernel
theorem dX6_sunOf_4 : decode cX6_sunOf 4 = .ok (.istore 5, 2) := by decide +kernel
theorem dX6_sunOf_6 : decode cX6_sunOf 6 = .ok (.iload 5, 2) := by decide +kernel
theorem dX6_sunOf_8 : decode cX6_sunOf 8 = .ok (.aload_n 0, 1) := by decide +kernel
theorem dX6_sunOf_9 : decode cX6_sunOf 9 = .ok (.iload_n 1, 1) := by decide +kernel
theorem dX6_sunOf_10 : decode cX6_sunOf 10 = .ok (.invokevirtual 179, 3) := by decide +kernel
theorem dX6_sunOf_13 : decode cX6_sunOf 13 = .ok (.if_icmp .ge 37, 3) := by decide +kernel
theorem dX6_sunOf_16 : decode cX6_sunOf 16 = .ok (.aload_n 0, 1) := by decide +kernel
theorem dX6_sunOf_17 : decode cX6_sunOf 17 = .ok (.iload_n 1, 1) := by decide +kernel
theorem dX6_sunOf_18 : decode cX6_sunOf 18 = .ok (.bipush 24, 2) := by decide +kernel
theorem dX6_sunOf_20 : decode cX6_sunOf 20 = .ok (.iload_n 2, 1) := by decide +kernel
theorem dX6_sunOf_21 : decode cX6_sunOf 21 = .ok (.imul, 1) := by decide +kernel
theorem dX6_sunOf_22 : decode cX6_sunOf 22 = .ok (.iload_n 3, 1) := by decide +kernel
theorem dX6_sunOf_23 : decode cX6_sunOf 23 = .ok (.iadd, 1) := by decide +kernel
theorem dX6_sunOf_24 : decode cX6_sunOf 24 = .ok (.invokevirtual 165, 3) := by decide +kernel
theorem dX6_sunOf_27 : decode cX6_sunOf 27 = .ok (.ifCond .eq 23, 3) := by decide +kernel
theorem dX6_sunOf_30 : decode cX6_sunOf 30 = .ok (.iload 4, 2) := by decide +kernel
theorem dX6_sunOf_32 : decode cX6_sunOf 32 = .ok (.aload_n 0, 1) := by decide +kernel
theorem dX6_sunOf_33 : decode cX6_sunOf 33 = .ok (.iload_n 1, 1) := by decide +kernel
theorem dX6_sunOf_34 : decode cX6_sunOf 34 = .ok (.iload 5, 2) := by decide +kernel
theorem dX6_sunOf_36 : decode cX6_sunOf 36 = .ok (.iload_n 2, 1) := by decide +kernel
theorem dX6_sunOf_37 : decode cX6_sunOf 37 = .ok (.iload_n 3, 1) := by decide +kernel
theorem dX6_sunOf_38 : decode cX6_sunOf 38 = .ok (.invokevirtual 182, 3) := by decide +kernel
theorem dX6_sunOf_41 : decode cX6_sunOf 41 = .ok (.iadd, 1) := by decide +kernel
theorem dX6_sunOf_42 : decode cX6_sunOf 42 = .ok (.istore 4, 2) := by decide +kernel
theorem dX6_sunOf_44 : decode cX6_sunOf 44 = .ok (.iinc 5 1, 3) := by decide +kernel
theorem dX6_sunOf_47 : decode cX6_sunOf 47 = .ok (.goto (-41), 3) := by decide +kernel
theorem dX6_sunOf_50 : decode cX6_sunOf 50 = .ok (.iload 4, 2) := by decide +kernel
theorem dX6_sunOf_52 : decode cX6_sunOf 52 = .ok (.ireturn, 1) := by decide +kernel
theorem dX6_hoursOf_0 : decode cX6_hoursOf 0 = .ok (.iconst 0, 1) := by decide +kernel
theorem dX6_hoursOf_1 : decode cX6_hoursOf 1 = .ok (.istore_n 3, 1) := by decide +kernel
theorem dX6_hoursOf_2 : decode cX6_hoursOf 2 = .ok (.iconst 0, 1) := by decide +kernel
theorem dX6_hoursOf_3 : decode cX6_hoursOf 3 = .ok (.istore 4, 2) := by decide +kernel
theorem dX6_hoursOf_5 : decode cX6_hoursOf 5 = .ok (.iload 4, 2) := by decide +kernel
theorem dX6_hoursOf_7 : decode cX6_hoursOf 7 = .ok (.aload_n 0, 1) := by decide +kernel
theorem dX6_hoursOf_8 : decode cX6_hoursOf 8 = .ok (.getfield 7, 3) := by decide +kernel
theorem dX6_hoursOf_11 : decode cX6_hoursOf 11 = .ok (.iload_n 2, 1) := by decide +kernel
theorem dX6_hoursOf_12 : decode cX6_hoursOf 12 = .ok (.iaload, 1) := by decide +kernel
theorem dX6_hoursOf_13 : decode cX6_hoursOf 13 = .ok (.if_icmp .ge 45, 3) := by decide +kernel
theorem dX6_hoursOf_16 : decode cX6_hoursOf 16 = .ok (.iload_n 3, 1) := by decide +kernel
theorem dX6_hoursOf_17 : decode cX6_hoursOf 17 = .ok (.bipush 8, 2) := by decide +kernel
theorem dX6_hoursOf_19 : decode cX6_hoursOf 19 = .ok (.aload_n 0, 1) := by decide +kernel
theorem dX6_hoursOf_20 : decode cX6_hoursOf 20 = .ok (.iload_n 1, 1) := by decide +kernel
theorem dX6_hoursOf_21 : decode cX6_hoursOf 21 = .ok (.iload_n 2, 1) := by decide +kernel
theorem dX6_hoursOf_22 : decode cX6_hoursOf 22 = .ok (.iload 4, 2) := by decide +kernel
theorem dX6_hoursOf_24 : decode cX6_hoursOf 24 = .ok (.invokevirtual 186, 3) := by decide +kernel
theorem dX6_hoursOf_27 : decode cX6_hoursOf 27 = .ok (.imul, 1) := by decide +kernel
theorem dX6_hoursOf_28 : decode cX6_hoursOf 28 = .ok (.aload_n 0, 1) := by decide +kernel
theorem dX6_hoursOf_29 : decode cX6_hoursOf 29 = .ok (.getfield 25, 3) := by decide +kernel
theorem dX6_hoursOf_32 : decode cX6_hoursOf 32 = .ok (.sipush 4096, 3) := by decide +kernel
theorem dX6_hoursOf_35 : decode cX6_hoursOf 35 = .ok (.imul, 1) := by decide +kernel
theorem dX6_hoursOf_36 : decode cX6_hoursOf 36 = .ok (.aload_n 0, 1) := by decide +kernel
theorem dX6_hoursOf_37 : decode cX6_hoursOf 37 = .ok (.iload_n 1, 1) := by decide +kernel
theorem dX6_hoursOf_38 : decode cX6_hoursOf 38 = .ok (.invokevirtual 179, 3) := by decide +kernel
theorem dX6_hoursOf_41 : decode cX6_hoursOf 41 = .ok (.imul, 1) := by decide +kernel
theorem dX6_hoursOf_42 : decode cX6_hoursOf 42 = .ok (.if_icmp .lt 7, 3) := by decide +kernel
theorem dX6_hoursOf_45 : decode cX6_hoursOf 45 = .ok (.iconst 1, 1) := by decide +kernel
theorem dX6_hoursOf_46 : decode cX6_hoursOf 46 = .ok (.goto 4, 3) := by decide +kernel
theorem dX6_hoursOf_49 : decode cX6_hoursOf 49 = .ok (.iconst 0, 1) := by decide +kernel
theorem dX6_hoursOf_50 : decode cX6_hoursOf 50 = .ok (.iadd, 1) := by decide +kernel
theorem dX6_hoursOf_51 : decode cX6_hoursOf 51 = .ok (.istore_n 3, 1) := by decide +kernel
theorem dX6_hoursOf_52 : decode cX6_hoursOf 52 = .ok (.iinc 4 1, 3) := by decide +kernel
theorem dX6_hoursOf_55 : decode cX6_hoursOf 55 = .ok (.goto (-50), 3) := by decide +kernel
theorem dX6_hoursOf_58 : decode cX6_hoursOf 58 = .ok (.iload_n 3, 1) := by decide +kernel
theorem dX6_hoursOf_59 : decode cX6_hoursOf 59 = .ok (.ireturn, 1) := by decide +kernel
theorem dX6_fallsOn_0 : decode cX6_fallsOn 0 = .ok (.iconst 0, 1) := by decide +kernel
theorem dX6_fallsOn_1 : decode cX6_fallsOn 1 = .ok (.istore_n 2, 1) := by decide +kernel
theorem dX6_fallsOn_2 : decode cX6_fallsOn 2 = .ok (.iload_n 2, 1) := by decide +kernel
theorem dX6_fallsOn_3 : decode cX6_fallsOn 3 = .ok (.bipush 8, 2) := by decide +kernel
theorem dX6_fallsOn_5 : decode cX6_fallsOn 5 = .ok (.if_icmp .ge 35, 3) := by decide +kernel
theorem dX6_fallsOn_8 : decode cX6_fallsOn 8 = .ok (.aload_n 0, 1) := by decide +kernel
theorem dX6_fallsOn_9 : decode cX6_fallsOn 9 = .ok (.getfield 22, 3) := by decide +kernel
theorem dX6_fallsOn_12 : decode cX6_fallsOn 12 = .ok (.iload_n 2, 1) := by decide +kernel
theorem dX6_fallsOn_13 : decode cX6_fallsOn 13 = .ok (.iaload, 1) := by decide +kernel
theorem dX6_fallsOn_14 : decode cX6_fallsOn 14 = .ok (.ifCond .le 20, 3) := by decide +kernel
theorem dX6_fallsOn_17 : decode cX6_fallsOn 17 = .ok (.aload_n 0, 1) := by decide +kernel
theorem dX6_fallsOn_18 : decode cX6_fallsOn 18 = .ok (.iload_n 1, 1) := by decide +kernel
theorem dX6_fallsOn_19 : decode cX6_fallsOn 19 = .ok (.iload_n 2, 1) := by decide +kernel
theorem dX6_fallsOn_20 : decode cX6_fallsOn 20 = .ok (.invokevirtual 190, 3) := by decide +kernel
theorem dX6_fallsOn_23 : decode cX6_fallsOn 23 = .ok (.aload_n 0, 1) := by decide +kernel
theorem dX6_fallsOn_24 : decode cX6_fallsOn 24 = .ok (.getfield 22, 3) := by decide +kernel
theorem dX6_fallsOn_27 : decode cX6_fallsOn 27 = .ok (.iload_n 2, 1) := by decide +kernel
theorem dX6_fallsOn_28 : decode cX6_fallsOn 28 = .ok (.iaload, 1) := by decide +kernel
theorem dX6_fallsOn_29 : decode cX6_fallsOn 29 = .ok (.if_icmp .ge 5, 3) := by decide +kernel
theorem dX6_fallsOn_32 : decode cX6_fallsOn 32 = .ok (.iload_n 2, 1) := by decide +kernel
theorem dX6_fallsOn_33 : decode cX6_fallsOn 33 = .ok (.ireturn, 1) := by decide +kernel
theorem dX6_fallsOn_34 : decode cX6_fallsOn 34 = .ok (.iinc 2 1, 3) := by decide +kernel
theorem dX6_fallsOn_37 : decode cX6_fallsOn 37 = .ok (.goto (-35), 3) := by decide +kernel
theorem dX6_fallsOn_40 : decode cX6_fallsOn 40 = .ok (.bipush (-9), 2) := by decide +kernel
theorem dX6_fallsOn_42 : decode cX6_fallsOn 42 = .ok (.ireturn, 1) := by decide +kernel
theorem dX6_sun_0 : decode cX6_sun 0 = .ok (.aload_n 0, 1) := by decide +kernel
theorem dX6_sun_1 : decode cX6_sun 1 = .ok (.iload_n 1, 1) := by decide +kernel
theorem dX6_sun_2 : decode cX6_sun 2 = .ok (.invokevirtual 194, 3) := by decide +kernel
theorem dX6_sun_5 : decode cX6_sun 5 = .ok (.ifCond .eq 22, 3) := by decide +kernel
theorem dX6_sun_8 : decode cX6_sun 8 = .ok (.aload_n 0, 1) := by decide +kernel
theorem dX6_sun_9 : decode cX6_sun 9 = .ok (.iload_n 2, 1) := by decide +kernel
theorem dX6_sun_10 : decode cX6_sun 10 = .ok (.iload_n 3, 1) := by decide +kernel
theorem dX6_sun_11 : decode cX6_sun 11 = .ok (.invokevirtual 197, 3) := by decide +kernel
theorem dX6_sun_14 : decode cX6_sun 14 = .ok (.ifCond .eq 13, 3) := by decide +kernel
theorem dX6_sun_17 : decode cX6_sun 17 = .ok (.aload_n 0, 1) := by decide +kernel
theorem dX6_sun_18 : decode cX6_sun 18 = .ok (.iload_n 1, 1) := by decide +kernel
theorem dX6_sun_19 : decode cX6_sun 19 = .ok (.iload_n 2, 1) := by decide +kernel
theorem dX6_sun_20 : decode cX6_sun 20 = .ok (.iload_n 3, 1) := by decide +kernel
theorem dX6_sun_21 : decode cX6_sun 21 = .ok (.invokevirtual 186, 3) := by decide +kernel
theorem dX6_sun_24 : decode cX6_sun 24 = .ok (.goto 8, 3) := by decide +kernel
theorem dX6_sun_27 : decode cX6_sun 27 = .ok (.aload_n 0, 1) := by decide +kernel
theorem dX6_sun_28 : decode cX6_sun 28 = .ok (.iconst (-1), 1) := by decide +kernel
theorem dX6_sun_29 : decode cX6_sun 29 = .ok (.invokevirtual 111, 3) := by decide +kernel
theorem dX6_sun_32 : decode cX6_sun 32 = .ok (.ireturn, 1) := by decide +kernel
theorem dX6_light_0 : decode cX6_light 0 = .ok (.aload_n 0, 1) := by decide +kernel
theorem dX6_light_1 : decode cX6_light 1 = .ok (.iload_n 1, 1) := by decide +kernel
theorem dX6_light_2 : decode cX6_light 2 = .ok (.invokevirtual 194, 3) := by decide +kernel
theorem dX6_light_5 : decode cX6_light 5 = .ok (.ifCond .eq 40, 3) := by decide +kernel
theorem dX6_light_8 : decode cX6_light 8 = .ok (.iload_n 2, 1) := by decide +kernel
theorem dX6_light_9 : decode cX6_light 9 = .ok (.iconst 0, 1) := by decide +kernel
theorem dX6_light_10 : decode cX6_light 10 = .ok (.aload_n 0, 1) := by decide +kernel
theorem dX6_light_11 : decode cX6_light 11 = .ok (.iload_n 1, 1) := by decide +kernel
theorem dX6_light_12 : decode cX6_light 12 = .ok (.invokevirtual 179, 3) := by decide +kernel
theorem dX6_light_15 : decode cX6_light 15 = .ok (.iconst 1, 1) := by decide +kernel
theorem dX6_light_16 : decode cX6_light 16 = .ok (.isub, 1) := by decide +kernel
theorem dX6_light_17 : decode cX6_light 17 = .ok (.invokestatic 100, 3) := by decide +kernel
theorem dX6_light_20 : decode cX6_light 20 = .ok (.ifCond .eq 25, 3) := by decide +kernel
theorem dX6_light_23 : decode cX6_light 23 = .ok (.aload_n 0, 1) := by decide +kernel
theorem dX6_light_24 : decode cX6_light 24 = .ok (.iload_n 3, 1) := by decide +kernel
theorem dX6_light_25 : decode cX6_light 25 = .ok (.iload 4, 2) := by decide +kernel
theorem dX6_light_27 : decode cX6_light 27 = .ok (.invokevirtual 197, 3) := by decide +kernel
theorem dX6_light_30 : decode cX6_light 30 = .ok (.ifCond .eq 15, 3) := by decide +kernel
theorem dX6_light_33 : decode cX6_light 33 = .ok (.aload_n 0, 1) := by decide +kernel
theorem dX6_light_34 : decode cX6_light 34 = .ok (.iload_n 1, 1) := by decide +kernel
theorem dX6_light_35 : decode cX6_light 35 = .ok (.iload_n 2, 1) := by decide +kernel
theorem dX6_light_36 : decode cX6_light 36 = .ok (.iload_n 3, 1) := by decide +kernel
theorem dX6_light_37 : decode cX6_light 37 = .ok (.iload 4, 2) := by decide +kernel
theorem dX6_light_39 : decode cX6_light 39 = .ok (.invokevirtual 182, 3) := by decide +kernel
theorem dX6_light_42 : decode cX6_light 42 = .ok (.goto 8, 3) := by decide +kernel
theorem dX6_light_45 : decode cX6_light 45 = .ok (.aload_n 0, 1) := by decide +kernel
theorem dX6_light_46 : decode cX6_light 46 = .ok (.iconst (-1), 1) := by decide +kernel
theorem dX6_light_47 : decode cX6_light 47 = .ok (.invokevirtual 111, 3) := by decide +kernel
theorem dX6_light_50 : decode cX6_light 50 = .ok (.ireturn, 1) := by decide +kernel
theorem dX6_takerOf_0 : decode cX6_takerOf 0 = .ok (.aload_n 0, 1) := by decide +kernel
theorem dX6_takerOf_1 : decode cX6_takerOf 1 = .ok (.iload_n 1, 1) := by decide +kernel
theorem dX6_takerOf_2 : decode cX6_takerOf 2 = .ok (.bipush 24, 2) := by decide +kernel
theorem dX6_takerOf_4 : decode cX6_takerOf 4 = .ok (.iload_n 3, 1) := by decide +kernel
theorem dX6_takerOf_5 : decode cX6_takerOf 5 = .ok (.imul, 1) := by decide +kernel
theorem dX6_takerOf_6 : decode cX6_takerOf 6 = .ok (.iload 4, 2) := by decide +kernel
theorem dX6_takerOf_8 : decode cX6_takerOf 8 = .ok (.iadd, 1) := by decide +kernel
theorem dX6_takerOf_9 : decode cX6_takerOf 9 = .ok (.invokevirtual 165, 3) := by decide +kernel
theorem dX6_takerOf_12 : decode cX6_takerOf 12 = .ok (.ifCond .ne 6, 3) := by decide +kernel
theorem dX6_takerOf_15 : decode cX6_takerOf 15 = .ok (.bipush (-8), 2) := by decide +kernel
theorem dX6_takerOf_17 : decode cX6_takerOf 17 = .ok (.ireturn, 1) := by decide +kernel
theorem dX6_takerOf_18 : decode cX6_takerOf 18 = .ok (.aload_n 0, 1) := by decide +kernel
theorem dX6_takerOf_19 : decode cX6_takerOf 19 = .ok (.iload_n 1, 1) := by decide +kernel
theorem dX6_takerOf_20 : decode cX6_takerOf 20 = .ok (.iload_n 2, 1) := by decide +kernel
theorem dX6_takerOf_21 : decode cX6_takerOf 21 = .ok (.bipush 24, 2) := by decide +kernel
theorem dX6_takerOf_23 : decode cX6_takerOf 23 = .ok (.iload_n 3, 1) := by decide +kernel
theorem dX6_takerOf_24 : decode cX6_takerOf 24 = .ok (.imul, 1) := by decide +kernel
theorem dX6_takerOf_25 : decode cX6_takerOf 25 = .ok (.iload 4, 2) := by decide +kernel
theorem dX6_takerOf_27 : decode cX6_takerOf 27 = .ok (.iadd, 1) := by decide +kernel
theorem dX6_takerOf_28 : decode cX6_takerOf 28 = .ok (.invokevirtual 169, 3) := by decide +kernel
theorem dX6_takerOf_31 : decode cX6_takerOf 31 = .ok (.bipush (-9), 2) := by decide +kernel
theorem dX6_takerOf_33 : decode cX6_takerOf 33 = .ok (.istore 5, 2) := by decide +kernel
theorem dX6_takerOf_35 : decode cX6_takerOf 35 = .ok (.iconst 0, 1) := by decide +kernel
theorem dX6_takerOf_36 : decode cX6_takerOf 36 = .ok (.istore 6, 2) := by decide +kernel
theorem dX6_takerOf_38 : decode cX6_takerOf 38 = .ok (.iconst 1, 1) := by decide +kernel
theorem dX6_takerOf_39 : decode cX6_takerOf 39 = .ok (.istore 7, 2) := by decide +kernel
theorem dX6_takerOf_41 : decode cX6_takerOf 41 = .ok (.iconst 0, 1) := by decide +kernel
theorem dX6_takerOf_42 : decode cX6_takerOf 42 = .ok (.istore 8, 2) := by decide +kernel
theorem dX6_takerOf_44 : decode cX6_takerOf 44 = .ok (.iload 8, 2) := by decide +kernel
theorem dX6_takerOf_46 : decode cX6_takerOf 46 = .ok (.aload_n 0, 1) := by decide +kernel
theorem dX6_takerOf_47 : decode cX6_takerOf 47 = .ok (.getfield 97, 3) := by decide +kernel
theorem dX6_takerOf_50 : decode cX6_takerOf 50 = .ok (.if_icmp .ge 118, 3) := by decide +kernel
theorem dX6_takerOf_53 : decode cX6_takerOf 53 = .ok (.aload_n 0, 1) := by decide +kernel
theorem dX6_takerOf_54 : decode cX6_takerOf 54 = .ok (.getfield 29, 3) := by decide +kernel
theorem dX6_takerOf_57 : decode cX6_takerOf 57 = .ok (.iload 8, 2) := by decide +kernel
theorem dX6_takerOf_59 : decode cX6_takerOf 59 = .ok (.iaload, 1) := by decide +kernel
theorem dX6_takerOf_60 : decode cX6_takerOf 60 = .ok (.iconst 2, 1) := by decide +kernel
theorem dX6_takerOf_61 : decode cX6_takerOf 61 = .ok (.if_icmp .eq 31, 3) := by decide +kernel
theorem dX6_takerOf_64 : decode cX6_takerOf 64 = .ok (.aload_n 0, 1) := by decide +kernel
theorem dX6_takerOf_65 : decode cX6_takerOf 65 = .ok (.getfield 29, 3) := by decide +kernel
theorem dX6_takerOf_68 : decode cX6_takerOf 68 = .ok (.iload 8, 2) := by decide +kernel
theorem dX6_takerOf_70 : decode cX6_takerOf 70 = .ok (.iaload, 1) := by decide +kernel
theorem dX6_takerOf_71 : decode cX6_takerOf 71 = .ok (.iconst 1, 1) := by decide +kernel
theorem dX6_takerOf_72 : decode cX6_takerOf 72 = .ok (.if_icmp .ne 24, 3) := by decide +kernel
theorem dX6_takerOf_75 : decode cX6_takerOf 75 = .ok (.aload_n 0, 1) := by decide +kernel
theorem dX6_takerOf_76 : decode cX6_takerOf 76 = .ok (.getfield 53, 3) := by decide +kernel
theorem dX6_takerOf_79 : decode cX6_takerOf 79 = .ok (.bipush 8, 2) := by decide +kernel
theorem dX6_takerOf_81 : decode cX6_takerOf 81 = .ok (.iload 8, 2) := by decide +kernel
theorem dX6_takerOf_83 : decode cX6_takerOf 83 = .ok (.imul, 1) := by decide +kernel
theorem dX6_takerOf_84 : decode cX6_takerOf 84 = .ok (.iload_n 3, 1) := by decide +kernel
theorem dX6_takerOf_85 : decode cX6_takerOf 85 = .ok (.iadd, 1) := by decide +kernel
theorem dX6_takerOf_86 : decode cX6_takerOf 86 = .ok (.iaload, 1) := by decide +kernel
theorem dX6_takerOf_87 : decode cX6_takerOf 87 = .ok (.bipush 8, 2) := by decide +kernel
theorem dX6_takerOf_89 : decode cX6_takerOf 89 = .ok (.if_icmp .ne 7, 3) := by decide +kernel
theorem dX6_takerOf_92 : decode cX6_takerOf 92 = .ok (.iconst 1, 1) := by decide +kernel
theorem dX6_takerOf_93 : decode cX6_takerOf 93 = .ok (.goto 4, 3) := by decide +kernel
theorem dX6_takerOf_96 : decode cX6_takerOf 96 = .ok (.iconst 0, 1) := by decide +kernel
theorem dX6_takerOf_97 : decode cX6_takerOf 97 = .ok (.istore 9, 2) := by decide +kernel
theorem dX6_takerOf_99 : decode cX6_takerOf 99 = .ok (.iload 9, 2) := by decide +kernel
theorem dX6_takerOf_101 : decode cX6_takerOf 101 = .ok (.ifCond .ne 61, 3) := by decide +kernel
theorem dX6_takerOf_104 : decode cX6_takerOf 104 = .ok (.aload_n 0, 1) := by decide +kernel
theorem dX6_takerOf_105 : decode cX6_takerOf 105 = .ok (.iload 8, 2) := by decide +kernel
theorem dX6_takerOf_107 : decode cX6_takerOf 107 = .ok (.invokevirtual 173, 3) := by decide +kernel
theorem dX6_takerOf_110 : decode cX6_takerOf 110 = .ok (.ifCond .eq 52, 3) := by decide +kernel
theorem dX6_takerOf_113 : decode cX6_takerOf 113 = .ok (.aload_n 0, 1) := by decide +kernel
theorem dX6_takerOf_114 : decode cX6_takerOf 114 = .ok (.iload 8, 2) := by decide +kernel
theorem dX6_takerOf_116 : decode cX6_takerOf 116 = .ok (.invokevirtual 176, 3) := by decide +kernel
theorem dX6_takerOf_119 : decode cX6_takerOf 119 = .ok (.ifCond .eq 43, 3) := by decide +kernel
theorem dX6_takerOf_122 : decode cX6_takerOf 122 = .ok (.iload 5, 2) := by decide +kernel
theorem dX6_takerOf_124 : decode cX6_takerOf 124 = .ok (.bipush (-9), 2) := by decide +kernel
theorem dX6_takerOf_126 : decode cX6_takerOf 126 = .ok (.if_icmp .eq 20, 3) := by decide +kernel
theorem dX6_takerOf_129 : decode cX6_takerOf 129 = .ok (.aload_n 0, 1) := by decide +kernel
theorem dX6_takerOf_130 : decode cX6_takerOf 130 = .ok (.getfield 149, 3) := by decide +kernel
theorem dX6_takerOf_133 : decode cX6_takerOf 133 = .ok (.iload 7, 2) := by decide +kernel
theorem dX6_takerOf_135 : decode cX6_takerOf 135 = .ok (.imul, 1) := by decide +kernel
theorem dX6_takerOf_136 : decode cX6_takerOf 136 = .ok (.iload 6, 2) := by decide +kernel
theorem dX6_takerOf_138 : decode cX6_takerOf 138 = .ok (.aload_n 0, 1) := by decide +kernel
theorem dX6_takerOf_139 : decode cX6_takerOf 139 = .ok (.getfield 146, 3) := by decide +kernel
theorem dX6_takerOf_142 : decode cX6_takerOf 142 = .ok (.imul, 1) := by decide +kernel
theorem dX6_takerOf_143 : decode cX6_takerOf 143 = .ok (.if_icmp .ge 19, 3) := by decide +kernel
theorem dX6_takerOf_146 : decode cX6_takerOf 146 = .ok (.iload 8, 2) := by decide +kernel
theorem dX6_takerOf_148 : decode cX6_takerOf 148 = .ok (.istore 5, 2) := by decide +kernel
theorem dX6_takerOf_150 : decode cX6_takerOf 150 = .ok (.aload_n 0, 1) := by decide +kernel
theorem dX6_takerOf_151 : decode cX6_takerOf 151 = .ok (.getfield 149, 3) := by decide +kernel
theorem dX6_takerOf_154 : decode cX6_takerOf 154 = .ok (.istore 6, 2) := by decide +kernel
theorem dX6_takerOf_156 : decode cX6_takerOf 156 = .ok (.aload_n 0, 1) := by decide +kernel
theorem dX6_takerOf_157 : decode cX6_takerOf 157 = .ok (.getfield 146, 3) := by decide +kernel
theorem dX6_takerOf_160 : decode cX6_takerOf 160 = .ok (.istore 7, 2) := by decide +kernel
theorem dX6_takerOf_162 : decode cX6_takerOf 162 = .ok (.iinc 8 1, 3) := by decide +kernel
theorem dX6_takerOf_165 : decode cX6_takerOf 165 = .ok (.goto (-121), 3) := by decide +kernel
theorem dX6_takerOf_168 : decode cX6_takerOf 168 = .ok (.iload 5, 2) := by decide +kernel
theorem dX6_takerOf_170 : decode cX6_takerOf 170 = .ok (.ireturn, 1) := by decide +kernel
theorem dX6_taker_0 : decode cX6_taker 0 = .ok (.aload_n 0, 1) := by decide +kernel
theorem dX6_taker_1 : decode cX6_taker 1 = .ok (.iload_n 1, 1) := by decide +kernel
theorem dX6_taker_2 : decode cX6_taker 2 = .ok (.invokevirtual 194, 3) := by decide +kernel
theorem dX6_taker_5 : decode cX6_taker 5 = .ok (.ifCond .eq 40, 3) := by decide +kernel
theorem dX6_taker_8 : decode cX6_taker 8 = .ok (.iload_n 2, 1) := by decide +kernel
theorem dX6_taker_9 : decode cX6_taker 9 = .ok (.iconst 0, 1) := by decide +kernel
theorem dX6_taker_10 : decode cX6_taker 10 = .ok (.aload_n 0, 1) := by decide +kernel
theorem dX6_taker_11 : decode cX6_taker 11 = .ok (.iload_n 1, 1) := by decide +kernel
theorem dX6_taker_12 : decode cX6_taker 12 = .ok (.invokevirtual 179, 3) := by decide +kernel
theorem dX6_taker_15 : decode cX6_taker 15 = .ok (.iconst 1, 1) := by decide +kernel
theorem dX6_taker_16 : decode cX6_taker 16 = .ok (.isub, 1) := by decide +kernel
theorem dX6_taker_17 : decode cX6_taker 17 = .ok (.invokestatic 100, 3) := by decide +kernel
theorem dX6_taker_20 : decode cX6_taker 20 = .ok (.ifCond .eq 25, 3) := by decide +kernel
theorem dX6_taker_23 : decode cX6_taker 23 = .ok (.aload_n 0, 1) := by decide +kernel
theorem dX6_taker_24 : decode cX6_taker 24 = .ok (.iload_n 3, 1) := by decide +kernel
theorem dX6_taker_25 : decode cX6_taker 25 = .ok (.iload 4, 2) := by decide +kernel
theorem dX6_taker_27 : decode cX6_taker 27 = .ok (.invokevirtual 197, 3) := by decide +kernel
theorem dX6_taker_30 : decode cX6_taker 30 = .ok (.ifCond .eq 15, 3) := by decide +kernel
theorem dX6_taker_33 : decode cX6_taker 33 = .ok (.aload_n 0, 1) := by decide +kernel
theorem dX6_taker_34 : decode cX6_taker 34 = .ok (.iload_n 1, 1) := by decide +kernel
theorem dX6_taker_35 : decode cX6_taker 35 = .ok (.iload_n 2, 1) := by decide +kernel
theorem dX6_taker_36 : decode cX6_taker 36 = .ok (.iload_n 3, 1) := by decide +kernel
theorem dX6_taker_37 : decode cX6_taker 37 = .ok (.iload 4, 2) := by decide +kernel
theorem dX6_taker_39 : decode cX6_taker 39 = .ok (.invokevirtual 200, 3) := by decide +kernel
theorem dX6_taker_42 : decode cX6_taker 42 = .ok (.goto 8, 3) := by decide +kernel
theorem dX6_taker_45 : decode cX6_taker 45 = .ok (.aload_n 0, 1) := by decide +kernel
theorem dX6_taker_46 : decode cX6_taker 46 = .ok (.iconst (-1), 1) := by decide +kernel
theorem dX6_taker_47 : decode cX6_taker 47 = .ok (.invokevirtual 203, 3) := by decide +kernel
theorem dX6_taker_50 : decode cX6_taker 50 = .ok (.ireturn, 1) := by decide +kernel
theorem dX6_takes_0 : decode cX6_takes 0 = .ok (.aload_n 0, 1) := by decide +kernel
theorem dX6_takes_1 : decode cX6_takes 1 = .ok (.iload_n 1, 1) := by decide +kernel
theorem dX6_takes_2 : decode cX6_takes 2 = .ok (.invokevirtual 194, 3) := by decide +kernel
theorem dX6_takes_5 : decode cX6_takes 5 = .ok (.ifCond .eq 18, 3) := by decide +kernel
theorem dX6_takes_8 : decode cX6_takes 8 = .ok (.iload_n 2, 1) := by decide +kernel
theorem dX6_takes_9 : decode cX6_takes 9 = .ok (.invokestatic 107, 3) := by decide +kernel
theorem dX6_takes_12 : decode cX6_takes 12 = .ok (.ifCond .eq 11, 3) := by decide +kernel
theorem dX6_takes_15 : decode cX6_takes 15 = .ok (.aload_n 0, 1) := by decide +kernel
theorem dX6_takes_16 : decode cX6_takes 16 = .ok (.iload_n 3, 1) := by decide +kernel
theorem dX6_takes_17 : decode cX6_takes 17 = .ok (.invokevirtual 115, 3) := by decide +kernel
theorem dX6_takes_20 : decode cX6_takes 20 = .ok (.ifCond .ne 9, 3) := by decide +kernel
theorem dX6_takes_23 : decode cX6_takes 23 = .ok (.aload_n 0, 1) := by decide +kernel
theorem dX6_takes_24 : decode cX6_takes 24 = .ok (.iconst (-1), 1) := by decide +kernel
theorem dX6_takes_25 : decode cX6_takes 25 = .ok (.invokevirtual 111, 3) := by decide +kernel
theorem dX6_takes_28 : decode cX6_takes 28 = .ok (.ireturn, 1) := by decide +kernel
theorem dX6_takes_29 : decode cX6_takes 29 = .ok (.iconst 0, 1) := by decide +kernel
theorem dX6_takes_30 : decode cX6_takes 30 = .ok (.istore 4, 2) := by decide +kernel
theorem dX6_takes_32 : decode cX6_takes 32 = .ok (.iconst 0, 1) := by decide +kernel
theorem dX6_takes_33 : decode cX6_takes 33 = .ok (.istore 5, 2) := by decide +kernel
theorem dX6_takes_35 : decode cX6_takes 35 = .ok (.iload 5, 2) := by decide +kernel
theorem dX6_takes_37 : decode cX6_takes 37 = .ok (.aload_n 0, 1) := by decide +kernel
theorem dX6_takes_38 : decode cX6_takes 38 = .ok (.getfield 7, 3) := by decide +kernel
theorem dX6_takes_41 : decode cX6_takes 41 = .ok (.iload_n 2, 1) := by decide +kernel
theorem dX6_takes_42 : decode cX6_takes 42 = .ok (.iaload, 1) := by decide +kernel
theorem dX6_takes_43 : decode cX6_takes 43 = .ok (.if_icmp .ge 52, 3) := by decide +kernel
theorem dX6_takes_46 : decode cX6_takes 46 = .ok (.iconst 0, 1) := by decide +kernel
theorem dX6_takes_47 : decode cX6_takes 47 = .ok (.istore 6, 2) := by decide +kernel
theorem dX6_takes_49 : decode cX6_takes 49 = .ok (.iload 6, 2) := by decide +kernel
theorem dX6_takes_51 : decode cX6_takes 51 = .ok (.aload_n 0, 1) := by decide +kernel
theorem dX6_takes_52 : decode cX6_takes 52 = .ok (.iload_n 1, 1) := by decide +kernel
theorem dX6_takes_53 : decode cX6_takes 53 = .ok (.invokevirtual 179, 3) := by decide +kernel
theorem dX6_takes_56 : decode cX6_takes 56 = .ok (.if_icmp .ge 33, 3) := by decide +kernel
theorem dX6_takes_59 : decode cX6_takes 59 = .ok (.iload 4, 2) := by decide +kernel
theorem dX6_takes_61 : decode cX6_takes 61 = .ok (.aload_n 0, 1) := by decide +kernel
theorem dX6_takes_62 : decode cX6_takes 62 = .ok (.iload_n 1, 1) := by decide +kernel
theorem dX6_takes_63 : decode cX6_takes 63 = .ok (.iload 6, 2) := by decide +kernel
theorem dX6_takes_65 : decode cX6_takes 65 = .ok (.iload_n 2, 1) := by decide +kernel
theorem dX6_takes_66 : decode cX6_takes 66 = .ok (.iload 5, 2) := by decide +kernel
theorem dX6_takes_68 : decode cX6_takes 68 = .ok (.invokevirtual 200, 3) := by decide +kernel
theorem dX6_takes_71 : decode cX6_takes 71 = .ok (.iload_n 3, 1) := by decide +kernel
theorem dX6_takes_72 : decode cX6_takes 72 = .ok (.if_icmp .ne 7, 3) := by decide +kernel
theorem dX6_takes_75 : decode cX6_takes 75 = .ok (.iconst 1, 1) := by decide +kernel
theorem dX6_takes_76 : decode cX6_takes 76 = .ok (.goto 4, 3) := by decide +kernel
theorem dX6_takes_79 : decode cX6_takes 79 = .ok (.iconst 0, 1) := by decide +kernel
theorem dX6_takes_80 : decode cX6_takes 80 = .ok (.iadd, 1) := by decide +kernel
theorem dX6_takes_81 : decode cX6_takes 81 = .ok (.istore 4, 2) := by decide +kernel
theorem dX6_takes_83 : decode cX6_takes 83 = .ok (.iinc 6 1, 3) := by decide +kernel
theorem dX6_takes_86 : decode cX6_takes 86 = .ok (.goto (-37), 3) := by decide +kernel
theorem dX6_takes_89 : decode cX6_takes 89 = .ok (.iinc 5 1, 3) := by decide +kernel
theorem dX6_takes_92 : decode cX6_takes 92 = .ok (.goto (-57), 3) := by decide +kernel
theorem dX6_takes_95 : decode cX6_takes 95 = .ok (.iload 4, 2) := by decide +kernel
theorem dX6_takes_97 : decode cX6_takes 97 = .ok (.ireturn, 1) := by decide +kernel
theorem dX6_hours_0 : decode cX6_hours 0 = .ok (.aload_n 0, 1) := by decide +kernel
theorem dX6_hours_1 : decode cX6_hours 1 = .ok (.iload_n 1, 1) := by decide +kernel
theorem dX6_hours_2 : decode cX6_hours 2 = .ok (.invokevirtual 194, 3) := by decide +kernel
theorem dX6_hours_5 : decode cX6_hours 5 = .ok (.ifCond .eq 19, 3) := by decide +kernel
theorem dX6_hours_8 : decode cX6_hours 8 = .ok (.iload_n 2, 1) := by decide +kernel
theorem dX6_hours_9 : decode cX6_hours 9 = .ok (.invokestatic 107, 3) := by decide +kernel
theorem dX6_hours_12 : decode cX6_hours 12 = .ok (.ifCond .eq 12, 3) := by decide +kernel
theorem dX6_hours_15 : decode cX6_hours 15 = .ok (.aload_n 0, 1) := by decide +kernel
theorem dX6_hours_16 : decode cX6_hours 16 = .ok (.iload_n 1, 1) := by decide +kernel
theorem dX6_hours_17 : decode cX6_hours 17 = .ok (.iload_n 2, 1) := by decide +kernel
theorem dX6_hours_18 : decode cX6_hours 18 = .ok (.invokevirtual 190, 3) := by decide +kernel
theorem dX6_hours_21 : decode cX6_hours 21 = .ok (.goto 8, 3) := by decide +kernel
theorem dX6_hours_24 : decode cX6_hours 24 = .ok (.aload_n 0, 1) := by decide +kernel
theorem dX6_hours_25 : decode cX6_hours 25 = .ok (.iconst (-1), 1) := by decide +kernel
theorem dX6_hours_26 : decode cX6_hours 26 = .ok (.invokevirtual 111, 3) := by decide +kernel
theorem dX6_hours_29 : decode cX6_hours 29 = .ok (.ireturn, 1) := by decide +kernel
theorem dX6_think_0 : decode cX6_think 0 = .ok (.aload_n 0, 1) := by decide +kernel
theorem dX6_think_1 : decode cX6_think 1 = .ok (.iload_n 1, 1) := by decide +kernel
theorem dX6_think_2 : decode cX6_think 2 = .ok (.putfield 90, 3) := by decide +kernel
theorem dX6_think_5 : decode cX6_think 5 = .ok (.aload_n 0, 1) := by decide +kernel
theorem dX6_think_6 : decode cX6_think 6 = .ok (.iload_n 2, 1) := by decide +kernel
theorem dX6_think_7 : decode cX6_think 7 = .ok (.putfield 121, 3) := by decide +kernel
theorem dX6_think_10 : decode cX6_think 10 = .ok (.return_, 1) := by decide +kernel
theorem dX6_loss_0 : decode cX6_loss 0 = .ok (.aload_n 0, 1) := by decide +kernel
theorem dX6_loss_1 : decode cX6_loss 1 = .ok (.iload_n 1, 1) := by decide +kernel
theorem dX6_loss_2 : decode cX6_loss 2 = .ok (.invokevirtual 115, 3) := by decide +kernel
theorem dX6_loss_5 : decode cX6_loss 5 = .ok (.ifCond .eq 18, 3) := by decide +kernel
theorem dX6_loss_8 : decode cX6_loss 8 = .ok (.aload_n 0, 1) := by decide +kernel
theorem dX6_loss_9 : decode cX6_loss 9 = .ok (.iload_n 2, 1) := by decide +kernel
theorem dX6_loss_10 : decode cX6_loss 10 = .ok (.invokevirtual 194, 3) := by decide +kernel
theorem dX6_loss_13 : decode cX6_loss 13 = .ok (.ifCond .eq 10, 3) := by decide +kernel
theorem dX6_loss_16 : decode cX6_loss 16 = .ok (.iload_n 3, 1) := by decide +kernel
theorem dX6_loss_17 : decode cX6_loss 17 = .ok (.invokestatic 107, 3) := by decide +kernel
theorem dX6_loss_20 : decode cX6_loss 20 = .ok (.ifCond .ne 9, 3) := by decide +kernel
theorem dX6_loss_23 : decode cX6_loss 23 = .ok (.aload_n 0, 1) := by decide +kernel
theorem dX6_loss_24 : decode cX6_loss 24 = .ok (.iconst (-1), 1) := by decide +kernel
theorem dX6_loss_25 : decode cX6_loss 25 = .ok (.invokevirtual 203, 3) := by decide +kernel
theorem dX6_loss_28 : decode cX6_loss 28 = .ok (.ireturn, 1) := by decide +kernel
theorem dX6_loss_29 : decode cX6_loss 29 = .ok (.aload_n 0, 1) := by decide +kernel
theorem dX6_loss_30 : decode cX6_loss 30 = .ok (.iload_n 1, 1) := by decide +kernel
theorem dX6_loss_31 : decode cX6_loss 31 = .ok (.invokevirtual 118, 3) := by decide +kernel
theorem dX6_loss_34 : decode cX6_loss 34 = .ok (.istore 4, 2) := by decide +kernel
theorem dX6_loss_36 : decode cX6_loss 36 = .ok (.iload 4, 2) := by decide +kernel
theorem dX6_loss_38 : decode cX6_loss 38 = .ok (.ifCond .ge 10, 3) := by decide +kernel
theorem dX6_loss_41 : decode cX6_loss 41 = .ok (.aload_n 0, 1) := by decide +kernel
theorem dX6_loss_42 : decode cX6_loss 42 = .ok (.iload 4, 2) := by decide +kernel
theorem dX6_loss_44 : decode cX6_loss 44 = .ok (.invokevirtual 203, 3) := by decide +kernel
theorem dX6_loss_47 : decode cX6_loss 47 = .ok (.ireturn, 1) := by decide +kernel
theorem dX6_loss_48 : decode cX6_loss 48 = .ok (.aload_n 0, 1) := by decide +kernel
theorem dX6_loss_49 : decode cX6_loss 49 = .ok (.iload_n 2, 1) := by decide +kernel
theorem dX6_loss_50 : decode cX6_loss 50 = .ok (.iload_n 3, 1) := by decide +kernel
theorem dX6_loss_51 : decode cX6_loss 51 = .ok (.invokevirtual 190, 3) := by decide +kernel
theorem dX6_loss_54 : decode cX6_loss 54 = .ok (.istore 5, 2) := by decide +kernel
theorem dX6_loss_56 : decode cX6_loss 56 = .ok (.aload_n 0, 1) := by decide +kernel
theorem dX6_loss_57 : decode cX6_loss 57 = .ok (.iload_n 1, 1) := by decide +kernel
theorem dX6_loss_58 : decode cX6_loss 58 = .ok (.aload_n 0, 1) := by decide +kernel
theorem dX6_loss_59 : decode cX6_loss 59 = .ok (.getfield 47, 3) := by decide +kernel
theorem dX6_loss_62 : decode cX6_loss 62 = .ok (.iload_n 1, 1) := by decide +kernel
theorem dX6_loss_63 : decode cX6_loss 63 = .ok (.iaload, 1) := by decide +kernel
theorem dX6_loss_64 : decode cX6_loss 64 = .ok (.invokevirtual 206, 3) := by decide +kernel
theorem dX6_loss_67 : decode cX6_loss 67 = .ok (.aload_n 0, 1) := by decide +kernel
theorem dX6_loss_68 : decode cX6_loss 68 = .ok (.iload_n 2, 1) := by decide +kernel
theorem dX6_loss_69 : decode cX6_loss 69 = .ok (.iload_n 3, 1) := by decide +kernel
theorem dX6_loss_70 : decode cX6_loss 70 = .ok (.invokevirtual 190, 3) := by decide +kernel
theorem dX6_loss_73 : decode cX6_loss 73 = .ok (.istore 6, 2) := by decide +kernel
theorem dX6_loss_75 : decode cX6_loss 75 = .ok (.aload_n 0, 1) := by decide +kernel
theorem dX6_loss_76 : decode cX6_loss 76 = .ok (.iconst (-1), 1) := by decide +kernel
theorem dX6_loss_77 : decode cX6_loss 77 = .ok (.iconst 0, 1) := by decide +kernel
theorem dX6_loss_78 : decode cX6_loss 78 = .ok (.invokevirtual 206, 3) := by decide +kernel
theorem dX6_loss_81 : decode cX6_loss 81 = .ok (.iload 5, 2) := by decide +kernel
theorem dX6_loss_83 : decode cX6_loss 83 = .ok (.iload 6, 2) := by decide +kernel
theorem dX6_loss_85 : decode cX6_loss 85 = .ok (.isub, 1) := by decide +kernel
theorem dX6_loss_86 : decode cX6_loss 86 = .ok (.ireturn, 1) := by decide +kernel
theorem dX6_isKept_0 : decode cX6_isKept 0 = .ok (.aload_n 0, 1) := by decide +kernel
theorem dX6_isKept_1 : decode cX6_isKept 1 = .ok (.getfield 81, 3) := by decide +kernel
theorem dX6_isKept_4 : decode cX6_isKept 4 = .ok (.iload_n 1, 1) := by decide +kernel
theorem dX6_isKept_5 : decode cX6_isKept 5 = .ok (.iaload, 1) := by decide +kernel
theorem dX6_isKept_6 : decode cX6_isKept 6 = .ok (.iconst 3, 1) := by decide +kernel
theorem dX6_isKept_7 : decode cX6_isKept 7 = .ok (.if_icmp .lt 16, 3) := by decide +kernel
theorem dX6_isKept_10 : decode cX6_isKept 10 = .ok (.aload_n 0, 1) := by decide +kernel
theorem dX6_isKept_11 : decode cX6_isKept 11 = .ok (.getfield 84, 3) := by decide +kernel
theorem dX6_isKept_14 : decode cX6_isKept 14 = .ok (.iload_n 1, 1) := by decide +kernel
theorem dX6_isKept_15 : decode cX6_isKept 15 = .ok (.baload, 1) := by decide +kernel
theorem dX6_isKept_16 : decode cX6_isKept 16 = .ok (.ifCond .ne 7, 3) := by decide +kernel
theorem dX6_isKept_19 : decode cX6_isKept 19 = .ok (.iconst 1, 1) := by decide +kernel
theorem dX6_isKept_20 : decode cX6_isKept 20 = .ok (.goto 4, 3) := by decide +kernel
theorem dX6_isKept_23 : decode cX6_isKept 23 = .ok (.iconst 0, 1) := by decide +kernel
theorem dX6_isKept_24 : decode cX6_isKept 24 = .ok (.ireturn, 1) := by decide +kernel
theorem dX6_ask_0 : decode cX6_ask 0 = .ok (.iconst 0, 1) := by decide +kernel
theorem dX6_ask_1 : decode cX6_ask 1 = .ok (.istore_n 1, 1) := by decide +kernel
theorem dX6_ask_2 : decode cX6_ask 2 = .ok (.iload_n 1, 1) := by decide +kernel
theorem dX6_ask_3 : decode cX6_ask 3 = .ok (.aload_n 0, 1) := by decide +kernel
theorem dX6_ask_4 : decode cX6_ask 4 = .ok (.getfield 104, 3) := by decide +kernel
theorem dX6_ask_7 : decode cX6_ask 7 = .ok (.if_icmp .ge 38, 3) := by decide +kernel
theorem dX6_ask_10 : decode cX6_ask 10 = .ok (.aload_n 0, 1) := by decide +kernel
theorem dX6_ask_11 : decode cX6_ask 11 = .ok (.getfield 93, 3) := by decide +kernel
theorem dX6_ask_14 : decode cX6_ask 14 = .ok (.iload_n 1, 1) := by decide +kernel
theorem dX6_ask_15 : decode cX6_ask 15 = .ok (.aload_n 0, 1) := by decide +kernel
theorem dX6_ask_16 : decode cX6_ask 16 = .ok (.iload_n 1, 1) := by decide +kernel
theorem dX6_ask_17 : decode cX6_ask 17 = .ok (.invokevirtual 210, 3) := by decide +kernel
theorem dX6_ask_20 : decode cX6_ask 20 = .ok (.ifCond .eq 17, 3) := by decide +kernel
theorem dX6_ask_23 : decode cX6_ask 23 = .ok (.aload_n 0, 1) := by decide +kernel
theorem dX6_ask_24 : decode cX6_ask 24 = .ok (.iload_n 1, 1) := by decide +kernel
theorem dX6_ask_25 : decode cX6_ask 25 = .ok (.invokevirtual 213, 3) := by decide +kernel
theorem dX6_ask_28 : decode cX6_ask 28 = .ok (.bipush (-9), 2) := by decide +kernel
theorem dX6_ask_30 : decode cX6_ask 30 = .ok (.if_icmp .ne 7, 3) := by decide +kernel
theorem dX6_ask_33 : decode cX6_ask 33 = .ok (.iconst 1, 1) := by decide +kernel
theorem dX6_ask_34 : decode cX6_ask 34 = .ok (.goto 4, 3) := by decide +kernel
theorem dX6_ask_37 : decode cX6_ask 37 = .ok (.iconst 0, 1) := by decide +kernel
theorem dX6_ask_38 : decode cX6_ask 38 = .ok (.bastore, 1) := by decide +kernel
theorem dX6_ask_39 : decode cX6_ask 39 = .ok (.iinc 1 1, 3) := by decide +kernel
theorem dX6_ask_42 : decode cX6_ask 42 = .ok (.goto (-40), 3) := by decide +kernel
theorem dX6_ask_45 : decode cX6_ask 45 = .ok (.return_, 1) := by decide +kernel
theorem dX6_firstBreach_0 : decode cX6_firstBreach 0 = .ok (.aload_n 0, 1) := by decide +kernel
theorem dX6_firstBreach_1 : decode cX6_firstBreach 1 = .ok (.iload_n 1, 1) := by decide +kernel
theorem dX6_firstBreach_2 : decode cX6_firstBreach 2 = .ok (.iload_n 2, 1) := by decide +kernel
theorem dX6_firstBreach_3 : decode cX6_firstBreach 3 = .ok (.invokevirtual 206, 3) := by decide +kernel
theorem dX6_firstBreach_6 : decode cX6_firstBreach 6 = .ok (.bipush (-9), 2) := by decide +kernel
theorem dX6_firstBreach_8 : decode cX6_firstBreach 8 = .ok (.istore_n 3, 1) := by decide +kernel
theorem dX6_firstBreach_9 : decode cX6_firstBreach 9 = .ok (.iconst 0, 1) := by decide +kernel
theorem dX6_firstBreach_10 : decode cX6_firstBreach 10 = .ok (.istore 4, 2) := by decide +kernel
theorem dX6_firstBreach_12 : decode cX6_firstBreach 12 = .ok (.iload 4, 2) := by decide +kernel
theorem dX6_firstBreach_14 : decode cX6_firstBreach 14 = .ok (.aload_n 0, 1) := by decide +kernel
theorem dX6_firstBreach_15 : decode cX6_firstBreach 15 = .ok (.getfield 104, 3) := by decide +kernel
theorem dX6_firstBreach_18 : decode cX6_firstBreach 18 = .ok (.if_icmp .ge 59, 3) := by decide +kernel
theorem dX6_firstBreach_21 : decode cX6_firstBreach 21 = .ok (.iload_n 3, 1) := by decide +kernel
theorem dX6_firstBreach_22 : decode cX6_firstBreach 22 = .ok (.bipush (-9), 2) := by decide +kernel
theorem dX6_firstBreach_24 : decode cX6_firstBreach 24 = .ok (.if_icmp .ne 53, 3) := by decide +kernel
theorem dX6_firstBreach_27 : decode cX6_firstBreach 27 = .ok (.aload_n 0, 1) := by decide +kernel
theorem dX6_firstBreach_28 : decode cX6_firstBreach 28 = .ok (.getfield 93, 3) := by decide +kernel
theorem dX6_firstBreach_31 : decode cX6_firstBreach 31 = .ok (.iload 4, 2) := by decide +kernel
theorem dX6_firstBreach_33 : decode cX6_firstBreach 33 = .ok (.baload, 1) := by decide +kernel
theorem dX6_firstBreach_34 : decode cX6_firstBreach 34 = .ok (.ifCond .eq 12, 3) := by decide +kernel
theorem dX6_firstBreach_37 : decode cX6_firstBreach 37 = .ok (.aload_n 0, 1) := by decide +kernel
theorem dX6_firstBreach_38 : decode cX6_firstBreach 38 = .ok (.iload 4, 2) := by decide +kernel
theorem dX6_firstBreach_40 : decode cX6_firstBreach 40 = .ok (.invokevirtual 213, 3) := by decide +kernel
theorem dX6_firstBreach_43 : decode cX6_firstBreach 43 = .ok (.goto 5, 3) := by decide +kernel
theorem dX6_firstBreach_46 : decode cX6_firstBreach 46 = .ok (.bipush (-9), 2) := by decide +kernel
theorem dX6_firstBreach_48 : decode cX6_firstBreach 48 = .ok (.istore 5, 2) := by decide +kernel
theorem dX6_firstBreach_50 : decode cX6_firstBreach 50 = .ok (.iload 5, 2) := by decide +kernel
theorem dX6_firstBreach_52 : decode cX6_firstBreach 52 = .ok (.bipush (-9), 2) := by decide +kernel
theorem dX6_firstBreach_54 : decode cX6_firstBreach 54 = .ok (.if_icmp .ne 8, 3) := by decide +kernel
theorem dX6_firstBreach_57 : decode cX6_firstBreach 57 = .ok (.bipush (-9), 2) := by decide +kernel
theorem dX6_firstBreach_59 : decode cX6_firstBreach 59 = .ok (.goto 11, 3) := by decide +kernel
theorem dX6_firstBreach_62 : decode cX6_firstBreach 62 = .ok (.bipush 8, 2) := by decide +kernel
theorem dX6_firstBreach_64 : decode cX6_firstBreach 64 = .ok (.iload 4, 2) := by decide +kernel
theorem dX6_firstBreach_66 : decode cX6_firstBreach 66 = .ok (.imul, 1) := by decide +kernel
theorem dX6_firstBreach_67 : decode cX6_firstBreach 67 = .ok (.iload 5, 2) := by decide +kernel
theorem dX6_firstBreach_69 : decode cX6_firstBreach 69 = .ok (.iadd, 1) := by decide +kernel
theorem dX6_firstBreach_70 : decode cX6_firstBreach 70 = .ok (.istore_n 3, 1) := by decide +kernel
theorem dX6_firstBreach_71 : decode cX6_firstBreach 71 = .ok (.iinc 4 1, 3) := by decide +kernel
theorem dX6_firstBreach_74 : decode cX6_firstBreach 74 = .ok (.goto (-62), 3) := by decide +kernel
theorem dX6_firstBreach_77 : decode cX6_firstBreach 77 = .ok (.aload_n 0, 1) := by decide +kernel
theorem dX6_firstBreach_78 : decode cX6_firstBreach 78 = .ok (.iconst (-1), 1) := by decide +kernel
theorem dX6_firstBreach_79 : decode cX6_firstBreach 79 = .ok (.iconst 0, 1) := by decide +kernel
theorem dX6_firstBreach_80 : decode cX6_firstBreach 80 = .ok (.invokevirtual 206, 3) := by decide +kernel
theorem dX6_firstBreach_83 : decode cX6_firstBreach 83 = .ok (.iload_n 3, 1) := by decide +kernel
theorem dX6_firstBreach_84 : decode cX6_firstBreach 84 = .ok (.ireturn, 1) := by decide +kernel
theorem dX6_high_0 : decode cX6_high 0 = .ok (.aload_n 0, 1) := by decide +kernel
theorem dX6_high_1 : decode cX6_high 1 = .ok (.iload_n 1, 1) := by decide +kernel
theorem dX6_high_2 : decode cX6_high 2 = .ok (.invokevirtual 118, 3) := by decide +kernel
theorem dX6_high_5 : decode cX6_high 5 = .ok (.istore_n 2, 1) := by decide +kernel
theorem dX6_high_6 : decode cX6_high 6 = .ok (.iload_n 2, 1) := by decide +kernel
theorem dX6_high_7 : decode cX6_high 7 = .ok (.ifCond .ge 9, 3) := by decide +kernel
theorem dX6_high_10 : decode cX6_high 10 = .ok (.aload_n 0, 1) := by decide +kernel
theorem dX6_high_11 : decode cX6_high 11 = .ok (.iload_n 2, 1) := by decide +kernel
theorem dX6_high_12 : decode cX6_high 12 = .ok (.invokevirtual 111, 3) := by decide +kernel
theorem dX6_high_15 : decode cX6_high 15 = .ok (.ireturn, 1) := by decide +kernel
theorem dX6_high_16 : decode cX6_high 16 = .ok (.aload_n 0, 1) := by decide +kernel
theorem dX6_high_17 : decode cX6_high 17 = .ok (.invokevirtual 216, 3) := by decide +kernel
theorem dX6_high_20 : decode cX6_high 20 = .ok (.aload_n 0, 1) := by decide +kernel
theorem dX6_high_21 : decode cX6_high 21 = .ok (.getfield 44, 3) := by decide +kernel
theorem dX6_high_24 : decode cX6_high 24 = .ok (.iload_n 1, 1) := by decide +kernel
theorem dX6_high_25 : decode cX6_high 25 = .ok (.iaload, 1) := by decide +kernel
theorem dX6_high_26 : decode cX6_high 26 = .ok (.istore_n 3, 1) := by decide +kernel
theorem dX6_high_27 : decode cX6_high 27 = .ok (.sipush 201, 3) := by decide +kernel
theorem dX6_high_30 : decode cX6_high 30 = .ok (.istore 4, 2) := by decide +kernel
theorem dX6_high_32 : decode cX6_high 32 = .ok (.iload 4, 2) := by decide +kernel
theorem dX6_high_34 : decode cX6_high 34 = .ok (.iload_n 3, 1) := by decide +kernel
theorem dX6_high_35 : decode cX6_high 35 = .ok (.isub, 1) := by decide +kernel
theorem dX6_high_36 : decode cX6_high 36 = .ok (.iconst 1, 1) := by decide +kernel
theorem dX6_high_37 : decode cX6_high 37 = .ok (.if_icmp .le 36, 3) := by decide +kernel
theorem dX6_high_40 : decode cX6_high 40 = .ok (.iload_n 3, 1) := by decide +kernel
theorem dX6_high_41 : decode cX6_high 41 = .ok (.iload 4, 2) := by decide +kernel
theorem dX6_high_43 : decode cX6_high 43 = .ok (.iadd, 1) := by decide +kernel
theorem dX6_high_44 : decode cX6_high 44 = .ok (.iconst 2, 1) := by decide +kernel
theorem dX6_high_45 : decode cX6_high 45 = .ok (.idiv, 1) := by decide +kernel
theorem dX6_high_46 : decode cX6_high 46 = .ok (.istore 5, 2) := by decide +kernel
theorem dX6_high_48 : decode cX6_high 48 = .ok (.aload_n 0, 1) := by decide +kernel
theorem dX6_high_49 : decode cX6_high 49 = .ok (.iload_n 1, 1) := by decide +kernel
theorem dX6_high_50 : decode cX6_high 50 = .ok (.iload 5, 2) := by decide +kernel
theorem dX6_high_52 : decode cX6_high 52 = .ok (.invokevirtual 219, 3) := by decide +kernel
theorem dX6_high_55 : decode cX6_high 55 = .ok (.bipush (-9), 2) := by decide +kernel
theorem dX6_high_57 : decode cX6_high 57 = .ok (.if_icmp .ne 9, 3) := by decide +kernel
theorem dX6_high_60 : decode cX6_high 60 = .ok (.iload 5, 2) := by decide +kernel
theorem dX6_high_62 : decode cX6_high 62 = .ok (.istore_n 3, 1) := by decide +kernel
theorem dX6_high_63 : decode cX6_high 63 = .ok (.goto 7, 3) := by decide +kernel
theorem dX6_high_66 : decode cX6_high 66 = .ok (.iload 5, 2) := by decide +kernel
theorem dX6_high_68 : decode cX6_high 68 = .ok (.istore 4, 2) := by decide +kernel
theorem dX6_high_70 : decode cX6_high 70 = .ok (.goto (-38), 3) := by decide +kernel
theorem dX6_high_73 : decode cX6_high 73 = .ok (.iload_n 3, 1) := by decide +kernel
theorem dX6_high_74 : decode cX6_high 74 = .ok (.ireturn, 1) := by decide +kernel
theorem dX6_breach_0 : decode cX6_breach 0 = .ok (.aload_n 0, 1) := by decide +kernel
theorem dX6_breach_1 : decode cX6_breach 1 = .ok (.iload_n 1, 1) := by decide +kernel
theorem dX6_breach_2 : decode cX6_breach 2 = .ok (.invokevirtual 118, 3) := by decide +kernel
theorem dX6_breach_5 : decode cX6_breach 5 = .ok (.istore_n 3, 1) := by decide +kernel
theorem dX6_breach_6 : decode cX6_breach 6 = .ok (.iload_n 3, 1) := by decide +kernel
theorem dX6_breach_7 : decode cX6_breach 7 = .ok (.ifCond .ge 7, 3) := by decide +kernel
theorem dX6_breach_10 : decode cX6_breach 10 = .ok (.iload_n 3, 1) := by decide +kernel
theorem dX6_breach_11 : decode cX6_breach 11 = .ok (.goto 31, 3) := by decide +kernel
theorem dX6_breach_14 : decode cX6_breach 14 = .ok (.iload_n 2, 1) := by decide +kernel
theorem dX6_breach_15 : decode cX6_breach 15 = .ok (.aload_n 0, 1) := by decide +kernel
theorem dX6_breach_16 : decode cX6_breach 16 = .ok (.getfield 44, 3) := by decide +kernel
theorem dX6_breach_19 : decode cX6_breach 19 = .ok (.iload_n 1, 1) := by decide +kernel
theorem dX6_breach_20 : decode cX6_breach 20 = .ok (.iaload, 1) := by decide +kernel
theorem dX6_breach_21 : decode cX6_breach 21 = .ok (.if_icmp .gt 8, 3) := by decide +kernel
theorem dX6_breach_24 : decode cX6_breach 24 = .ok (.bipush (-4), 2) := by decide +kernel
theorem dX6_breach_26 : decode cX6_breach 26 = .ok (.goto 16, 3) := by decide +kernel
theorem dX6_breach_29 : decode cX6_breach 29 = .ok (.iload_n 2, 1) := by decide +kernel
theorem dX6_breach_30 : decode cX6_breach 30 = .ok (.sipush 200, 3) := by decide +kernel
theorem dX6_breach_33 : decode cX6_breach 33 = .ok (.if_icmp .le 8, 3) := by decide +kernel
theorem dX6_breach_36 : decode cX6_breach 36 = .ok (.bipush (-6), 2) := by decide +kernel
theorem dX6_breach_38 : decode cX6_breach 38 = .ok (.goto 4, 3) := by decide +kernel
theorem dX6_breach_41 : decode cX6_breach 41 = .ok (.iconst 0, 1) := by decide +kernel
theorem dX6_breach_42 : decode cX6_breach 42 = .ok (.istore_n 3, 1) := by decide +kernel
theorem dX6_breach_43 : decode cX6_breach 43 = .ok (.iload_n 3, 1) := by decide +kernel
theorem dX6_breach_44 : decode cX6_breach 44 = .ok (.ifCond .ge 9, 3) := by decide +kernel
theorem dX6_breach_47 : decode cX6_breach 47 = .ok (.aload_n 0, 1) := by decide +kernel
theorem dX6_breach_48 : decode cX6_breach 48 = .ok (.iload_n 3, 1) := by decide +kernel
theorem dX6_breach_49 : decode cX6_breach 49 = .ok (.invokevirtual 203, 3) := by decide +kernel
theorem dX6_breach_52 : decode cX6_breach 52 = .ok (.ireturn, 1) := by decide +kernel
theorem dX6_breach_53 : decode cX6_breach 53 = .ok (.aload_n 0, 1) := by decide +kernel
theorem dX6_breach_54 : decode cX6_breach 54 = .ok (.invokevirtual 216, 3) := by decide +kernel
theorem dX6_breach_57 : decode cX6_breach 57 = .ok (.aload_n 0, 1) := by decide +kernel
theorem dX6_breach_58 : decode cX6_breach 58 = .ok (.iload_n 1, 1) := by decide +kernel
theorem dX6_breach_59 : decode cX6_breach 59 = .ok (.iload_n 2, 1) := by decide +kernel
theorem dX6_breach_60 : decode cX6_breach 60 = .ok (.invokevirtual 219, 3) := by decide +kernel
theorem dX6_breach_63 : decode cX6_breach 63 = .ok (.ireturn, 1) := by decide +kernel
theorem dX6_years_0 : decode cX6_years 0 = .ok (.iload_n 1, 1) := by decide +kernel
theorem dX6_years_1 : decode cX6_years 1 = .ok (.iconst 1, 1) := by decide +kernel
theorem dX6_years_2 : decode cX6_years 2 = .ok (.if_icmp .ge 10, 3) := by decide +kernel
theorem dX6_years_5 : decode cX6_years 5 = .ok (.aload_n 0, 1) := by decide +kernel
theorem dX6_years_6 : decode cX6_years 6 = .ok (.bipush (-4), 2) := by decide +kernel
theorem dX6_years_8 : decode cX6_years 8 = .ok (.invokevirtual 111, 3) := by decide +kernel
theorem dX6_years_11 : decode cX6_years 11 = .ok (.ireturn, 1) := by decide +kernel
theorem dX6_years_12 : decode cX6_years 12 = .ok (.iload_n 1, 1) := by decide +kernel
theorem dX6_years_13 : decode cX6_years 13 = .ok (.bipush 60, 2) := by decide +kernel
theorem dX6_years_15 : decode cX6_years 15 = .ok (.aload_n 0, 1) := by decide +kernel
theorem dX6_years_16 : decode cX6_years 16 = .ok (.getfield 222, 3) := by decide +kernel
theorem dX6_years_19 : decode cX6_years 19 = .ok (.isub, 1) := by decide +kernel
theorem dX6_years_20 : decode cX6_years 20 = .ok (.if_icmp .le 10, 3) := by decide +kernel
theorem dX6_years_23 : decode cX6_years 23 = .ok (.aload_n 0, 1) := by decide +kernel
theorem dX6_years_24 : decode cX6_years 24 = .ok (.bipush (-6), 2) := by decide +kernel
theorem dX6_years_26 : decode cX6_years 26 = .ok (.invokevirtual 111, 3) := by decide +kernel
theorem dX6_years_29 : decode cX6_years 29 = .ok (.ireturn, 1) := by decide +kernel
theorem dX6_years_30 : decode cX6_years 30 = .ok (.iconst 0, 1) := by decide +kernel
theorem dX6_years_31 : decode cX6_years 31 = .ok (.istore_n 2, 1) := by decide +kernel
theorem dX6_years_32 : decode cX6_years 32 = .ok (.iload_n 2, 1) := by decide +kernel
theorem dX6_years_33 : decode cX6_years 33 = .ok (.iload_n 1, 1) := by decide +kernel
theorem dX6_years_34 : decode cX6_years 34 = .ok (.if_icmp .ge 118, 3) := by decide +kernel
theorem dX6_years_37 : decode cX6_years 37 = .ok (.aload_n 0, 1) := by decide +kernel
theorem dX6_years_38 : decode cX6_years 38 = .ok (.dup, 1) := by decide +kernel
theorem dX6_years_39 : decode cX6_years 39 = .ok (.getfield 222, 3) := by decide +kernel
theorem dX6_years_42 : decode cX6_years 42 = .ok (.iconst 1, 1) := by decide +kernel
theorem dX6_years_43 : decode cX6_years 43 = .ok (.iadd, 1) := by decide +kernel
theorem dX6_years_44 : decode cX6_years 44 = .ok (.putfield 222, 3) := by decide +kernel
theorem dX6_years_47 : decode cX6_years 47 = .ok (.iconst 0, 1) := by decide +kernel
theorem dX6_years_48 : decode cX6_years 48 = .ok (.istore_n 3, 1) := by decide +kernel
theorem dX6_years_49 : decode cX6_years 49 = .ok (.iload_n 3, 1) := by decide +kernel
theorem dX6_years_50 : decode cX6_years 50 = .ok (.aload_n 0, 1) := by decide +kernel
theorem dX6_years_51 : decode cX6_years 51 = .ok (.getfield 97, 3) := by decide +kernel
theorem dX6_years_54 : decode cX6_years 54 = .ok (.if_icmp .ge 48, 3) := by decide +kernel
theorem dX6_years_57 : decode cX6_years 57 = .ok (.aload_n 0, 1) := by decide +kernel
theorem dX6_years_58 : decode cX6_years 58 = .ok (.getfield 47, 3) := by decide +kernel
theorem dX6_years_61 : decode cX6_years 61 = .ok (.iload_n 3, 1) := by decide +kernel
theorem dX6_years_62 : decode cX6_years 62 = .ok (.dup2, 1) := by decide +kernel
theorem dX6_years_63 : decode cX6_years 63 = .ok (.iaload, 1) := by decide +kernel
theorem dX6_years_64 : decode cX6_years 64 = .ok (.aload_n 0, 1) := by decide +kernel
theorem dX6_years_65 : decode cX6_years 65 = .ok (.getfield 29, 3) := by decide +kernel
theorem dX6_years_68 : decode cX6_years 68 = .ok (.iload_n 3, 1) := by decide +kernel
theorem dX6_years_69 : decode cX6_years 69 = .ok (.iaload, 1) := by decide +kernel
theorem dX6_years_70 : decode cX6_years 70 = .ok (.iconst 1, 1) := by decide +kernel
theorem dX6_years_71 : decode cX6_years 71 = .ok (.if_icmp .ne 22, 3) := by decide +kernel
theorem dX6_years_74 : decode cX6_years 74 = .ok (.aload_n 0, 1) := by decide +kernel
theorem dX6_years_75 : decode cX6_years 75 = .ok (.getfield 47, 3) := by decide +kernel
theorem dX6_years_78 : decode cX6_years 78 = .ok (.iload_n 3, 1) := by decide +kernel
theorem dX6_years_79 : decode cX6_years 79 = .ok (.iaload, 1) := by decide +kernel
theorem dX6_years_80 : decode cX6_years 80 = .ok (.aload_n 0, 1) := by decide +kernel
theorem dX6_years_81 : decode cX6_years 81 = .ok (.getfield 50, 3) := by decide +kernel
theorem dX6_years_84 : decode cX6_years 84 = .ok (.iload_n 3, 1) := by decide +kernel
theorem dX6_years_85 : decode cX6_years 85 = .ok (.iaload, 1) := by decide +kernel
theorem dX6_years_86 : decode cX6_years 86 = .ok (.if_icmp .ge 7, 3) := by decide +kernel
theorem dX6_years_89 : decode cX6_years 89 = .ok (.iconst 1, 1) := by decide +kernel
theorem dX6_years_90 : decode cX6_years 90 = .ok (.goto 4, 3) := by decide +kernel
theorem dX6_years_93 : decode cX6_years 93 = .ok (.iconst 0, 1) := by decide +kernel
theorem dX6_years_94 : decode cX6_years 94 = .ok (.iadd, 1) := by decide +kernel
theorem dX6_years_95 : decode cX6_years 95 = .ok (.iastore, 1) := by decide +kernel
theorem dX6_years_96 : decode cX6_years 96 = .ok (.iinc 3 1, 3) := by decide +kernel
theorem dX6_years_99 : decode cX6_years 99 = .ok (.goto (-50), 3) := by decide +kernel
theorem dX6_years_102 : decode cX6_years 102 = .ok (.iconst 0, 1) := by decide +kernel
theorem dX6_years_103 : decode cX6_years 103 = .ok (.istore_n 3, 1) := by decide +kernel
theorem dX6_years_104 : decode cX6_years 104 = .ok (.iload_n 3, 1) := by decide +kernel
theorem dX6_years_105 : decode cX6_years 105 = .ok (.aload_n 0, 1) := by decide +kernel
theorem dX6_years_106 : decode cX6_years 106 = .ok (.getfield 104, 3) := by decide +kernel
theorem dX6_years_109 : decode cX6_years 109 = .ok (.if_icmp .ge 37, 3) := by decide +kernel
theorem dX6_years_112 : decode cX6_years 112 = .ok (.aload_n 0, 1) := by decide +kernel
theorem dX6_years_113 : decode cX6_years 113 = .ok (.getfield 81, 3) := by decide +kernel
theorem dX6_years_116 : decode cX6_years 116 = .ok (.iload_n 3, 1) := by decide +kernel
theorem dX6_years_117 : decode cX6_years 117 = .ok (.aload_n 0, 1) := by decide +kernel
theorem dX6_years_118 : decode cX6_years 118 = .ok (.iload_n 3, 1) := by decide +kernel
theorem dX6_years_119 : decode cX6_years 119 = .ok (.invokevirtual 213, 3) := by decide +kernel
theorem dX6_years_122 : decode cX6_years 122 = .ok (.bipush (-9), 2) := by decide +kernel
theorem dX6_years_124 : decode cX6_years 124 = .ok (.if_icmp .ne 14, 3) := by decide +kernel
theorem dX6_years_127 : decode cX6_years 127 = .ok (.aload_n 0, 1) := by decide +kernel
theorem dX6_years_128 : decode cX6_years 128 = .ok (.getfield 81, 3) := by decide +kernel
theorem dX6_years_131 : decode cX6_years 131 = .ok (.iload_n 3, 1) := by decide +kernel
theorem dX6_years_132 : decode cX6_years 132 = .ok (.iaload, 1) := by decide +kernel
theorem dX6_years_133 : decode cX6_years 133 = .ok (.iconst 1, 1) := by decide +kernel
theorem dX6_years_134 : decode cX6_years 134 = .ok (.iadd, 1) := by decide +kernel
theorem dX6_years_135 : decode cX6_years 135 = .ok (.goto 4, 3) := by decide +kernel
theorem dX6_years_138 : decode cX6_years 138 = .ok (.iconst 0, 1) := by decide +kernel
theorem dX6_years_139 : decode cX6_years 139 = .ok (.iastore, 1) := by decide +kernel
theorem dX6_years_140 : decode cX6_years 140 = .ok (.iinc 3 1, 3) := by decide +kernel
theorem dX6_years_143 : decode cX6_years 143 = .ok (.goto (-39), 3) := by decide +kernel
theorem dX6_years_146 : decode cX6_years 146 = .ok (.iinc 2 1, 3) := by decide +kernel
theorem dX6_years_149 : decode cX6_years 149 = .ok (.goto (-117), 3) := by decide +kernel
theorem dX6_years_152 : decode cX6_years 152 = .ok (.aload_n 0, 1) := by decide +kernel
theorem dX6_years_153 : decode cX6_years 153 = .ok (.getfield 222, 3) := by decide +kernel
theorem dX6_years_156 : decode cX6_years 156 = .ok (.ireturn, 1) := by decide +kernel
theorem dX6_release_0 : decode cX6_release 0 = .ok (.aload_n 0, 1) := by decide +kernel
theorem dX6_release_1 : decode cX6_release 1 = .ok (.iload_n 1, 1) := by decide +kernel
theorem dX6_release_2 : decode cX6_release 2 = .ok (.invokevirtual 194, 3) := by decide +kernel
theorem dX6_release_5 : decode cX6_release 5 = .ok (.ifCond .eq 12, 3) := by decide +kernel
theorem dX6_release_8 : decode cX6_release 8 = .ok (.aload_n 0, 1) := by decide +kernel
theorem dX6_release_9 : decode cX6_release 9 = .ok (.getfield 84, 3) := by decide +kernel
theorem dX6_release_12 : decode cX6_release 12 = .ok (.iload_n 1, 1) := by decide +kernel
theorem dX6_release_13 : decode cX6_release 13 = .ok (.baload, 1) := by decide +kernel
theorem dX6_release_14 : decode cX6_release 14 = .ok (.ifCond .eq 5, 3) := by decide +kernel
theorem dX6_release_17 : decode cX6_release 17 = .ok (.iconst 0, 1) := by decide +kernel
theorem dX6_release_18 : decode cX6_release 18 = .ok (.ireturn, 1) := by decide +kernel
theorem dX6_release_19 : decode cX6_release 19 = .ok (.aload_n 0, 1) := by decide +kernel
theorem dX6_release_20 : decode cX6_release 20 = .ok (.getfield 84, 3) := by decide +kernel
theorem dX6_release_23 : decode cX6_release 23 = .ok (.iload_n 1, 1) := by decide +kernel
theorem dX6_release_24 : decode cX6_release 24 = .ok (.iconst 1, 1) := by decide +kernel
theorem dX6_release_25 : decode cX6_release 25 = .ok (.bastore, 1) := by decide +kernel
theorem dX6_release_26 : decode cX6_release 26 = .ok (.iconst 1, 1) := by decide +kernel
theorem dX6_release_27 : decode cX6_release 27 = .ok (.ireturn, 1) := by decide +kernel
theorem dX6_blockOf_0 : decode cX6_blockOf 0 = .ok (.aload_n 0, 1) := by decide +kernel
theorem dX6_blockOf_1 : decode cX6_blockOf 1 = .ok (.iload_n 1, 1) := by decide +kernel
theorem dX6_blockOf_2 : decode cX6_blockOf 2 = .ok (.invokevirtual 115, 3) := by decide +kernel
theorem dX6_blockOf_5 : decode cX6_blockOf 5 = .ok (.ifCond .ne 9, 3) := by decide +kernel
theorem dX6_blockOf_8 : decode cX6_blockOf 8 = .ok (.aload_n 0, 1) := by decide +kernel
theorem dX6_blockOf_9 : decode cX6_blockOf 9 = .ok (.iconst (-1), 1) := by decide +kernel
theorem dX6_blockOf_10 : decode cX6_blockOf 10 = .ok (.invokevirtual 203, 3) := by decide +kernel
theorem dX6_blockOf_13 : decode cX6_blockOf 13 = .ok (.ireturn, 1) := by decide +kernel
theorem dX6_blockOf_14 : decode cX6_blockOf 14 = .ok (.iload_n 2, 1) := by decide +kernel
theorem dX6_blockOf_15 : decode cX6_blockOf 15 = .ok (.tableswitch 109 0 5 #[37, 44, 51, 58, 80, 94], 37) := by decide +kernel
theorem dX6_blockOf_52 : decode cX6_blockOf 52 = .ok (.aload_n 0, 1) := by decide +kernel
theorem dX6_blockOf_53 : decode cX6_blockOf 53 = .ok (.getfield 29, 3) := by decide +kernel
theorem dX6_blockOf_56 : decode cX6_blockOf 56 = .ok (.iload_n 1, 1) := by decide +kernel
theorem dX6_blockOf_57 : decode cX6_blockOf 57 = .ok (.iaload, 1) := by decide +kernel
theorem dX6_blockOf_58 : decode cX6_blockOf 58 = .ok (.ireturn, 1) := by decide +kernel
theorem dX6_blockOf_59 : decode cX6_blockOf 59 = .ok (.aload_n 0, 1) := by decide +kernel
theorem dX6_blockOf_60 : decode cX6_blockOf 60 = .ok (.getfield 44, 3) := by decide +kernel
theorem dX6_blockOf_63 : decode cX6_blockOf 63 = .ok (.iload_n 1, 1) := by decide +kernel
theorem dX6_blockOf_64 : decode cX6_blockOf 64 = .ok (.iaload, 1) := by decide +kernel
theorem dX6_blockOf_65 : decode cX6_blockOf 65 = .ok (.ireturn, 1) := by decide +kernel
theorem dX6_blockOf_66 : decode cX6_blockOf 66 = .ok (.aload_n 0, 1) := by decide +kernel
theorem dX6_blockOf_67 : decode cX6_blockOf 67 = .ok (.getfield 47, 3) := by decide +kernel
theorem dX6_blockOf_70 : decode cX6_blockOf 70 = .ok (.iload_n 1, 1) := by decide +kernel
theorem dX6_blockOf_71 : decode cX6_blockOf 71 = .ok (.iaload, 1) := by decide +kernel
theorem dX6_blockOf_72 : decode cX6_blockOf 72 = .ok (.ireturn, 1) := by decide +kernel
theorem dX6_blockOf_73 : decode cX6_blockOf 73 = .ok (.aload_n 0, 1) := by decide +kernel
theorem dX6_blockOf_74 : decode cX6_blockOf 74 = .ok (.getfield 29, 3) := by decide +kernel
theorem dX6_blockOf_77 : decode cX6_blockOf 77 = .ok (.iload_n 1, 1) := by decide +kernel
theorem dX6_blockOf_78 : decode cX6_blockOf 78 = .ok (.iaload, 1) := by decide +kernel
theorem dX6_blockOf_79 : decode cX6_blockOf 79 = .ok (.iconst 1, 1) := by decide +kernel
theorem dX6_blockOf_80 : decode cX6_blockOf 80 = .ok (.if_icmp .ne 12, 3) := by decide +kernel
theorem dX6_blockOf_83 : decode cX6_blockOf 83 = .ok (.aload_n 0, 1) := by decide +kernel
theorem dX6_blockOf_84 : decode cX6_blockOf 84 = .ok (.getfield 50, 3) := by decide +kernel
theorem dX6_blockOf_87 : decode cX6_blockOf 87 = .ok (.iload_n 1, 1) := by decide +kernel
theorem dX6_blockOf_88 : decode cX6_blockOf 88 = .ok (.iaload, 1) := by decide +kernel
theorem dX6_blockOf_89 : decode cX6_blockOf 89 = .ok (.goto 5, 3) := by decide +kernel
theorem dX6_blockOf_92 : decode cX6_blockOf 92 = .ok (.bipush (-9), 2) := by decide +kernel
theorem dX6_blockOf_94 : decode cX6_blockOf 94 = .ok (.ireturn, 1) := by decide +kernel
theorem dX6_blockOf_95 : decode cX6_blockOf 95 = .ok (.aload_n 0, 1) := by decide +kernel
theorem dX6_blockOf_96 : decode cX6_blockOf 96 = .ok (.iload_n 1, 1) := by decide +kernel
theorem dX6_blockOf_97 : decode cX6_blockOf 97 = .ok (.invokevirtual 173, 3) := by decide +kernel
theorem dX6_blockOf_100 : decode cX6_blockOf 100 = .ok (.ifCond .eq 7, 3) := by decide +kernel
theorem dX6_blockOf_103 : decode cX6_blockOf 103 = .ok (.iconst 1, 1) := by decide +kernel
theorem dX6_blockOf_104 : decode cX6_blockOf 104 = .ok (.goto 4, 3) := by decide +kernel
theorem dX6_blockOf_107 : decode cX6_blockOf 107 = .ok (.iconst 0, 1) := by decide +kernel
theorem dX6_blockOf_108 : decode cX6_blockOf 108 = .ok (.ireturn, 1) := by decide +kernel
theorem dX6_blockOf_109 : decode cX6_blockOf 109 = .ok (.aload_n 0, 1) := by decide +kernel
theorem dX6_blockOf_110 : decode cX6_blockOf 110 = .ok (.getfield 60, 3) := by decide +kernel
theorem dX6_blockOf_113 : decode cX6_blockOf 113 = .ok (.iload_n 1, 1) := by decide +kernel
theorem dX6_blockOf_114 : decode cX6_blockOf 114 = .ok (.baload, 1) := by decide +kernel
theorem dX6_blockOf_115 : decode cX6_blockOf 115 = .ok (.ifCond .eq 7, 3) := by decide +kernel
theorem dX6_blockOf_118 : decode cX6_blockOf 118 = .ok (.iconst 1, 1) := by decide +kernel
theorem dX6_blockOf_119 : decode cX6_blockOf 119 = .ok (.goto 4, 3) := by decide +kernel
theorem dX6_blockOf_122 : decode cX6_blockOf 122 = .ok (.iconst 0, 1) := by decide +kernel
theorem dX6_blockOf_123 : decode cX6_blockOf 123 = .ok (.ireturn, 1) := by decide +kernel
theorem dX6_blockOf_124 : decode cX6_blockOf 124 = .ok (.aload_n 0, 1) := by decide +kernel
theorem dX6_blockOf_125 : decode cX6_blockOf 125 = .ok (.bipush (-2), 2) := by decide +kernel
theorem dX6_blockOf_127 : decode cX6_blockOf 127 = .ok (.invokevirtual 203, 3) := by decide +kernel
theorem dX6_blockOf_130 : decode cX6_blockOf 130 = .ok (.ireturn, 1) := by decide +kernel
theorem dX6_windowOf_0 : decode cX6_windowOf 0 = .ok (.aload_n 0, 1) := by decide +kernel
theorem dX6_windowOf_1 : decode cX6_windowOf 1 = .ok (.iload_n 1, 1) := by decide +kernel
theorem dX6_windowOf_2 : decode cX6_windowOf 2 = .ok (.invokevirtual 194, 3) := by decide +kernel
theorem dX6_windowOf_5 : decode cX6_windowOf 5 = .ok (.ifCond .ne 9, 3) := by decide +kernel
theorem dX6_windowOf_8 : decode cX6_windowOf 8 = .ok (.aload_n 0, 1) := by decide +kernel
theorem dX6_windowOf_9 : decode cX6_windowOf 9 = .ok (.iconst (-1), 1) := by decide +kernel
theorem dX6_windowOf_10 : decode cX6_windowOf 10 = .ok (.invokevirtual 203, 3) := by decide +kernel
theorem dX6_windowOf_13 : decode cX6_windowOf 13 = .ok (.ireturn, 1) := by decide +kernel
theorem dX6_windowOf_14 : decode cX6_windowOf 14 = .ok (.iload_n 2, 1) := by decide +kernel
theorem dX6_windowOf_15 : decode cX6_windowOf 15 = .ok (.tableswitch 93 0 5 #[37, 44, 50, 57, 73, 87], 37) := by decide +kernel
theorem dX6_windowOf_52 : decode cX6_windowOf 52 = .ok (.aload_n 0, 1) := by decide +kernel
theorem dX6_windowOf_53 : decode cX6_windowOf 53 = .ok (.getfield 63, 3) := by decide +kernel
theorem dX6_windowOf_56 : decode cX6_windowOf 56 = .ok (.iload_n 1, 1) := by decide +kernel
theorem dX6_windowOf_57 : decode cX6_windowOf 57 = .ok (.iaload, 1) := by decide +kernel
theorem dX6_windowOf_58 : decode cX6_windowOf 58 = .ok (.ireturn, 1) := by decide +kernel
theorem dX6_windowOf_59 : decode cX6_windowOf 59 = .ok (.aload_n 0, 1) := by decide +kernel
theorem dX6_windowOf_60 : decode cX6_windowOf 60 = .ok (.iload_n 1, 1) := by decide +kernel
theorem dX6_windowOf_61 : decode cX6_windowOf 61 = .ok (.invokevirtual 179, 3) := by decide +kernel
theorem dX6_windowOf_64 : decode cX6_windowOf 64 = .ok (.ireturn, 1) := by decide +kernel
theorem dX6_windowOf_65 : decode cX6_windowOf 65 = .ok (.aload_n 0, 1) := by decide +kernel
theorem dX6_windowOf_66 : decode cX6_windowOf 66 = .ok (.getfield 81, 3) := by decide +kernel
theorem dX6_windowOf_69 : decode cX6_windowOf 69 = .ok (.iload_n 1, 1) := by decide +kernel
theorem dX6_windowOf_70 : decode cX6_windowOf 70 = .ok (.iaload, 1) := by decide +kernel
theorem dX6_windowOf_71 : decode cX6_windowOf 71 = .ok (.ireturn, 1) := by decide +kernel
theorem dX6_windowOf_72 : decode cX6_windowOf 72 = .ok (.aload_n 0, 1) := by decide +kernel
theorem dX6_windowOf_73 : decode cX6_windowOf 73 = .ok (.iload_n 1, 1) := by decide +kernel
theorem dX6_windowOf_74 : decode cX6_windowOf 74 = .ok (.invokevirtual 213, 3) := by decide +kernel
theorem dX6_windowOf_77 : decode cX6_windowOf 77 = .ok (.bipush (-9), 2) := by decide +kernel
theorem dX6_windowOf_79 : decode cX6_windowOf 79 = .ok (.if_icmp .ne 7, 3) := by decide +kernel
theorem dX6_windowOf_82 : decode cX6_windowOf 82 = .ok (.iconst 1, 1) := by decide +kernel
theorem dX6_windowOf_83 : decode cX6_windowOf 83 = .ok (.goto 4, 3) := by decide +kernel
theorem dX6_windowOf_86 : decode cX6_windowOf 86 = .ok (.iconst 0, 1) := by decide +kernel
theorem dX6_windowOf_87 : decode cX6_windowOf 87 = .ok (.ireturn, 1) := by decide +kernel
theorem dX6_windowOf_88 : decode cX6_windowOf 88 = .ok (.aload_n 0, 1) := by decide +kernel
theorem dX6_windowOf_89 : decode cX6_windowOf 89 = .ok (.iload_n 1, 1) := by decide +kernel
theorem dX6_windowOf_90 : decode cX6_windowOf 90 = .ok (.invokevirtual 210, 3) := by decide +kernel
theorem dX6_windowOf_93 : decode cX6_windowOf 93 = .ok (.ifCond .eq 7, 3) := by decide +kernel
theorem dX6_windowOf_96 : decode cX6_windowOf 96 = .ok (.iconst 1, 1) := by decide +kernel
theorem dX6_windowOf_97 : decode cX6_windowOf 97 = .ok (.goto 4, 3) := by decide +kernel
theorem dX6_windowOf_100 : decode cX6_windowOf 100 = .ok (.iconst 0, 1) := by decide +kernel
theorem dX6_windowOf_101 : decode cX6_windowOf 101 = .ok (.ireturn, 1) := by decide +kernel
theorem dX6_windowOf_102 : decode cX6_windowOf 102 = .ok (.aload_n 0, 1) := by decide +kernel
theorem dX6_windowOf_103 : decode cX6_windowOf 103 = .ok (.iload_n 1, 1) := by decide +kernel
theorem dX6_windowOf_104 : decode cX6_windowOf 104 = .ok (.invokevirtual 213, 3) := by decide +kernel
theorem dX6_windowOf_107 : decode cX6_windowOf 107 = .ok (.ireturn, 1) := by decide +kernel
theorem dX6_windowOf_108 : decode cX6_windowOf 108 = .ok (.aload_n 0, 1) := by decide +kernel
theorem dX6_windowOf_109 : decode cX6_windowOf 109 = .ok (.bipush (-2), 2) := by decide +kernel
theorem dX6_windowOf_111 : decode cX6_windowOf 111 = .ok (.invokevirtual 203, 3) := by decide +kernel
theorem dX6_windowOf_114 : decode cX6_windowOf 114 = .ok (.ireturn, 1) := by decide +kernel
theorem dX6_count_0 : decode cX6_count 0 = .ok (.iconst 0, 1) := by decide +kernel
theorem dX6_count_1 : decode cX6_count 1 = .ok (.istore_n 2, 1) := by decide +kernel
theorem dX6_count_2 : decode cX6_count 2 = .ok (.iload_n 1, 1) := by decide +kernel
theorem dX6_count_3 : decode cX6_count 3 = .ok (.tableswitch 129 0 5 #[37, 42, 47, 52, 77, 77], 37) := by decide +kernel
theorem dX6_count_40 : decode cX6_count 40 = .ok (.aload_n 0, 1) := by decide +kernel
theorem dX6_count_41 : decode cX6_count 41 = .ok (.getfield 222, 3) := by decide +kernel
theorem dX6_count_44 : decode cX6_count 44 = .ok (.ireturn, 1) := by decide +kernel
theorem dX6_count_45 : decode cX6_count 45 = .ok (.aload_n 0, 1) := by decide +kernel
theorem dX6_count_46 : decode cX6_count 46 = .ok (.getfield 97, 3) := by decide +kernel
theorem dX6_count_49 : decode cX6_count 49 = .ok (.ireturn, 1) := by decide +kernel
theorem dX6_count_50 : decode cX6_count 50 = .ok (.aload_n 0, 1) := by decide +kernel
theorem dX6_count_51 : decode cX6_count 51 = .ok (.getfield 104, 3) := by decide +kernel
theorem dX6_count_54 : decode cX6_count 54 = .ok (.ireturn, 1) := by decide +kernel
theorem dX6_count_55 : decode cX6_count 55 = .ok (.iconst 0, 1) := by decide +kernel
theorem dX6_count_56 : decode cX6_count 56 = .ok (.istore_n 3, 1) := by decide +kernel
theorem dX6_count_57 : decode cX6_count 57 = .ok (.iload_n 3, 1) := by decide +kernel
theorem dX6_count_58 : decode cX6_count 58 = .ok (.bipush 8, 2) := by decide +kernel
theorem dX6_count_60 : decode cX6_count 60 = .ok (.if_icmp .ge 18, 3) := by decide +kernel
theorem dX6_count_63 : decode cX6_count 63 = .ok (.iload_n 2, 1) := by decide +kernel
theorem dX6_count_64 : decode cX6_count 64 = .ok (.aload_n 0, 1) := by decide +kernel
theorem dX6_count_65 : decode cX6_count 65 = .ok (.getfield 7, 3) := by decide +kernel
theorem dX6_count_68 : decode cX6_count 68 = .ok (.iload_n 3, 1) := by decide +kernel
theorem dX6_count_69 : decode cX6_count 69 = .ok (.iaload, 1) := by decide +kernel
theorem dX6_count_70 : decode cX6_count 70 = .ok (.iadd, 1) := by decide +kernel
theorem dX6_count_71 : decode cX6_count 71 = .ok (.istore_n 2, 1) := by decide +kernel
theorem dX6_count_72 : decode cX6_count 72 = .ok (.iinc 3 1, 3) := by decide +kernel
theorem dX6_count_75 : decode cX6_count 75 = .ok (.goto (-18), 3) := by decide +kernel
theorem dX6_count_78 : decode cX6_count 78 = .ok (.iload_n 2, 1) := by decide +kernel
theorem dX6_count_79 : decode cX6_count 79 = .ok (.ireturn, 1) := by decide +kernel
theorem dX6_count_80 : decode cX6_count 80 = .ok (.iconst 0, 1) := by decide +kernel
theorem dX6_count_81 : decode cX6_count 81 = .ok (.istore_n 3, 1) := by decide +kernel
theorem dX6_count_82 : decode cX6_count 82 = .ok (.iload_n 3, 1) := by decide +kernel
theorem dX6_count_83 : decode cX6_count 83 = .ok (.aload_n 0, 1) := by decide +kernel
theorem dX6_count_84 : decode cX6_count 84 = .ok (.getfield 104, 3) := by decide +kernel
theorem dX6_count_87 : decode cX6_count 87 = .ok (.if_icmp .ge 43, 3) := by decide +kernel
theorem dX6_count_90 : decode cX6_count 90 = .ok (.iload_n 2, 1) := by decide +kernel
theorem dX6_count_91 : decode cX6_count 91 = .ok (.iload_n 1, 1) := by decide +kernel
theorem dX6_count_92 : decode cX6_count 92 = .ok (.iconst 4, 1) := by decide +kernel
theorem dX6_count_93 : decode cX6_count 93 = .ok (.if_icmp .ne 16, 3) := by decide +kernel
theorem dX6_count_96 : decode cX6_count 96 = .ok (.aload_n 0, 1) := by decide +kernel
theorem dX6_count_97 : decode cX6_count 97 = .ok (.iload_n 3, 1) := by decide +kernel
theorem dX6_count_98 : decode cX6_count 98 = .ok (.invokevirtual 213, 3) := by decide +kernel
theorem dX6_count_101 : decode cX6_count 101 = .ok (.bipush (-9), 2) := by decide +kernel
theorem dX6_count_103 : decode cX6_count 103 = .ok (.if_icmp .ne 18, 3) := by decide +kernel
theorem dX6_count_106 : decode cX6_count 106 = .ok (.goto 11, 3) := by decide +kernel
theorem dX6_count_109 : decode cX6_count 109 = .ok (.aload_n 0, 1) := by decide +kernel
theorem dX6_count_110 : decode cX6_count 110 = .ok (.iload_n 3, 1) := by decide +kernel
theorem dX6_count_111 : decode cX6_count 111 = .ok (.invokevirtual 210, 3) := by decide +kernel
theorem dX6_count_114 : decode cX6_count 114 = .ok (.ifCond .eq 7, 3) := by decide +kernel
theorem dX6_count_117 : decode cX6_count 117 = .ok (.iconst 1, 1) := by decide +kernel
theorem dX6_count_118 : decode cX6_count 118 = .ok (.goto 4, 3) := by decide +kernel
theorem dX6_count_121 : decode cX6_count 121 = .ok (.iconst 0, 1) := by decide +kernel
theorem dX6_count_122 : decode cX6_count 122 = .ok (.iadd, 1) := by decide +kernel
theorem dX6_count_123 : decode cX6_count 123 = .ok (.istore_n 2, 1) := by decide +kernel
theorem dX6_count_124 : decode cX6_count 124 = .ok (.iinc 3 1, 3) := by decide +kernel
theorem dX6_count_127 : decode cX6_count 127 = .ok (.goto (-45), 3) := by decide +kernel
theorem dX6_count_130 : decode cX6_count 130 = .ok (.iload_n 2, 1) := by decide +kernel
theorem dX6_count_131 : decode cX6_count 131 = .ok (.ireturn, 1) := by decide +kernel
theorem dX6_count_132 : decode cX6_count 132 = .ok (.iload_n 1, 1) := by decide +kernel
theorem dX6_count_133 : decode cX6_count 133 = .ok (.bipush 11, 2) := by decide +kernel
theorem dX6_count_135 : decode cX6_count 135 = .ok (.bipush 16, 2) := by decide +kernel
theorem dX6_count_137 : decode cX6_count 137 = .ok (.invokestatic 100, 3) := by decide +kernel
theorem dX6_count_140 : decode cX6_count 140 = .ok (.ifCond .eq 15, 3) := by decide +kernel
theorem dX6_count_143 : decode cX6_count 143 = .ok (.aload_n 0, 1) := by decide +kernel
theorem dX6_count_144 : decode cX6_count 144 = .ok (.getfield 87, 3) := by decide +kernel
theorem dX6_count_147 : decode cX6_count 147 = .ok (.iload_n 1, 1) := by decide +kernel
theorem dX6_count_148 : decode cX6_count 148 = .ok (.bipush 10, 2) := by decide +kernel
theorem dX6_count_150 : decode cX6_count 150 = .ok (.isub, 1) := by decide +kernel
theorem dX6_count_151 : decode cX6_count 151 = .ok (.iaload, 1) := by decide +kernel
theorem dX6_count_152 : decode cX6_count 152 = .ok (.goto 5, 3) := by decide +kernel
theorem dX6_count_155 : decode cX6_count 155 = .ok (.bipush (-9), 2) := by decide +kernel
theorem dX6_count_157 : decode cX6_count 157 = .ok (.ireturn, 1) := by decide +kernel
end
section
theorem dL_law_0 : decode cL_law 0 = .ok (.new 7, 3) := by decide +kernel
theorem dL_law_3 : decode cL_law 3 = .ok (.dup, 1) := by decide +kernel
theorem dL_law_4 : decode cL_law 4 = .ok (.invokespecial 9, 3) := by decide +kernel
theorem dL_law_7 : decode cL_law 7 = .ok (.astore_n 1, 1) := by decide +kernel
theorem dL_law_8 : decode cL_law 8 = .ok (.new 10, 3) := by decide +kernel
theorem dL_law_11 : decode cL_law 11 = .ok (.dup, 1) := by decide +kernel
theorem dL_law_12 : decode cL_law 12 = .ok (.invokespecial 12, 3) := by decide +kernel
theorem dL_law_15 : decode cL_law 15 = .ok (.astore_n 2, 1) := by decide +kernel
theorem dL_law_16 : decode cL_law 16 = .ok (.iconst 0, 1) := by decide +kernel
theorem dL_law_17 : decode cL_law 17 = .ok (.istore_n 3, 1) := by decide +kernel
theorem dL_law_18 : decode cL_law 18 = .ok (.iload_n 3, 1) := by decide +kernel
theorem dL_law_19 : decode cL_law 19 = .ok (.aload_n 0, 1) := by decide +kernel
theorem dL_law_20 : decode cL_law 20 = .ok (.arraylength, 1) := by decide +kernel
theorem dL_law_21 : decode cL_law 21 = .ok (.bipush 8, 2) := by decide +kernel
theorem dL_law_23 : decode cL_law 23 = .ok (.isub, 1) := by decide +kernel
theorem dL_law_24 : decode cL_law 24 = .ok (.if_icmp .gt 1007, 3) := by decide +kernel
theorem dL_law_27 : decode cL_law 27 = .ok (.aload_n 0, 1) := by decide +kernel
theorem dL_law_28 : decode cL_law 28 = .ok (.iload_n 3, 1) := by decide +kernel
theorem dL_law_29 : decode cL_law 29 = .ok (.iaload, 1) := by decide +kernel
theorem dL_law_30 : decode cL_law 30 = .ok (.bipush 31, 2) := by decide +kernel
theorem dL_law_32 : decode cL_law 32 = .ok (.iand, 1) := by decide +kernel
theorem dL_law_33 : decode cL_law 33 = .ok (.tableswitch 992 0 22 #[107, 160, 247, 290, 323, 356, 379, 402, 477, 500, 533, 576, 629, 682, 725, 758, 801, 824, 857, 880, 903, 936, 969], 107) := by decide +kernel
theorem dL_law_140 : decode cL_law 140 = .ok (.aload_n 1, 1) := by decide +kernel
theorem dL_law_141 : decode cL_law 141 = .ok (.aload_n 0, 1) := by decide +kernel
theorem dL_law_142 : decode cL_law 142 = .ok (.iload_n 3, 1) := by decide +kernel
theorem dL_law_143 : decode cL_law 143 = .ok (.iconst 1, 1) := by decide +kernel
theorem dL_law_144 : decode cL_law 144 = .ok (.iadd, 1) := by decide +kernel
theorem dL_law_145 : decode cL_law 145 = .ok (.iaload, 1) := by decide +kernel
theorem dL_law_146 : decode cL_law 146 = .ok (.aload_n 0, 1) := by decide +kernel
theorem dL_law_147 : decode cL_law 147 = .ok (.iload_n 3, 1) := by decide +kernel
theorem dL_law_148 : decode cL_law 148 = .ok (.iconst 2, 1) := by decide +kernel
theorem dL_law_149 : decode cL_law 149 = .ok (.iadd, 1) := by decide +kernel
theorem dL_law_150 : decode cL_law 150 = .ok (.iaload, 1) := by decide +kernel
theorem dL_law_151 : decode cL_law 151 = .ok (.aload_n 0, 1) := by decide +kernel
theorem dL_law_152 : decode cL_law 152 = .ok (.iload_n 3, 1) := by decide +kernel
theorem dL_law_153 : decode cL_law 153 = .ok (.iconst 3, 1) := by decide +kernel
theorem dL_law_154 : decode cL_law 154 = .ok (.iadd, 1) := by decide +kernel
theorem dL_law_155 : decode cL_law 155 = .ok (.iaload, 1) := by decide +kernel
theorem dL_law_156 : decode cL_law 156 = .ok (.aload_n 0, 1) := by decide +kernel
theorem dL_law_157 : decode cL_law 157 = .ok (.iload_n 3, 1) := by decide +kernel
theorem dL_law_158 : decode cL_law 158 = .ok (.iconst 4, 1) := by decide +kernel
theorem dL_law_159 : decode cL_law 159 = .ok (.iadd, 1) := by decide +kernel
theorem dL_law_160 : decode cL_law 160 = .ok (.iaload, 1) := by decide +kernel
theorem dL_law_161 : decode cL_law 161 = .ok (.invokevirtual 13, 3) := by decide +kernel
theorem dL_law_164 : decode cL_law 164 = .ok (.aload_n 2, 1) := by decide +kernel
theorem dL_law_165 : decode cL_law 165 = .ok (.aload_n 0, 1) := by decide +kernel
theorem dL_law_166 : decode cL_law 166 = .ok (.iload_n 3, 1) := by decide +kernel
theorem dL_law_167 : decode cL_law 167 = .ok (.iconst 1, 1) := by decide +kernel
theorem dL_law_168 : decode cL_law 168 = .ok (.iadd, 1) := by decide +kernel
theorem dL_law_169 : decode cL_law 169 = .ok (.iaload, 1) := by decide +kernel
theorem dL_law_170 : decode cL_law 170 = .ok (.aload_n 0, 1) := by decide +kernel
theorem dL_law_171 : decode cL_law 171 = .ok (.iload_n 3, 1) := by decide +kernel
theorem dL_law_172 : decode cL_law 172 = .ok (.iconst 2, 1) := by decide +kernel
theorem dL_law_173 : decode cL_law 173 = .ok (.iadd, 1) := by decide +kernel
theorem dL_law_174 : decode cL_law 174 = .ok (.iaload, 1) := by decide +kernel
theorem dL_law_175 : decode cL_law 175 = .ok (.aload_n 0, 1) := by decide +kernel
theorem dL_law_176 : decode cL_law 176 = .ok (.iload_n 3, 1) := by decide +kernel
theorem dL_law_177 : decode cL_law 177 = .ok (.iconst 3, 1) := by decide +kernel
theorem dL_law_178 : decode cL_law 178 = .ok (.iadd, 1) := by decide +kernel
theorem dL_law_179 : decode cL_law 179 = .ok (.iaload, 1) := by decide +kernel
theorem dL_law_180 : decode cL_law 180 = .ok (.aload_n 0, 1) := by decide +kernel
theorem dL_law_181 : decode cL_law 181 = .ok (.iload_n 3, 1) := by decide +kernel
theorem dL_law_182 : decode cL_law 182 = .ok (.iconst 4, 1) := by decide +kernel
theorem dL_law_183 : decode cL_law 183 = .ok (.iadd, 1) := by decide +kernel
theorem dL_law_184 : decode cL_law 184 = .ok (.iaload, 1) := by decide +kernel
theorem dL_law_185 : decode cL_law 185 = .ok (.invokevirtual 17, 3) := by decide +kernel
theorem dL_law_188 : decode cL_law 188 = .ok (.if_icmp .eq 837, 3) := by decide +kernel
theorem dL_law_191 : decode cL_law 191 = .ok (.iconst 0, 1) := by decide +kernel
theorem dL_law_192 : decode cL_law 192 = .ok (.ireturn, 1) := by decide +kernel
theorem dL_law_193 : decode cL_law 193 = .ok (.aload_n 1, 1) := by decide +kernel
theorem dL_law_194 : decode cL_law 194 = .ok (.aload_n 0, 1) := by decide +kernel
theorem dL_law_195 : decode cL_law 195 = .ok (.iload_n 3, 1) := by decide +kernel
theorem dL_law_196 : decode cL_law 196 = .ok (.iconst 1, 1) := by decide +kernel
theorem dL_law_197 : decode cL_law 197 = .ok (.iadd, 1) := by decide +kernel
theorem dL_law_198 : decode cL_law 198 = .ok (.iaload, 1) := by decide +kernel
theorem dL_law_199 : decode cL_law 199 = .ok (.aload_n 0, 1) := by decide +kernel
theorem dL_law_200 : decode cL_law 200 = .ok (.iload_n 3, 1) := by decide +kernel
theorem dL_law_201 : decode cL_law 201 = .ok (.iconst 2, 1) := by decide +kernel
theorem dL_law_202 : decode cL_law 202 = .ok (.iadd, 1) := by decide +kernel
theorem dL_law_203 : decode cL_law 203 = .ok (.iaload, 1) := by decide +kernel
theorem dL_law_204 : decode cL_law 204 = .ok (.aload_n 0, 1) := by decide +kernel
theorem dL_law_205 : decode cL_law 205 = .ok (.iload_n 3, 1) := by decide +kernel
theorem dL_law_206 : decode cL_law 206 = .ok (.iconst 3, 1) := by decide +kernel
theorem dL_law_207 : decode cL_law 207 = .ok (.iadd, 1) := by decide +kernel
theorem dL_law_208 : decode cL_law 208 = .ok (.iaload, 1) := by decide +kernel
theorem dL_law_209 : decode cL_law 209 = .ok (.aload_n 0, 1) := by decide +kernel
theorem dL_law_210 : decode cL_law 210 = .ok (.iload_n 3, 1) := by decide +kernel
theorem dL_law_211 : decode cL_law 211 = .ok (.iconst 4, 1) := by decide +kernel
theorem dL_law_212 : decode cL_law 212 = .ok (.iadd, 1) := by decide +kernel
theorem dL_law_213 : decode cL_law 213 = .ok (.iaload, 1) := by decide +kernel
theorem dL_law_214 : decode cL_law 214 = .ok (.aload_n 0, 1) := by decide +kernel
theorem dL_law_215 : decode cL_law 215 = .ok (.iload_n 3, 1) := by decide +kernel
theorem dL_law_216 : decode cL_law 216 = .ok (.iconst 5, 1) := by decide +kernel
theorem dL_law_217 : decode cL_law 217 = .ok (.iadd, 1) := by decide +kernel
theorem dL_law_218 : decode cL_law 218 = .ok (.iaload, 1) := by decide +kernel
theorem dL_law_219 : decode cL_law 219 = .ok (.aload_n 0, 1) := by decide +kernel
theorem dL_law_220 : decode cL_law 220 = .ok (.iload_n 3, 1) := by decide +kernel
theorem dL_law_221 : decode cL_law 221 = .ok (.bipush 6, 2) := by decide +kernel
theorem dL_law_223 : decode cL_law 223 = .ok (.iadd, 1) := by decide +kernel
theorem dL_law_224 : decode cL_law 224 = .ok (.iaload, 1) := by decide +kernel
theorem dL_law_225 : decode cL_law 225 = .ok (.aload_n 0, 1) := by decide +kernel
theorem dL_law_226 : decode cL_law 226 = .ok (.iload_n 3, 1) := by decide +kernel
theorem dL_law_227 : decode cL_law 227 = .ok (.bipush 7, 2) := by decide +kernel
theorem dL_law_229 : decode cL_law 229 = .ok (.iadd, 1) := by decide +kernel
theorem dL_law_230 : decode cL_law 230 = .ok (.iaload, 1) := by decide +kernel
theorem dL_law_231 : decode cL_law 231 = .ok (.invokevirtual 18, 3) := by decide +kernel
theorem dL_law_234 : decode cL_law 234 = .ok (.aload_n 2, 1) := by decide +kernel
theorem dL_law_235 : decode cL_law 235 = .ok (.aload_n 0, 1) := by decide +kernel
theorem dL_law_236 : decode cL_law 236 = .ok (.iload_n 3, 1) := by decide +kernel
theorem dL_law_237 : decode cL_law 237 = .ok (.iconst 1, 1) := by decide +kernel
theorem dL_law_238 : decode cL_law 238 = .ok (.iadd, 1) := by decide +kernel
theorem dL_law_239 : decode cL_law 239 = .ok (.iaload, 1) := by decide +kernel
theorem dL_law_240 : decode cL_law 240 = .ok (.aload_n 0, 1) := by decide +kernel
theorem dL_law_241 : decode cL_law 241 = .ok (.iload_n 3, 1) := by decide +kernel
theorem dL_law_242 : decode cL_law 242 = .ok (.iconst 2, 1) := by decide +kernel
theorem dL_law_243 : decode cL_law 243 = .ok (.iadd, 1) := by decide +kernel
theorem dL_law_244 : decode cL_law 244 = .ok (.iaload, 1) := by decide +kernel
theorem dL_law_245 : decode cL_law 245 = .ok (.aload_n 0, 1) := by decide +kernel
theorem dL_law_246 : decode cL_law 246 = .ok (.iload_n 3, 1) := by decide +kernel
theorem dL_law_247 : decode cL_law 247 = .ok (.iconst 3, 1) := by decide +kernel
theorem dL_law_248 : decode cL_law 248 = .ok (.iadd, 1) := by decide +kernel
theorem dL_law_249 : decode cL_law 249 = .ok (.iaload, 1) := by decide +kernel
theorem dL_law_250 : decode cL_law 250 = .ok (.aload_n 0, 1) := by decide +kernel
theorem dL_law_251 : decode cL_law 251 = .ok (.iload_n 3, 1) := by decide +kernel
theorem dL_law_252 : decode cL_law 252 = .ok (.iconst 4, 1) := by decide +kernel
theorem dL_law_253 : decode cL_law 253 = .ok (.iadd, 1) := by decide +kernel
theorem dL_law_254 : decode cL_law 254 = .ok (.iaload, 1) := by decide +kernel
theorem dL_law_255 : decode cL_law 255 = .ok (.aload_n 0, 1) := by decide +kernel
theorem dL_law_256 : decode cL_law 256 = .ok (.iload_n 3, 1) := by decide +kernel
theorem dL_law_257 : decode cL_law 257 = .ok (.iconst 5, 1) := by decide +kernel
theorem dL_law_258 : decode cL_law 258 = .ok (.iadd, 1) := by decide +kernel
theorem dL_law_259 : decode cL_law 259 = .ok (.iaload, 1) := by decide +kernel
theorem dL_law_260 : decode cL_law 260 = .ok (.aload_n 0, 1) := by decide +kernel
theorem dL_law_261 : decode cL_law 261 = .ok (.iload_n 3, 1) := by decide +kernel
theorem dL_law_262 : decode cL_law 262 = .ok (.bipush 6, 2) := by decide +kernel
theorem dL_law_264 : decode cL_law 264 = .ok (.iadd, 1) := by decide +kernel
theorem dL_law_265 : decode cL_law 265 = .ok (.iaload, 1) := by decide +kernel
theorem dL_law_266 : decode cL_law 266 = .ok (.aload_n 0, 1) := by decide +kernel
theorem dL_law_267 : decode cL_law 267 = .ok (.iload_n 3, 1) := by decide +kernel
theorem dL_law_268 : decode cL_law 268 = .ok (.bipush 7, 2) := by decide +kernel
theorem dL_law_270 : decode cL_law 270 = .ok (.iadd, 1) := by decide +kernel
theorem dL_law_271 : decode cL_law 271 = .ok (.iaload, 1) := by decide +kernel
theorem dL_law_272 : decode cL_law 272 = .ok (.invokevirtual 22, 3) := by decide +kernel
theorem dL_law_275 : decode cL_law 275 = .ok (.if_icmp .eq 750, 3) := by decide +kernel
theorem dL_law_278 : decode cL_law 278 = .ok (.iconst 0, 1) := by decide +kernel
theorem dL_law_279 : decode cL_law 279 = .ok (.ireturn, 1) := by decide +kernel
theorem dL_law_280 : decode cL_law 280 = .ok (.aload_n 1, 1) := by decide +kernel
theorem dL_law_281 : decode cL_law 281 = .ok (.aload_n 0, 1) := by decide +kernel
theorem dL_law_282 : decode cL_law 282 = .ok (.iload_n 3, 1) := by decide +kernel
theorem dL_law_283 : decode cL_law 283 = .ok (.iconst 1, 1) := by decide +kernel
theorem dL_law_284 : decode cL_law 284 = .ok (.iadd, 1) := by decide +kernel
theorem dL_law_285 : decode cL_law 285 = .ok (.iaload, 1) := by decide +kernel
theorem dL_law_286 : decode cL_law 286 = .ok (.aload_n 0, 1) := by decide +kernel
theorem dL_law_287 : decode cL_law 287 = .ok (.iload_n 3, 1) := by decide +kernel
theorem dL_law_288 : decode cL_law 288 = .ok (.iconst 2, 1) := by decide +kernel
theorem dL_law_289 : decode cL_law 289 = .ok (.iadd, 1) := by decide +kernel
theorem dL_law_290 : decode cL_law 290 = .ok (.iaload, 1) := by decide +kernel
theorem dL_law_291 : decode cL_law 291 = .ok (.aload_n 0, 1) := by decide +kernel
theorem dL_law_292 : decode cL_law 292 = .ok (.iload_n 3, 1) := by decide +kernel
theorem dL_law_293 : decode cL_law 293 = .ok (.iconst 3, 1) := by decide +kernel
theorem dL_law_294 : decode cL_law 294 = .ok (.iadd, 1) := by decide +kernel
theorem dL_law_295 : decode cL_law 295 = .ok (.iaload, 1) := by decide +kernel
theorem dL_law_296 : decode cL_law 296 = .ok (.invokevirtual 23, 3) := by decide +kernel
theorem dL_law_299 : decode cL_law 299 = .ok (.aload_n 2, 1) := by decide +kernel
theorem dL_law_300 : decode cL_law 300 = .ok (.aload_n 0, 1) := by decide +kernel
theorem dL_law_301 : decode cL_law 301 = .ok (.iload_n 3, 1) := by decide +kernel
theorem dL_law_302 : decode cL_law 302 = .ok (.iconst 1, 1) := by decide +kernel
theorem dL_law_303 : decode cL_law 303 = .ok (.iadd, 1) := by decide +kernel
theorem dL_law_304 : decode cL_law 304 = .ok (.iaload, 1) := by decide +kernel
theorem dL_law_305 : decode cL_law 305 = .ok (.aload_n 0, 1) := by decide +kernel
theorem dL_law_306 : decode cL_law 306 = .ok (.iload_n 3, 1) := by decide +kernel
theorem dL_law_307 : decode cL_law 307 = .ok (.iconst 2, 1) := by decide +kernel
theorem dL_law_308 : decode cL_law 308 = .ok (.iadd, 1) := by decide +kernel
theorem dL_law_309 : decode cL_law 309 = .ok (.iaload, 1) := by decide +kernel
theorem dL_law_310 : decode cL_law 310 = .ok (.aload_n 0, 1) := by decide +kernel
theorem dL_law_311 : decode cL_law 311 = .ok (.iload_n 3, 1) := by decide +kernel
theorem dL_law_312 : decode cL_law 312 = .ok (.iconst 3, 1) := by decide +kernel
theorem dL_law_313 : decode cL_law 313 = .ok (.iadd, 1) := by decide +kernel
theorem dL_law_314 : decode cL_law 314 = .ok (.iaload, 1) := by decide +kernel
theorem dL_law_315 : decode cL_law 315 = .ok (.invokevirtual 27, 3) := by decide +kernel
theorem dL_law_318 : decode cL_law 318 = .ok (.if_icmp .eq 707, 3) := by decide +kernel
theorem dL_law_321 : decode cL_law 321 = .ok (.iconst 0, 1) := by decide +kernel
theorem dL_law_322 : decode cL_law 322 = .ok (.ireturn, 1) := by decide +kernel
theorem dL_law_323 : decode cL_law 323 = .ok (.aload_n 1, 1) := by decide +kernel
theorem dL_law_324 : decode cL_law 324 = .ok (.aload_n 0, 1) := by decide +kernel
theorem dL_law_325 : decode cL_law 325 = .ok (.iload_n 3, 1) := by decide +kernel
theorem dL_law_326 : decode cL_law 326 = .ok (.iconst 1, 1) := by decide +kernel
theorem dL_law_327 : decode cL_law 327 = .ok (.iadd, 1) := by decide +kernel
theorem dL_law_328 : decode cL_law 328 = .ok (.iaload, 1) := by decide +kernel
theorem dL_law_329 : decode cL_law 329 = .ok (.aload_n 0, 1) := by decide +kernel
theorem dL_law_330 : decode cL_law 330 = .ok (.iload_n 3, 1) := by decide +kernel
theorem dL_law_331 : decode cL_law 331 = .ok (.iconst 2, 1) := by decide +kernel
theorem dL_law_332 : decode cL_law 332 = .ok (.iadd, 1) := by decide +kernel
theorem dL_law_333 : decode cL_law 333 = .ok (.iaload, 1) := by decide +kernel
theorem dL_law_334 : decode cL_law 334 = .ok (.invokevirtual 28, 3) := by decide +kernel
theorem dL_law_337 : decode cL_law 337 = .ok (.aload_n 2, 1) := by decide +kernel
theorem dL_law_338 : decode cL_law 338 = .ok (.aload_n 0, 1) := by decide +kernel
theorem dL_law_339 : decode cL_law 339 = .ok (.iload_n 3, 1) := by decide +kernel
theorem dL_law_340 : decode cL_law 340 = .ok (.iconst 1, 1) := by decide +kernel
theorem dL_law_341 : decode cL_law 341 = .ok (.iadd, 1) := by decide +kernel
theorem dL_law_342 : decode cL_law 342 = .ok (.iaload, 1) := by decide +kernel
theorem dL_law_343 : decode cL_law 343 = .ok (.aload_n 0, 1) := by decide +kernel
theorem dL_law_344 : decode cL_law 344 = .ok (.iload_n 3, 1) := by decide +kernel
theorem dL_law_345 : decode cL_law 345 = .ok (.iconst 2, 1) := by decide +kernel
theorem dL_law_346 : decode cL_law 346 = .ok (.iadd, 1) := by decide +kernel
theorem dL_law_347 : decode cL_law 347 = .ok (.iaload, 1) := by decide +kernel
theorem dL_law_348 : decode cL_law 348 = .ok (.invokevirtual 32, 3) := by decide +kernel
theorem dL_law_351 : decode cL_law 351 = .ok (.if_icmp .eq 674, 3) := by decide +kernel
theorem dL_law_354 : decode cL_law 354 = .ok (.iconst 0, 1) := by decide +kernel
theorem dL_law_355 : decode cL_law 355 = .ok (.ireturn, 1) := by decide +kernel
theorem dL_law_356 : decode cL_law 356 = .ok (.aload_n 1, 1) := by decide +kernel
theorem dL_law_357 : decode cL_law 357 = .ok (.aload_n 0, 1) := by decide +kernel
theorem dL_law_358 : decode cL_law 358 = .ok (.iload_n 3, 1) := by decide +kernel
theorem dL_law_359 : decode cL_law 359 = .ok (.iconst 1, 1) := by decide +kernel
theorem dL_law_360 : decode cL_law 360 = .ok (.iadd, 1) := by decide +kernel
theorem dL_law_361 : decode cL_law 361 = .ok (.iaload, 1) := by decide +kernel
theorem dL_law_362 : decode cL_law 362 = .ok (.aload_n 0, 1) := by decide +kernel
theorem dL_law_363 : decode cL_law 363 = .ok (.iload_n 3, 1) := by decide +kernel
theorem dL_law_364 : decode cL_law 364 = .ok (.iconst 2, 1) := by decide +kernel
theorem dL_law_365 : decode cL_law 365 = .ok (.iadd, 1) := by decide +kernel
theorem dL_law_366 : decode cL_law 366 = .ok (.iaload, 1) := by decide +kernel
theorem dL_law_367 : decode cL_law 367 = .ok (.invokevirtual 33, 3) := by decide +kernel
theorem dL_law_370 : decode cL_law 370 = .ok (.aload_n 2, 1) := by decide +kernel
theorem dL_law_371 : decode cL_law 371 = .ok (.aload_n 0, 1) := by decide +kernel
theorem dL_law_372 : decode cL_law 372 = .ok (.iload_n 3, 1) := by decide +kernel
theorem dL_law_373 : decode cL_law 373 = .ok (.iconst 1, 1) := by decide +kernel
theorem dL_law_374 : decode cL_law 374 = .ok (.iadd, 1) := by decide +kernel
theorem dL_law_375 : decode cL_law 375 = .ok (.iaload, 1) := by decide +kernel
theorem dL_law_376 : decode cL_law 376 = .ok (.aload_n 0, 1) := by decide +kernel
theorem dL_law_377 : decode cL_law 377 = .ok (.iload_n 3, 1) := by decide +kernel
theorem dL_law_378 : decode cL_law 378 = .ok (.iconst 2, 1) := by decide +kernel
theorem dL_law_379 : decode cL_law 379 = .ok (.iadd, 1) := by decide +kernel
theorem dL_law_380 : decode cL_law 380 = .ok (.iaload, 1) := by decide +kernel
theorem dL_law_381 : decode cL_law 381 = .ok (.invokevirtual 36, 3) := by decide +kernel
theorem dL_law_384 : decode cL_law 384 = .ok (.if_icmp .eq 641, 3) := by decide +kernel
theorem dL_law_387 : decode cL_law 387 = .ok (.iconst 0, 1) := by decide +kernel
theorem dL_law_388 : decode cL_law 388 = .ok (.ireturn, 1) := by decide +kernel
theorem dL_law_389 : decode cL_law 389 = .ok (.aload_n 1, 1) := by decide +kernel
theorem dL_law_390 : decode cL_law 390 = .ok (.aload_n 0, 1) := by decide +kernel
theorem dL_law_391 : decode cL_law 391 = .ok (.iload_n 3, 1) := by decide +kernel
theorem dL_law_392 : decode cL_law 392 = .ok (.iconst 1, 1) := by decide +kernel
theorem dL_law_393 : decode cL_law 393 = .ok (.iadd, 1) := by decide +kernel
theorem dL_law_394 : decode cL_law 394 = .ok (.iaload, 1) := by decide +kernel
theorem dL_law_395 : decode cL_law 395 = .ok (.invokevirtual 37, 3) := by decide +kernel
theorem dL_law_398 : decode cL_law 398 = .ok (.aload_n 2, 1) := by decide +kernel
theorem dL_law_399 : decode cL_law 399 = .ok (.aload_n 0, 1) := by decide +kernel
theorem dL_law_400 : decode cL_law 400 = .ok (.iload_n 3, 1) := by decide +kernel
theorem dL_law_401 : decode cL_law 401 = .ok (.iconst 1, 1) := by decide +kernel
theorem dL_law_402 : decode cL_law 402 = .ok (.iadd, 1) := by decide +kernel
theorem dL_law_403 : decode cL_law 403 = .ok (.iaload, 1) := by decide +kernel
theorem dL_law_404 : decode cL_law 404 = .ok (.invokevirtual 41, 3) := by decide +kernel
theorem dL_law_407 : decode cL_law 407 = .ok (.if_icmp .eq 618, 3) := by decide +kernel
theorem dL_law_410 : decode cL_law 410 = .ok (.iconst 0, 1) := by decide +kernel
theorem dL_law_411 : decode cL_law 411 = .ok (.ireturn, 1) := by decide +kernel
theorem dL_law_412 : decode cL_law 412 = .ok (.aload_n 1, 1) := by decide +kernel
theorem dL_law_413 : decode cL_law 413 = .ok (.aload_n 0, 1) := by decide +kernel
theorem dL_law_414 : decode cL_law 414 = .ok (.iload_n 3, 1) := by decide +kernel
theorem dL_law_415 : decode cL_law 415 = .ok (.iconst 1, 1) := by decide +kernel
theorem dL_law_416 : decode cL_law 416 = .ok (.iadd, 1) := by decide +kernel
theorem dL_law_417 : decode cL_law 417 = .ok (.iaload, 1) := by decide +kernel
theorem dL_law_418 : decode cL_law 418 = .ok (.invokevirtual 42, 3) := by decide +kernel
theorem dL_law_421 : decode cL_law 421 = .ok (.aload_n 2, 1) := by decide +kernel
theorem dL_law_422 : decode cL_law 422 = .ok (.aload_n 0, 1) := by decide +kernel
theorem dL_law_423 : decode cL_law 423 = .ok (.iload_n 3, 1) := by decide +kernel
theorem dL_law_424 : decode cL_law 424 = .ok (.iconst 1, 1) := by decide +kernel
theorem dL_law_425 : decode cL_law 425 = .ok (.iadd, 1) := by decide +kernel
theorem dL_law_426 : decode cL_law 426 = .ok (.iaload, 1) := by decide +kernel
theorem dL_law_427 : decode cL_law 427 = .ok (.invokevirtual 45, 3) := by decide +kernel
theorem dL_law_430 : decode cL_law 430 = .ok (.if_icmp .eq 595, 3) := by decide +kernel
theorem dL_law_433 : decode cL_law 433 = .ok (.iconst 0, 1) := by decide +kernel
theorem dL_law_434 : decode cL_law 434 = .ok (.ireturn, 1) := by decide +kernel
theorem dL_law_435 : decode cL_law 435 = .ok (.aload_n 1, 1) := by decide +kernel
theorem dL_law_436 : decode cL_law 436 = .ok (.aload_n 0, 1) := by decide +kernel
theorem dL_law_437 : decode cL_law 437 = .ok (.iload_n 3, 1) := by decide +kernel
theorem dL_law_438 : decode cL_law 438 = .ok (.iconst 1, 1) := by decide +kernel
theorem dL_law_439 : decode cL_law 439 = .ok (.iadd, 1) := by decide +kernel
theorem dL_law_440 : decode cL_law 440 = .ok (.iaload, 1) := by decide +kernel
theorem dL_law_441 : decode cL_law 441 = .ok (.aload_n 0, 1) := by decide +kernel
theorem dL_law_442 : decode cL_law 442 = .ok (.iload_n 3, 1) := by decide +kernel
theorem dL_law_443 : decode cL_law 443 = .ok (.iconst 2, 1) := by decide +kernel
theorem dL_law_444 : decode cL_law 444 = .ok (.iadd, 1) := by decide +kernel
theorem dL_law_445 : decode cL_law 445 = .ok (.iaload, 1) := by decide +kernel
theorem dL_law_446 : decode cL_law 446 = .ok (.aload_n 0, 1) := by decide +kernel
theorem dL_law_447 : decode cL_law 447 = .ok (.iload_n 3, 1) := by decide +kernel
theorem dL_law_448 : decode cL_law 448 = .ok (.iconst 3, 1) := by decide +kernel
theorem dL_law_449 : decode cL_law 449 = .ok (.iadd, 1) := by decide +kernel
theorem dL_law_450 : decode cL_law 450 = .ok (.iaload, 1) := by decide +kernel
theorem dL_law_451 : decode cL_law 451 = .ok (.aload_n 0, 1) := by decide +kernel
theorem dL_law_452 : decode cL_law 452 = .ok (.iload_n 3, 1) := by decide +kernel
theorem dL_law_453 : decode cL_law 453 = .ok (.iconst 4, 1) := by decide +kernel
theorem dL_law_454 : decode cL_law 454 = .ok (.iadd, 1) := by decide +kernel
theorem dL_law_455 : decode cL_law 455 = .ok (.iaload, 1) := by decide +kernel
theorem dL_law_456 : decode cL_law 456 = .ok (.aload_n 0, 1) := by decide +kernel
theorem dL_law_457 : decode cL_law 457 = .ok (.iload_n 3, 1) := by decide +kernel
theorem dL_law_458 : decode cL_law 458 = .ok (.iconst 5, 1) := by decide +kernel
theorem dL_law_459 : decode cL_law 459 = .ok (.iadd, 1) := by decide +kernel
theorem dL_law_460 : decode cL_law 460 = .ok (.iaload, 1) := by decide +kernel
theorem dL_law_461 : decode cL_law 461 = .ok (.aload_n 0, 1) := by decide +kernel
theorem dL_law_462 : decode cL_law 462 = .ok (.iload_n 3, 1) := by decide +kernel
theorem dL_law_463 : decode cL_law 463 = .ok (.bipush 6, 2) := by decide +kernel
theorem dL_law_465 : decode cL_law 465 = .ok (.iadd, 1) := by decide +kernel
theorem dL_law_466 : decode cL_law 466 = .ok (.iaload, 1) := by decide +kernel
theorem dL_law_467 : decode cL_law 467 = .ok (.invokevirtual 46, 3) := by decide +kernel
theorem dL_law_470 : decode cL_law 470 = .ok (.aload_n 2, 1) := by decide +kernel
theorem dL_law_471 : decode cL_law 471 = .ok (.aload_n 0, 1) := by decide +kernel
theorem dL_law_472 : decode cL_law 472 = .ok (.iload_n 3, 1) := by decide +kernel
theorem dL_law_473 : decode cL_law 473 = .ok (.iconst 1, 1) := by decide +kernel
theorem dL_law_474 : decode cL_law 474 = .ok (.iadd, 1) := by decide +kernel
theorem dL_law_475 : decode cL_law 475 = .ok (.iaload, 1) := by decide +kernel
theorem dL_law_476 : decode cL_law 476 = .ok (.aload_n 0, 1) := by decide +kernel
theorem dL_law_477 : decode cL_law 477 = .ok (.iload_n 3, 1) := by decide +kernel
theorem dL_law_478 : decode cL_law 478 = .ok (.iconst 2, 1) := by decide +kernel
theorem dL_law_479 : decode cL_law 479 = .ok (.iadd, 1) := by decide +kernel
theorem dL_law_480 : decode cL_law 480 = .ok (.iaload, 1) := by decide +kernel
theorem dL_law_481 : decode cL_law 481 = .ok (.aload_n 0, 1) := by decide +kernel
theorem dL_law_482 : decode cL_law 482 = .ok (.iload_n 3, 1) := by decide +kernel
theorem dL_law_483 : decode cL_law 483 = .ok (.iconst 3, 1) := by decide +kernel
theorem dL_law_484 : decode cL_law 484 = .ok (.iadd, 1) := by decide +kernel
theorem dL_law_485 : decode cL_law 485 = .ok (.iaload, 1) := by decide +kernel
theorem dL_law_486 : decode cL_law 486 = .ok (.aload_n 0, 1) := by decide +kernel
theorem dL_law_487 : decode cL_law 487 = .ok (.iload_n 3, 1) := by decide +kernel
theorem dL_law_488 : decode cL_law 488 = .ok (.iconst 4, 1) := by decide +kernel
theorem dL_law_489 : decode cL_law 489 = .ok (.iadd, 1) := by decide +kernel
theorem dL_law_490 : decode cL_law 490 = .ok (.iaload, 1) := by decide +kernel
theorem dL_law_491 : decode cL_law 491 = .ok (.aload_n 0, 1) := by decide +kernel
theorem dL_law_492 : decode cL_law 492 = .ok (.iload_n 3, 1) := by decide +kernel
theorem dL_law_493 : decode cL_law 493 = .ok (.iconst 5, 1) := by decide +kernel
theorem dL_law_494 : decode cL_law 494 = .ok (.iadd, 1) := by decide +kernel
theorem dL_law_495 : decode cL_law 495 = .ok (.iaload, 1) := by decide +kernel
theorem dL_law_496 : decode cL_law 496 = .ok (.aload_n 0, 1) := by decide +kernel
theorem dL_law_497 : decode cL_law 497 = .ok (.iload_n 3, 1) := by decide +kernel
theorem dL_law_498 : decode cL_law 498 = .ok (.bipush 6, 2) := by decide +kernel
theorem dL_law_500 : decode cL_law 500 = .ok (.iadd, 1) := by decide +kernel
theorem dL_law_501 : decode cL_law 501 = .ok (.iaload, 1) := by decide +kernel
theorem dL_law_502 : decode cL_law 502 = .ok (.invokevirtual 50, 3) := by decide +kernel
theorem dL_law_505 : decode cL_law 505 = .ok (.if_icmp .eq 520, 3) := by decide +kernel
theorem dL_law_508 : decode cL_law 508 = .ok (.iconst 0, 1) := by decide +kernel
theorem dL_law_509 : decode cL_law 509 = .ok (.ireturn, 1) := by decide +kernel
theorem dL_law_510 : decode cL_law 510 = .ok (.aload_n 1, 1) := by decide +kernel
theorem dL_law_511 : decode cL_law 511 = .ok (.aload_n 0, 1) := by decide +kernel
theorem dL_law_512 : decode cL_law 512 = .ok (.iload_n 3, 1) := by decide +kernel
theorem dL_law_513 : decode cL_law 513 = .ok (.iconst 1, 1) := by decide +kernel
theorem dL_law_514 : decode cL_law 514 = .ok (.iadd, 1) := by decide +kernel
theorem dL_law_515 : decode cL_law 515 = .ok (.iaload, 1) := by decide +kernel
theorem dL_law_516 : decode cL_law 516 = .ok (.invokevirtual 51, 3) := by decide +kernel
theorem dL_law_519 : decode cL_law 519 = .ok (.aload_n 2, 1) := by decide +kernel
theorem dL_law_520 : decode cL_law 520 = .ok (.aload_n 0, 1) := by decide +kernel
theorem dL_law_521 : decode cL_law 521 = .ok (.iload_n 3, 1) := by decide +kernel
theorem dL_law_522 : decode cL_law 522 = .ok (.iconst 1, 1) := by decide +kernel
theorem dL_law_523 : decode cL_law 523 = .ok (.iadd, 1) := by decide +kernel
theorem dL_law_524 : decode cL_law 524 = .ok (.iaload, 1) := by decide +kernel
theorem dL_law_525 : decode cL_law 525 = .ok (.invokevirtual 54, 3) := by decide +kernel
theorem dL_law_528 : decode cL_law 528 = .ok (.if_icmp .eq 497, 3) := by decide +kernel
theorem dL_law_531 : decode cL_law 531 = .ok (.iconst 0, 1) := by decide +kernel
theorem dL_law_532 : decode cL_law 532 = .ok (.ireturn, 1) := by decide +kernel
theorem dL_law_533 : decode cL_law 533 = .ok (.aload_n 1, 1) := by decide +kernel
theorem dL_law_534 : decode cL_law 534 = .ok (.aload_n 0, 1) := by decide +kernel
theorem dL_law_535 : decode cL_law 535 = .ok (.iload_n 3, 1) := by decide +kernel
theorem dL_law_536 : decode cL_law 536 = .ok (.iconst 1, 1) := by decide +kernel
theorem dL_law_537 : decode cL_law 537 = .ok (.iadd, 1) := by decide +kernel
theorem dL_law_538 : decode cL_law 538 = .ok (.iaload, 1) := by decide +kernel
theorem dL_law_539 : decode cL_law 539 = .ok (.aload_n 0, 1) := by decide +kernel
theorem dL_law_540 : decode cL_law 540 = .ok (.iload_n 3, 1) := by decide +kernel
theorem dL_law_541 : decode cL_law 541 = .ok (.iconst 2, 1) := by decide +kernel
theorem dL_law_542 : decode cL_law 542 = .ok (.iadd, 1) := by decide +kernel
theorem dL_law_543 : decode cL_law 543 = .ok (.iaload, 1) := by decide +kernel
theorem dL_law_544 : decode cL_law 544 = .ok (.invokevirtual 55, 3) := by decide +kernel
theorem dL_law_547 : decode cL_law 547 = .ok (.aload_n 2, 1) := by decide +kernel
theorem dL_law_548 : decode cL_law 548 = .ok (.aload_n 0, 1) := by decide +kernel
theorem dL_law_549 : decode cL_law 549 = .ok (.iload_n 3, 1) := by decide +kernel
theorem dL_law_550 : decode cL_law 550 = .ok (.iconst 1, 1) := by decide +kernel
theorem dL_law_551 : decode cL_law 551 = .ok (.iadd, 1) := by decide +kernel
theorem dL_law_552 : decode cL_law 552 = .ok (.iaload, 1) := by decide +kernel
theorem dL_law_553 : decode cL_law 553 = .ok (.aload_n 0, 1) := by decide +kernel
theorem dL_law_554 : decode cL_law 554 = .ok (.iload_n 3, 1) := by decide +kernel
theorem dL_law_555 : decode cL_law 555 = .ok (.iconst 2, 1) := by decide +kernel
theorem dL_law_556 : decode cL_law 556 = .ok (.iadd, 1) := by decide +kernel
theorem dL_law_557 : decode cL_law 557 = .ok (.iaload, 1) := by decide +kernel
theorem dL_law_558 : decode cL_law 558 = .ok (.invokevirtual 58, 3) := by decide +kernel
theorem dL_law_561 : decode cL_law 561 = .ok (.if_icmp .eq 464, 3) := by decide +kernel
theorem dL_law_564 : decode cL_law 564 = .ok (.iconst 0, 1) := by decide +kernel
theorem dL_law_565 : decode cL_law 565 = .ok (.ireturn, 1) := by decide +kernel
theorem dL_law_566 : decode cL_law 566 = .ok (.aload_n 1, 1) := by decide +kernel
theorem dL_law_567 : decode cL_law 567 = .ok (.aload_n 0, 1) := by decide +kernel
theorem dL_law_568 : decode cL_law 568 = .ok (.iload_n 3, 1) := by decide +kernel
theorem dL_law_569 : decode cL_law 569 = .ok (.iconst 1, 1) := by decide +kernel
theorem dL_law_570 : decode cL_law 570 = .ok (.iadd, 1) := by decide +kernel
theorem dL_law_571 : decode cL_law 571 = .ok (.iaload, 1) := by decide +kernel
theorem dL_law_572 : decode cL_law 572 = .ok (.aload_n 0, 1) := by decide +kernel
theorem dL_law_573 : decode cL_law 573 = .ok (.iload_n 3, 1) := by decide +kernel
theorem dL_law_574 : decode cL_law 574 = .ok (.iconst 2, 1) := by decide +kernel
theorem dL_law_575 : decode cL_law 575 = .ok (.iadd, 1) := by decide +kernel
theorem dL_law_576 : decode cL_law 576 = .ok (.iaload, 1) := by decide +kernel
theorem dL_law_577 : decode cL_law 577 = .ok (.aload_n 0, 1) := by decide +kernel
theorem dL_law_578 : decode cL_law 578 = .ok (.iload_n 3, 1) := by decide +kernel
theorem dL_law_579 : decode cL_law 579 = .ok (.iconst 3, 1) := by decide +kernel
theorem dL_law_580 : decode cL_law 580 = .ok (.iadd, 1) := by decide +kernel
theorem dL_law_581 : decode cL_law 581 = .ok (.iaload, 1) := by decide +kernel
theorem dL_law_582 : decode cL_law 582 = .ok (.invokevirtual 59, 3) := by decide +kernel
theorem dL_law_585 : decode cL_law 585 = .ok (.aload_n 2, 1) := by decide +kernel
theorem dL_law_586 : decode cL_law 586 = .ok (.aload_n 0, 1) := by decide +kernel
theorem dL_law_587 : decode cL_law 587 = .ok (.iload_n 3, 1) := by decide +kernel
theorem dL_law_588 : decode cL_law 588 = .ok (.iconst 1, 1) := by decide +kernel
theorem dL_law_589 : decode cL_law 589 = .ok (.iadd, 1) := by decide +kernel
theorem dL_law_590 : decode cL_law 590 = .ok (.iaload, 1) := by decide +kernel
theorem dL_law_591 : decode cL_law 591 = .ok (.aload_n 0, 1) := by decide +kernel
theorem dL_law_592 : decode cL_law 592 = .ok (.iload_n 3, 1) := by decide +kernel
theorem dL_law_593 : decode cL_law 593 = .ok (.iconst 2, 1) := by decide +kernel
theorem dL_law_594 : decode cL_law 594 = .ok (.iadd, 1) := by decide +kernel
theorem dL_law_595 : decode cL_law 595 = .ok (.iaload, 1) := by decide +kernel
theorem dL_law_596 : decode cL_law 596 = .ok (.aload_n 0, 1) := by decide +kernel
theorem dL_law_597 : decode cL_law 597 = .ok (.iload_n 3, 1) := by decide +kernel
theorem dL_law_598 : decode cL_law 598 = .ok (.iconst 3, 1) := by decide +kernel
theorem dL_law_599 : decode cL_law 599 = .ok (.iadd, 1) := by decide +kernel
theorem dL_law_600 : decode cL_law 600 = .ok (.iaload, 1) := by decide +kernel
theorem dL_law_601 : decode cL_law 601 = .ok (.invokevirtual 62, 3) := by decide +kernel
theorem dL_law_604 : decode cL_law 604 = .ok (.if_icmp .eq 421, 3) := by decide +kernel
theorem dL_law_607 : decode cL_law 607 = .ok (.iconst 0, 1) := by decide +kernel
theorem dL_law_608 : decode cL_law 608 = .ok (.ireturn, 1) := by decide +kernel
theorem dL_law_609 : decode cL_law 609 = .ok (.aload_n 1, 1) := by decide +kernel
theorem dL_law_610 : decode cL_law 610 = .ok (.aload_n 0, 1) := by decide +kernel
theorem dL_law_611 : decode cL_law 611 = .ok (.iload_n 3, 1) := by decide +kernel
theorem dL_law_612 : decode cL_law 612 = .ok (.iconst 1, 1) := by decide +kernel
theorem dL_law_613 : decode cL_law 613 = .ok (.iadd, 1) := by decide +kernel
theorem dL_law_614 : decode cL_law 614 = .ok (.iaload, 1) := by decide +kernel
theorem dL_law_615 : decode cL_law 615 = .ok (.aload_n 0, 1) := by decide +kernel
theorem dL_law_616 : decode cL_law 616 = .ok (.iload_n 3, 1) := by decide +kernel
theorem dL_law_617 : decode cL_law 617 = .ok (.iconst 2, 1) := by decide +kernel
theorem dL_law_618 : decode cL_law 618 = .ok (.iadd, 1) := by decide +kernel
theorem dL_law_619 : decode cL_law 619 = .ok (.iaload, 1) := by decide +kernel
theorem dL_law_620 : decode cL_law 620 = .ok (.aload_n 0, 1) := by decide +kernel
theorem dL_law_621 : decode cL_law 621 = .ok (.iload_n 3, 1) := by decide +kernel
theorem dL_law_622 : decode cL_law 622 = .ok (.iconst 3, 1) := by decide +kernel
theorem dL_law_623 : decode cL_law 623 = .ok (.iadd, 1) := by decide +kernel
theorem dL_law_624 : decode cL_law 624 = .ok (.iaload, 1) := by decide +kernel
theorem dL_law_625 : decode cL_law 625 = .ok (.aload_n 0, 1) := by decide +kernel
theorem dL_law_626 : decode cL_law 626 = .ok (.iload_n 3, 1) := by decide +kernel
theorem dL_law_627 : decode cL_law 627 = .ok (.iconst 4, 1) := by decide +kernel
theorem dL_law_628 : decode cL_law 628 = .ok (.iadd, 1) := by decide +kernel
theorem dL_law_629 : decode cL_law 629 = .ok (.iaload, 1) := by decide +kernel
theorem dL_law_630 : decode cL_law 630 = .ok (.invokevirtual 63, 3) := by decide +kernel
theorem dL_law_633 : decode cL_law 633 = .ok (.aload_n 2, 1) := by decide +kernel
theorem dL_law_634 : decode cL_law 634 = .ok (.aload_n 0, 1) := by decide +kernel
theorem dL_law_635 : decode cL_law 635 = .ok (.iload_n 3, 1) := by decide +kernel
theorem dL_law_636 : decode cL_law 636 = .ok (.iconst 1, 1) := by decide +kernel
theorem dL_law_637 : decode cL_law 637 = .ok (.iadd, 1) := by decide +kernel
theorem dL_law_638 : decode cL_law 638 = .ok (.iaload, 1) := by decide +kernel
theorem dL_law_639 : decode cL_law 639 = .ok (.aload_n 0, 1) := by decide +kernel
theorem dL_law_640 : decode cL_law 640 = .ok (.iload_n 3, 1) := by decide +kernel
theorem dL_law_641 : decode cL_law 641 = .ok (.iconst 2, 1) := by decide +kernel
theorem dL_law_642 : decode cL_law 642 = .ok (.iadd, 1) := by decide +kernel
theorem dL_law_643 : decode cL_law 643 = .ok (.iaload, 1) := by decide +kernel
theorem dL_law_644 : decode cL_law 644 = .ok (.aload_n 0, 1) := by decide +kernel
theorem dL_law_645 : decode cL_law 645 = .ok (.iload_n 3, 1) := by decide +kernel
theorem dL_law_646 : decode cL_law 646 = .ok (.iconst 3, 1) := by decide +kernel
theorem dL_law_647 : decode cL_law 647 = .ok (.iadd, 1) := by decide +kernel
theorem dL_law_648 : decode cL_law 648 = .ok (.iaload, 1) := by decide +kernel
theorem dL_law_649 : decode cL_law 649 = .ok (.aload_n 0, 1) := by decide +kernel
theorem dL_law_650 : decode cL_law 650 = .ok (.iload_n 3, 1) := by decide +kernel
theorem dL_law_651 : decode cL_law 651 = .ok (.iconst 4, 1) := by decide +kernel
theorem dL_law_652 : decode cL_law 652 = .ok (.iadd, 1) := by decide +kernel
theorem dL_law_653 : decode cL_law 653 = .ok (.iaload, 1) := by decide +kernel
theorem dL_law_654 : decode cL_law 654 = .ok (.invokevirtual 66, 3) := by decide +kernel
theorem dL_law_657 : decode cL_law 657 = .ok (.if_icmp .eq 368, 3) := by decide +kernel
theorem dL_law_660 : decode cL_law 660 = .ok (.iconst 0, 1) := by decide +kernel
theorem dL_law_661 : decode cL_law 661 = .ok (.ireturn, 1) := by decide +kernel
theorem dL_law_662 : decode cL_law 662 = .ok (.aload_n 1, 1) := by decide +kernel
theorem dL_law_663 : decode cL_law 663 = .ok (.aload_n 0, 1) := by decide +kernel
theorem dL_law_664 : decode cL_law 664 = .ok (.iload_n 3, 1) := by decide +kernel
theorem dL_law_665 : decode cL_law 665 = .ok (.iconst 1, 1) := by decide +kernel
theorem dL_law_666 : decode cL_law 666 = .ok (.iadd, 1) := by decide +kernel
theorem dL_law_667 : decode cL_law 667 = .ok (.iaload, 1) := by decide +kernel
theorem dL_law_668 : decode cL_law 668 = .ok (.aload_n 0, 1) := by decide +kernel
theorem dL_law_669 : decode cL_law 669 = .ok (.iload_n 3, 1) := by decide +kernel
theorem dL_law_670 : decode cL_law 670 = .ok (.iconst 2, 1) := by decide +kernel
theorem dL_law_671 : decode cL_law 671 = .ok (.iadd, 1) := by decide +kernel
theorem dL_law_672 : decode cL_law 672 = .ok (.iaload, 1) := by decide +kernel
theorem dL_law_673 : decode cL_law 673 = .ok (.aload_n 0, 1) := by decide +kernel
theorem dL_law_674 : decode cL_law 674 = .ok (.iload_n 3, 1) := by decide +kernel
theorem dL_law_675 : decode cL_law 675 = .ok (.iconst 3, 1) := by decide +kernel
theorem dL_law_676 : decode cL_law 676 = .ok (.iadd, 1) := by decide +kernel
theorem dL_law_677 : decode cL_law 677 = .ok (.iaload, 1) := by decide +kernel
theorem dL_law_678 : decode cL_law 678 = .ok (.aload_n 0, 1) := by decide +kernel
theorem dL_law_679 : decode cL_law 679 = .ok (.iload_n 3, 1) := by decide +kernel
theorem dL_law_680 : decode cL_law 680 = .ok (.iconst 4, 1) := by decide +kernel
theorem dL_law_681 : decode cL_law 681 = .ok (.iadd, 1) := by decide +kernel
theorem dL_law_682 : decode cL_law 682 = .ok (.iaload, 1) := by decide +kernel
theorem dL_law_683 : decode cL_law 683 = .ok (.invokevirtual 67, 3) := by decide +kernel
theorem dL_law_686 : decode cL_law 686 = .ok (.aload_n 2, 1) := by decide +kernel
theorem dL_law_687 : decode cL_law 687 = .ok (.aload_n 0, 1) := by decide +kernel
theorem dL_law_688 : decode cL_law 688 = .ok (.iload_n 3, 1) := by decide +kernel
theorem dL_law_689 : decode cL_law 689 = .ok (.iconst 1, 1) := by decide +kernel
theorem dL_law_690 : decode cL_law 690 = .ok (.iadd, 1) := by decide +kernel
theorem dL_law_691 : decode cL_law 691 = .ok (.iaload, 1) := by decide +kernel
theorem dL_law_692 : decode cL_law 692 = .ok (.aload_n 0, 1) := by decide +kernel
theorem dL_law_693 : decode cL_law 693 = .ok (.iload_n 3, 1) := by decide +kernel
theorem dL_law_694 : decode cL_law 694 = .ok (.iconst 2, 1) := by decide +kernel
theorem dL_law_695 : decode cL_law 695 = .ok (.iadd, 1) := by decide +kernel
theorem dL_law_696 : decode cL_law 696 = .ok (.iaload, 1) := by decide +kernel
theorem dL_law_697 : decode cL_law 697 = .ok (.aload_n 0, 1) := by decide +kernel
theorem dL_law_698 : decode cL_law 698 = .ok (.iload_n 3, 1) := by decide +kernel
theorem dL_law_699 : decode cL_law 699 = .ok (.iconst 3, 1) := by decide +kernel
theorem dL_law_700 : decode cL_law 700 = .ok (.iadd, 1) := by decide +kernel
theorem dL_law_701 : decode cL_law 701 = .ok (.iaload, 1) := by decide +kernel
theorem dL_law_702 : decode cL_law 702 = .ok (.aload_n 0, 1) := by decide +kernel
theorem dL_law_703 : decode cL_law 703 = .ok (.iload_n 3, 1) := by decide +kernel
theorem dL_law_704 : decode cL_law 704 = .ok (.iconst 4, 1) := by decide +kernel
theorem dL_law_705 : decode cL_law 705 = .ok (.iadd, 1) := by decide +kernel
theorem dL_law_706 : decode cL_law 706 = .ok (.iaload, 1) := by decide +kernel
theorem dL_law_707 : decode cL_law 707 = .ok (.invokevirtual 70, 3) := by decide +kernel
theorem dL_law_710 : decode cL_law 710 = .ok (.if_icmp .eq 315, 3) := by decide +kernel
theorem dL_law_713 : decode cL_law 713 = .ok (.iconst 0, 1) := by decide +kernel
theorem dL_law_714 : decode cL_law 714 = .ok (.ireturn, 1) := by decide +kernel
theorem dL_law_715 : decode cL_law 715 = .ok (.aload_n 1, 1) := by decide +kernel
theorem dL_law_716 : decode cL_law 716 = .ok (.aload_n 0, 1) := by decide +kernel
theorem dL_law_717 : decode cL_law 717 = .ok (.iload_n 3, 1) := by decide +kernel
theorem dL_law_718 : decode cL_law 718 = .ok (.iconst 1, 1) := by decide +kernel
theorem dL_law_719 : decode cL_law 719 = .ok (.iadd, 1) := by decide +kernel
theorem dL_law_720 : decode cL_law 720 = .ok (.iaload, 1) := by decide +kernel
theorem dL_law_721 : decode cL_law 721 = .ok (.aload_n 0, 1) := by decide +kernel
theorem dL_law_722 : decode cL_law 722 = .ok (.iload_n 3, 1) := by decide +kernel
theorem dL_law_723 : decode cL_law 723 = .ok (.iconst 2, 1) := by decide +kernel
theorem dL_law_724 : decode cL_law 724 = .ok (.iadd, 1) := by decide +kernel
theorem dL_law_725 : decode cL_law 725 = .ok (.iaload, 1) := by decide +kernel
theorem dL_law_726 : decode cL_law 726 = .ok (.aload_n 0, 1) := by decide +kernel
theorem dL_law_727 : decode cL_law 727 = .ok (.iload_n 3, 1) := by decide +kernel
theorem dL_law_728 : decode cL_law 728 = .ok (.iconst 3, 1) := by decide +kernel
theorem dL_law_729 : decode cL_law 729 = .ok (.iadd, 1) := by decide +kernel
theorem dL_law_730 : decode cL_law 730 = .ok (.iaload, 1) := by decide +kernel
theorem dL_law_731 : decode cL_law 731 = .ok (.invokevirtual 71, 3) := by decide +kernel
theorem dL_law_734 : decode cL_law 734 = .ok (.aload_n 2, 1) := by decide +kernel
theorem dL_law_735 : decode cL_law 735 = .ok (.aload_n 0, 1) := by decide +kernel
theorem dL_law_736 : decode cL_law 736 = .ok (.iload_n 3, 1) := by decide +kernel
theorem dL_law_737 : decode cL_law 737 = .ok (.iconst 1, 1) := by decide +kernel
theorem dL_law_738 : decode cL_law 738 = .ok (.iadd, 1) := by decide +kernel
theorem dL_law_739 : decode cL_law 739 = .ok (.iaload, 1) := by decide +kernel
theorem dL_law_740 : decode cL_law 740 = .ok (.aload_n 0, 1) := by decide +kernel
theorem dL_law_741 : decode cL_law 741 = .ok (.iload_n 3, 1) := by decide +kernel
theorem dL_law_742 : decode cL_law 742 = .ok (.iconst 2, 1) := by decide +kernel
theorem dL_law_743 : decode cL_law 743 = .ok (.iadd, 1) := by decide +kernel
theorem dL_law_744 : decode cL_law 744 = .ok (.iaload, 1) := by decide +kernel
theorem dL_law_745 : decode cL_law 745 = .ok (.aload_n 0, 1) := by decide +kernel
theorem dL_law_746 : decode cL_law 746 = .ok (.iload_n 3, 1) := by decide +kernel
theorem dL_law_747 : decode cL_law 747 = .ok (.iconst 3, 1) := by decide +kernel
theorem dL_law_748 : decode cL_law 748 = .ok (.iadd, 1) := by decide +kernel
theorem dL_law_749 : decode cL_law 749 = .ok (.iaload, 1) := by decide +kernel
theorem dL_law_750 : decode cL_law 750 = .ok (.invokevirtual 74, 3) := by decide +kernel
theorem dL_law_753 : decode cL_law 753 = .ok (.if_icmp .eq 272, 3) := by decide +kernel
theorem dL_law_756 : decode cL_law 756 = .ok (.iconst 0, 1) := by decide +kernel
theorem dL_law_757 : decode cL_law 757 = .ok (.ireturn, 1) := by decide +kernel
theorem dL_law_758 : decode cL_law 758 = .ok (.aload_n 1, 1) := by decide +kernel
theorem dL_law_759 : decode cL_law 759 = .ok (.aload_n 0, 1) := by decide +kernel
theorem dL_law_760 : decode cL_law 760 = .ok (.iload_n 3, 1) := by decide +kernel
theorem dL_law_761 : decode cL_law 761 = .ok (.iconst 1, 1) := by decide +kernel
theorem dL_law_762 : decode cL_law 762 = .ok (.iadd, 1) := by decide +kernel
theorem dL_law_763 : decode cL_law 763 = .ok (.iaload, 1) := by decide +kernel
theorem dL_law_764 : decode cL_law 764 = .ok (.aload_n 0, 1) := by decide +kernel
theorem dL_law_765 : decode cL_law 765 = .ok (.iload_n 3, 1) := by decide +kernel
theorem dL_law_766 : decode cL_law 766 = .ok (.iconst 2, 1) := by decide +kernel
theorem dL_law_767 : decode cL_law 767 = .ok (.iadd, 1) := by decide +kernel
theorem dL_law_768 : decode cL_law 768 = .ok (.iaload, 1) := by decide +kernel
theorem dL_law_769 : decode cL_law 769 = .ok (.invokevirtual 75, 3) := by decide +kernel
theorem dL_law_772 : decode cL_law 772 = .ok (.aload_n 2, 1) := by decide +kernel
theorem dL_law_773 : decode cL_law 773 = .ok (.aload_n 0, 1) := by decide +kernel
theorem dL_law_774 : decode cL_law 774 = .ok (.iload_n 3, 1) := by decide +kernel
theorem dL_law_775 : decode cL_law 775 = .ok (.iconst 1, 1) := by decide +kernel
theorem dL_law_776 : decode cL_law 776 = .ok (.iadd, 1) := by decide +kernel
theorem dL_law_777 : decode cL_law 777 = .ok (.iaload, 1) := by decide +kernel
theorem dL_law_778 : decode cL_law 778 = .ok (.aload_n 0, 1) := by decide +kernel
theorem dL_law_779 : decode cL_law 779 = .ok (.iload_n 3, 1) := by decide +kernel
theorem dL_law_780 : decode cL_law 780 = .ok (.iconst 2, 1) := by decide +kernel
theorem dL_law_781 : decode cL_law 781 = .ok (.iadd, 1) := by decide +kernel
theorem dL_law_782 : decode cL_law 782 = .ok (.iaload, 1) := by decide +kernel
theorem dL_law_783 : decode cL_law 783 = .ok (.invokevirtual 78, 3) := by decide +kernel
theorem dL_law_786 : decode cL_law 786 = .ok (.if_icmp .eq 239, 3) := by decide +kernel
theorem dL_law_789 : decode cL_law 789 = .ok (.iconst 0, 1) := by decide +kernel
theorem dL_law_790 : decode cL_law 790 = .ok (.ireturn, 1) := by decide +kernel
theorem dL_law_791 : decode cL_law 791 = .ok (.aload_n 1, 1) := by decide +kernel
theorem dL_law_792 : decode cL_law 792 = .ok (.aload_n 0, 1) := by decide +kernel
theorem dL_law_793 : decode cL_law 793 = .ok (.iload_n 3, 1) := by decide +kernel
theorem dL_law_794 : decode cL_law 794 = .ok (.iconst 1, 1) := by decide +kernel
theorem dL_law_795 : decode cL_law 795 = .ok (.iadd, 1) := by decide +kernel
theorem dL_law_796 : decode cL_law 796 = .ok (.iaload, 1) := by decide +kernel
theorem dL_law_797 : decode cL_law 797 = .ok (.aload_n 0, 1) := by decide +kernel
theorem dL_law_798 : decode cL_law 798 = .ok (.iload_n 3, 1) := by decide +kernel
theorem dL_law_799 : decode cL_law 799 = .ok (.iconst 2, 1) := by decide +kernel
theorem dL_law_800 : decode cL_law 800 = .ok (.iadd, 1) := by decide +kernel
theorem dL_law_801 : decode cL_law 801 = .ok (.iaload, 1) := by decide +kernel
theorem dL_law_802 : decode cL_law 802 = .ok (.aload_n 0, 1) := by decide +kernel
theorem dL_law_803 : decode cL_law 803 = .ok (.iload_n 3, 1) := by decide +kernel
theorem dL_law_804 : decode cL_law 804 = .ok (.iconst 3, 1) := by decide +kernel
theorem dL_law_805 : decode cL_law 805 = .ok (.iadd, 1) := by decide +kernel
theorem dL_law_806 : decode cL_law 806 = .ok (.iaload, 1) := by decide +kernel
theorem dL_law_807 : decode cL_law 807 = .ok (.invokevirtual 79, 3) := by decide +kernel
theorem dL_law_810 : decode cL_law 810 = .ok (.aload_n 2, 1) := by decide +kernel
theorem dL_law_811 : decode cL_law 811 = .ok (.aload_n 0, 1) := by decide +kernel
theorem dL_law_812 : decode cL_law 812 = .ok (.iload_n 3, 1) := by decide +kernel
theorem dL_law_813 : decode cL_law 813 = .ok (.iconst 1, 1) := by decide +kernel
theorem dL_law_814 : decode cL_law 814 = .ok (.iadd, 1) := by decide +kernel
theorem dL_law_815 : decode cL_law 815 = .ok (.iaload, 1) := by decide +kernel
theorem dL_law_816 : decode cL_law 816 = .ok (.aload_n 0, 1) := by decide +kernel
theorem dL_law_817 : decode cL_law 817 = .ok (.iload_n 3, 1) := by decide +kernel
theorem dL_law_818 : decode cL_law 818 = .ok (.iconst 2, 1) := by decide +kernel
theorem dL_law_819 : decode cL_law 819 = .ok (.iadd, 1) := by decide +kernel
theorem dL_law_820 : decode cL_law 820 = .ok (.iaload, 1) := by decide +kernel
theorem dL_law_821 : decode cL_law 821 = .ok (.aload_n 0, 1) := by decide +kernel
theorem dL_law_822 : decode cL_law 822 = .ok (.iload_n 3, 1) := by decide +kernel
theorem dL_law_823 : decode cL_law 823 = .ok (.iconst 3, 1) := by decide +kernel
theorem dL_law_824 : decode cL_law 824 = .ok (.iadd, 1) := by decide +kernel
theorem dL_law_825 : decode cL_law 825 = .ok (.iaload, 1) := by decide +kernel
theorem dL_law_826 : decode cL_law 826 = .ok (.invokevirtual 82, 3) := by decide +kernel
theorem dL_law_829 : decode cL_law 829 = .ok (.if_icmp .eq 196, 3) := by decide +kernel
theorem dL_law_832 : decode cL_law 832 = .ok (.iconst 0, 1) := by decide +kernel
theorem dL_law_833 : decode cL_law 833 = .ok (.ireturn, 1) := by decide +kernel
theorem dL_law_834 : decode cL_law 834 = .ok (.aload_n 1, 1) := by decide +kernel
theorem dL_law_835 : decode cL_law 835 = .ok (.aload_n 0, 1) := by decide +kernel
theorem dL_law_836 : decode cL_law 836 = .ok (.iload_n 3, 1) := by decide +kernel
theorem dL_law_837 : decode cL_law 837 = .ok (.iconst 1, 1) := by decide +kernel
theorem dL_law_838 : decode cL_law 838 = .ok (.iadd, 1) := by decide +kernel
theorem dL_law_839 : decode cL_law 839 = .ok (.iaload, 1) := by decide +kernel
theorem dL_law_840 : decode cL_law 840 = .ok (.invokevirtual 83, 3) := by decide +kernel
theorem dL_law_843 : decode cL_law 843 = .ok (.aload_n 2, 1) := by decide +kernel
theorem dL_law_844 : decode cL_law 844 = .ok (.aload_n 0, 1) := by decide +kernel
theorem dL_law_845 : decode cL_law 845 = .ok (.iload_n 3, 1) := by decide +kernel
theorem dL_law_846 : decode cL_law 846 = .ok (.iconst 1, 1) := by decide +kernel
theorem dL_law_847 : decode cL_law 847 = .ok (.iadd, 1) := by decide +kernel
theorem dL_law_848 : decode cL_law 848 = .ok (.iaload, 1) := by decide +kernel
theorem dL_law_849 : decode cL_law 849 = .ok (.invokevirtual 86, 3) := by decide +kernel
theorem dL_law_852 : decode cL_law 852 = .ok (.if_icmp .eq 173, 3) := by decide +kernel
theorem dL_law_855 : decode cL_law 855 = .ok (.iconst 0, 1) := by decide +kernel
theorem dL_law_856 : decode cL_law 856 = .ok (.ireturn, 1) := by decide +kernel
theorem dL_law_857 : decode cL_law 857 = .ok (.aload_n 1, 1) := by decide +kernel
theorem dL_law_858 : decode cL_law 858 = .ok (.aload_n 0, 1) := by decide +kernel
theorem dL_law_859 : decode cL_law 859 = .ok (.iload_n 3, 1) := by decide +kernel
theorem dL_law_860 : decode cL_law 860 = .ok (.iconst 1, 1) := by decide +kernel
theorem dL_law_861 : decode cL_law 861 = .ok (.iadd, 1) := by decide +kernel
theorem dL_law_862 : decode cL_law 862 = .ok (.iaload, 1) := by decide +kernel
theorem dL_law_863 : decode cL_law 863 = .ok (.aload_n 0, 1) := by decide +kernel
theorem dL_law_864 : decode cL_law 864 = .ok (.iload_n 3, 1) := by decide +kernel
theorem dL_law_865 : decode cL_law 865 = .ok (.iconst 2, 1) := by decide +kernel
theorem dL_law_866 : decode cL_law 866 = .ok (.iadd, 1) := by decide +kernel
theorem dL_law_867 : decode cL_law 867 = .ok (.iaload, 1) := by decide +kernel
theorem dL_law_868 : decode cL_law 868 = .ok (.invokevirtual 87, 3) := by decide +kernel
theorem dL_law_871 : decode cL_law 871 = .ok (.aload_n 2, 1) := by decide +kernel
theorem dL_law_872 : decode cL_law 872 = .ok (.aload_n 0, 1) := by decide +kernel
theorem dL_law_873 : decode cL_law 873 = .ok (.iload_n 3, 1) := by decide +kernel
theorem dL_law_874 : decode cL_law 874 = .ok (.iconst 1, 1) := by decide +kernel
theorem dL_law_875 : decode cL_law 875 = .ok (.iadd, 1) := by decide +kernel
theorem dL_law_876 : decode cL_law 876 = .ok (.iaload, 1) := by decide +kernel
theorem dL_law_877 : decode cL_law 877 = .ok (.aload_n 0, 1) := by decide +kernel
theorem dL_law_878 : decode cL_law 878 = .ok (.iload_n 3, 1) := by decide +kernel
theorem dL_law_879 : decode cL_law 879 = .ok (.iconst 2, 1) := by decide +kernel
theorem dL_law_880 : decode cL_law 880 = .ok (.iadd, 1) := by decide +kernel
theorem dL_law_881 : decode cL_law 881 = .ok (.iaload, 1) := by decide +kernel
theorem dL_law_882 : decode cL_law 882 = .ok (.invokevirtual 90, 3) := by decide +kernel
theorem dL_law_885 : decode cL_law 885 = .ok (.if_icmp .eq 140, 3) := by decide +kernel
theorem dL_law_888 : decode cL_law 888 = .ok (.iconst 0, 1) := by decide +kernel
theorem dL_law_889 : decode cL_law 889 = .ok (.ireturn, 1) := by decide +kernel
theorem dL_law_890 : decode cL_law 890 = .ok (.aload_n 1, 1) := by decide +kernel
theorem dL_law_891 : decode cL_law 891 = .ok (.aload_n 0, 1) := by decide +kernel
theorem dL_law_892 : decode cL_law 892 = .ok (.iload_n 3, 1) := by decide +kernel
theorem dL_law_893 : decode cL_law 893 = .ok (.iconst 1, 1) := by decide +kernel
theorem dL_law_894 : decode cL_law 894 = .ok (.iadd, 1) := by decide +kernel
theorem dL_law_895 : decode cL_law 895 = .ok (.iaload, 1) := by decide +kernel
theorem dL_law_896 : decode cL_law 896 = .ok (.invokevirtual 91, 3) := by decide +kernel
theorem dL_law_899 : decode cL_law 899 = .ok (.aload_n 2, 1) := by decide +kernel
theorem dL_law_900 : decode cL_law 900 = .ok (.aload_n 0, 1) := by decide +kernel
theorem dL_law_901 : decode cL_law 901 = .ok (.iload_n 3, 1) := by decide +kernel
theorem dL_law_902 : decode cL_law 902 = .ok (.iconst 1, 1) := by decide +kernel
theorem dL_law_903 : decode cL_law 903 = .ok (.iadd, 1) := by decide +kernel
theorem dL_law_904 : decode cL_law 904 = .ok (.iaload, 1) := by decide +kernel
theorem dL_law_905 : decode cL_law 905 = .ok (.invokevirtual 94, 3) := by decide +kernel
theorem dL_law_908 : decode cL_law 908 = .ok (.if_icmp .eq 117, 3) := by decide +kernel
theorem dL_law_911 : decode cL_law 911 = .ok (.iconst 0, 1) := by decide +kernel
theorem dL_law_912 : decode cL_law 912 = .ok (.ireturn, 1) := by decide +kernel
theorem dL_law_913 : decode cL_law 913 = .ok (.aload_n 1, 1) := by decide +kernel
theorem dL_law_914 : decode cL_law 914 = .ok (.aload_n 0, 1) := by decide +kernel
theorem dL_law_915 : decode cL_law 915 = .ok (.iload_n 3, 1) := by decide +kernel
theorem dL_law_916 : decode cL_law 916 = .ok (.iconst 1, 1) := by decide +kernel
theorem dL_law_917 : decode cL_law 917 = .ok (.iadd, 1) := by decide +kernel
theorem dL_law_918 : decode cL_law 918 = .ok (.iaload, 1) := by decide +kernel
theorem dL_law_919 : decode cL_law 919 = .ok (.invokevirtual 95, 3) := by decide +kernel
theorem dL_law_922 : decode cL_law 922 = .ok (.aload_n 2, 1) := by decide +kernel
theorem dL_law_923 : decode cL_law 923 = .ok (.aload_n 0, 1) := by decide +kernel
theorem dL_law_924 : decode cL_law 924 = .ok (.iload_n 3, 1) := by decide +kernel
theorem dL_law_925 : decode cL_law 925 = .ok (.iconst 1, 1) := by decide +kernel
theorem dL_law_926 : decode cL_law 926 = .ok (.iadd, 1) := by decide +kernel
theorem dL_law_927 : decode cL_law 927 = .ok (.iaload, 1) := by decide +kernel
theorem dL_law_928 : decode cL_law 928 = .ok (.invokevirtual 99, 3) := by decide +kernel
theorem dL_law_931 : decode cL_law 931 = .ok (.if_icmp .eq 94, 3) := by decide +kernel
theorem dL_law_934 : decode cL_law 934 = .ok (.iconst 0, 1) := by decide +kernel
theorem dL_law_935 : decode cL_law 935 = .ok (.ireturn, 1) := by decide +kernel
theorem dL_law_936 : decode cL_law 936 = .ok (.aload_n 1, 1) := by decide +kernel
theorem dL_law_937 : decode cL_law 937 = .ok (.aload_n 0, 1) := by decide +kernel
theorem dL_law_938 : decode cL_law 938 = .ok (.iload_n 3, 1) := by decide +kernel
theorem dL_law_939 : decode cL_law 939 = .ok (.iconst 1, 1) := by decide +kernel
theorem dL_law_940 : decode cL_law 940 = .ok (.iadd, 1) := by decide +kernel
theorem dL_law_941 : decode cL_law 941 = .ok (.iaload, 1) := by decide +kernel
theorem dL_law_942 : decode cL_law 942 = .ok (.aload_n 0, 1) := by decide +kernel
theorem dL_law_943 : decode cL_law 943 = .ok (.iload_n 3, 1) := by decide +kernel
theorem dL_law_944 : decode cL_law 944 = .ok (.iconst 2, 1) := by decide +kernel
theorem dL_law_945 : decode cL_law 945 = .ok (.iadd, 1) := by decide +kernel
theorem dL_law_946 : decode cL_law 946 = .ok (.iaload, 1) := by decide +kernel
theorem dL_law_947 : decode cL_law 947 = .ok (.invokevirtual 100, 3) := by decide +kernel
theorem dL_law_950 : decode cL_law 950 = .ok (.aload_n 2, 1) := by decide +kernel
theorem dL_law_951 : decode cL_law 951 = .ok (.aload_n 0, 1) := by decide +kernel
theorem dL_law_952 : decode cL_law 952 = .ok (.iload_n 3, 1) := by decide +kernel
theorem dL_law_953 : decode cL_law 953 = .ok (.iconst 1, 1) := by decide +kernel
theorem dL_law_954 : decode cL_law 954 = .ok (.iadd, 1) := by decide +kernel
theorem dL_law_955 : decode cL_law 955 = .ok (.iaload, 1) := by decide +kernel
theorem dL_law_956 : decode cL_law 956 = .ok (.aload_n 0, 1) := by decide +kernel
theorem dL_law_957 : decode cL_law 957 = .ok (.iload_n 3, 1) := by decide +kernel
theorem dL_law_958 : decode cL_law 958 = .ok (.iconst 2, 1) := by decide +kernel
theorem dL_law_959 : decode cL_law 959 = .ok (.iadd, 1) := by decide +kernel
theorem dL_law_960 : decode cL_law 960 = .ok (.iaload, 1) := by decide +kernel
theorem dL_law_961 : decode cL_law 961 = .ok (.invokevirtual 103, 3) := by decide +kernel
theorem dL_law_964 : decode cL_law 964 = .ok (.if_icmp .eq 61, 3) := by decide +kernel
theorem dL_law_967 : decode cL_law 967 = .ok (.iconst 0, 1) := by decide +kernel
theorem dL_law_968 : decode cL_law 968 = .ok (.ireturn, 1) := by decide +kernel
theorem dL_law_969 : decode cL_law 969 = .ok (.aload_n 1, 1) := by decide +kernel
theorem dL_law_970 : decode cL_law 970 = .ok (.aload_n 0, 1) := by decide +kernel
theorem dL_law_971 : decode cL_law 971 = .ok (.iload_n 3, 1) := by decide +kernel
theorem dL_law_972 : decode cL_law 972 = .ok (.iconst 1, 1) := by decide +kernel
theorem dL_law_973 : decode cL_law 973 = .ok (.iadd, 1) := by decide +kernel
theorem dL_law_974 : decode cL_law 974 = .ok (.iaload, 1) := by decide +kernel
theorem dL_law_975 : decode cL_law 975 = .ok (.aload_n 0, 1) := by decide +kernel
theorem dL_law_976 : decode cL_law 976 = .ok (.iload_n 3, 1) := by decide +kernel
theorem dL_law_977 : decode cL_law 977 = .ok (.iconst 2, 1) := by decide +kernel
theorem dL_law_978 : decode cL_law 978 = .ok (.iadd, 1) := by decide +kernel
theorem dL_law_979 : decode cL_law 979 = .ok (.iaload, 1) := by decide +kernel
theorem dL_law_980 : decode cL_law 980 = .ok (.invokevirtual 104, 3) := by decide +kernel
theorem dL_law_983 : decode cL_law 983 = .ok (.aload_n 2, 1) := by decide +kernel
theorem dL_law_984 : decode cL_law 984 = .ok (.aload_n 0, 1) := by decide +kernel
theorem dL_law_985 : decode cL_law 985 = .ok (.iload_n 3, 1) := by decide +kernel
theorem dL_law_986 : decode cL_law 986 = .ok (.iconst 1, 1) := by decide +kernel
theorem dL_law_987 : decode cL_law 987 = .ok (.iadd, 1) := by decide +kernel
theorem dL_law_988 : decode cL_law 988 = .ok (.iaload, 1) := by decide +kernel
theorem dL_law_989 : decode cL_law 989 = .ok (.aload_n 0, 1) := by decide +kernel
theorem dL_law_990 : decode cL_law 990 = .ok (.iload_n 3, 1) := by decide +kernel
theorem dL_law_991 : decode cL_law 991 = .ok (.iconst 2, 1) := by decide +kernel
theorem dL_law_992 : decode cL_law 992 = .ok (.iadd, 1) := by decide +kernel
theorem dL_law_993 : decode cL_law 993 = .ok (.iaload, 1) := by decide +kernel
theorem dL_law_994 : decode cL_law 994 = .ok (.invokevirtual 107, 3) := by decide +kernel
theorem dL_law_997 : decode cL_law 997 = .ok (.if_icmp .eq 28, 3) := by decide +kernel
theorem dL_law_1000 : decode cL_law 1000 = .ok (.iconst 0, 1) := by decide +kernel
theorem dL_law_1001 : decode cL_law 1001 = .ok (.ireturn, 1) := by decide +kernel
theorem dL_law_1002 : decode cL_law 1002 = .ok (.aload_n 1, 1) := by decide +kernel
theorem dL_law_1003 : decode cL_law 1003 = .ok (.aload_n 0, 1) := by decide +kernel
theorem dL_law_1004 : decode cL_law 1004 = .ok (.iload_n 3, 1) := by decide +kernel
theorem dL_law_1005 : decode cL_law 1005 = .ok (.iconst 1, 1) := by decide +kernel
theorem dL_law_1006 : decode cL_law 1006 = .ok (.iadd, 1) := by decide +kernel
theorem dL_law_1007 : decode cL_law 1007 = .ok (.iaload, 1) := by decide +kernel
theorem dL_law_1008 : decode cL_law 1008 = .ok (.invokevirtual 108, 3) := by decide +kernel
theorem dL_law_1011 : decode cL_law 1011 = .ok (.aload_n 2, 1) := by decide +kernel
theorem dL_law_1012 : decode cL_law 1012 = .ok (.aload_n 0, 1) := by decide +kernel
theorem dL_law_1013 : decode cL_law 1013 = .ok (.iload_n 3, 1) := by decide +kernel
theorem dL_law_1014 : decode cL_law 1014 = .ok (.iconst 1, 1) := by decide +kernel
theorem dL_law_1015 : decode cL_law 1015 = .ok (.iadd, 1) := by decide +kernel
theorem dL_law_1016 : decode cL_law 1016 = .ok (.iaload, 1) := by decide +kernel
theorem dL_law_1017 : decode cL_law 1017 = .ok (.invokevirtual 111, 3) := by decide +kernel
theorem dL_law_1020 : decode cL_law 1020 = .ok (.if_icmp .eq 5, 3) := by decide +kernel
theorem dL_law_1023 : decode cL_law 1023 = .ok (.iconst 0, 1) := by decide +kernel
theorem dL_law_1024 : decode cL_law 1024 = .ok (.ireturn, 1) := by decide +kernel
theorem dL_law_1025 : decode cL_law 1025 = .ok (.iinc 3 8, 3) := by decide +kernel
theorem dL_law_1028 : decode cL_law 1028 = .ok (.goto (-1010), 3) := by decide +kernel
theorem dL_law_1031 : decode cL_law 1031 = .ok (.iconst 1, 1) := by decide +kernel
theorem dL_law_1032 : decode cL_law 1032 = .ok (.ireturn, 1) := by decide +kernel
end
section
/-! ===== THE CORE: a run inside a fixed layout of cells (ly: what each cell is; ad: where it lies; σ: what it holds), a row an instruction ===== -/
abbrev St : Type := Nat → Nat → Int32
abbrev LyE : Type := (Nat × Nat) ⊕ (Nat × List (Nat × Nat))
def rv (ad : Nat → Nat) : Value → Value
  | .int x => .int x
  | .ref k => .ref (ad k)
  | _ => .null
theorem rv_cat (ad : Nat → Nat) (v : Value) : (rv ad v).category = 1 := by cases v <;> rfl
def fv (ad : Nat → Nat) (g : Nat → Int32) (i : Nat) (f : Nat × Nat) : Value := if f.1 < 2 then .int (g i) else if f.1 = 2 then .ref (ad f.2) else .null
def en (C : ClassId × ClassId) (ad : Nat → Nat) (σ : St) (k : Nat) (e : LyE) : Nat × va_E := (ad k, match e with
  | .inl a => .inl (if a.1 = 0 then C.1 else C.2, a.2, .inl (σ k))
  | .inr o => .inr (o.1, o.2.mapIdx (fv ad (σ k))))
def wd (C : ClassId × ClassId) (ad : Nat → Nat) (ly : List LyE) (σ : St) : va_W := ly.mapIdx (en C ad σ)
theorem wd_at {C : ClassId × ClassId} {ad : Nat → Nat} {ly : List LyE} {σ : St} {k : Nat} {e : LyE} (h : ly[k]? = some e) : (wd C ad ly σ)[k]? = some (en C ad σ k e) := by
  simp [wd, List.getElem?_mapIdx, h]
theorem wd_of {C : ClassId × ClassId} {ad : Nat → Nat} {ly : List LyE} {σ : St} {k : Nat} {q : Nat × va_E} (h : (wd C ad ly σ)[k]? = some q) : k < ly.length ∧ q.1 = ad k := by
  rw [wd, List.getElem?_mapIdx] at h
  cases hk : ly[k]? with
  | none => rw [hk] at h; cases h
  | some e =>
    rw [hk] at h
    cases h
    exact ⟨(List.getElem?_eq_some_iff.mp hk).1, rfl⟩
theorem wd_D {C : ClassId × ClassId} {ad : Nat → Nat} {ly : List LyE} {σ τ : St} {A : Nat → Prop} (h : va_D A (wd C ad ly σ)) : va_D A (wd C ad ly τ) := by
  have back : ∀ {k : Nat} {q : Nat × va_E}, (wd C ad ly τ)[k]? = some q → ∃ q', (wd C ad ly σ)[k]? = some q' ∧ q'.1 = q.1 := by
    intro k q hq
    obtain ⟨h1, h2⟩ := wd_of hq
    exact ⟨_, wd_at (List.getElem?_eq_getElem h1), h2.symm⟩
  refine ⟨fun i j p q hp hq e => ?_, fun k q hk => ?_⟩
  · obtain ⟨p', hp', e1⟩ := back hp
    obtain ⟨q', hq', e2⟩ := back hq
    exact h.1 i j p' q' hp' hq' (by rw [e1, e2, e])
  · obtain ⟨q', hq', e2⟩ := back hk
    rw [← e2]
    exact h.2 k q' hq'
theorem wd_ai {C : ClassId × ClassId} {ad : Nat → Nat} {ly : List LyE} {σ : St} {k n : Nat} (h : ly[k]? = some (.inl (0, n))) : (wd C ad ly σ)[k]? = some (ad k, .inl (C.1, n, .inl (σ k))) := wd_at h
theorem wd_az {C : ClassId × ClassId} {ad : Nat → Nat} {ly : List LyE} {σ : St} {k n : Nat} (h : ly[k]? = some (.inl (1, n))) : (wd C ad ly σ)[k]? = some (ad k, .inl (C.2, n, .inl (σ k))) := wd_at h
theorem wd_ob {C : ClassId × ClassId} {ad : Nat → Nat} {ly : List LyE} {σ : St} {k ci : Nat} {fs : List (Nat × Nat)} (h : ly[k]? = some (.inr (ci, fs))) : (wd C ad ly σ)[k]? = some (ad k, .inr (ci, fs.mapIdx (fv ad (σ k)))) := wd_at h
theorem wd_set {C : ClassId × ClassId} {ad : Nat → Nat} {ly : List LyE} {σ : St} {k : Nat} {e : LyE} (g : Nat → Int32) (h : ly[k]? = some e) : (wd C ad ly σ).set k (en C ad (va_up σ k g) k e) = wd C ad ly (va_up σ k g) := by
  apply List.ext_getElem?
  intro j
  by_cases hj : k = j
  · subst hj
    rw [wd_at h, List.getElem?_set_self (by simp [wd]; exact (List.getElem?_eq_some_iff.mp h).1)]
  · rw [List.getElem?_set_ne hj, wd, wd, List.getElem?_mapIdx, List.getElem?_mapIdx]
    have : en C ad σ j = en C ad (va_up σ k g) j := by
      funext e'
      simp [en, va_up, Ne.symm hj]
    rw [this]
theorem wd_setI {C : ClassId × ClassId} {ad : Nat → Nat} {ly : List LyE} {σ : St} {k n : Nat} {g : Nat → Int32} (h : ly[k]? = some (.inl (0, n))) : (wd C ad ly σ).set k (ad k, .inl (C.1, n, .inl g)) = wd C ad ly (va_up σ k g) := by
  rw [← wd_set g h]
  simp [en, va_up]
theorem wd_setZ {C : ClassId × ClassId} {ad : Nat → Nat} {ly : List LyE} {σ : St} {k n : Nat} {g : Nat → Int32} (h : ly[k]? = some (.inl (1, n))) : (wd C ad ly σ).set k (ad k, .inl (C.2, n, .inl g)) = wd C ad ly (va_up σ k g) := by
  rw [← wd_set g h]
  simp [en, va_up]
theorem fv_set {ad : Nat → Nat} {g : Nat → Int32} {fs : List (Nat × Nat)} {j t z : Nat} {x : Int32} (h : fs[j]? = some (t, z)) (ht : t < 2) : (fs.mapIdx (fv ad g)).set j (.int x) = fs.mapIdx (fv ad (upd g j x)) := by
  apply List.ext_getElem?
  intro i
  by_cases hi : j = i
  · subst hi
    rw [List.getElem?_set_self (by simp; exact (List.getElem?_eq_some_iff.mp h).1), List.getElem?_mapIdx, h]
    simp [fv, ht, upd]
  · rw [List.getElem?_set_ne hi, List.getElem?_mapIdx, List.getElem?_mapIdx]
    have : fv ad g i = fv ad (upd g j x) i := by
      funext f
      simp [fv, upd, Ne.symm hi]
    rw [this]
theorem wd_setO {C : ClassId × ClassId} {ad : Nat → Nat} {ly : List LyE} {σ : St} {k ci j t z : Nat} {fs : List (Nat × Nat)} {x : Int32} (h : ly[k]? = some (.inr (ci, fs))) (hj : fs[j]? = some (t, z)) (ht : t < 2) : (wd C ad ly σ).set k (ad k, .inr (ci, (fs.mapIdx (fv ad (σ k))).set j (.int x))) = wd C ad ly (va_up σ k (upd (σ k) j x)) := by
  rw [← wd_set _ h, fv_set hj ht]
  simp [en, va_up]
/-- locals -/
def lh (ad : Nat → Nat) (ls : Array Slot) (nL : Nat) (L : List (Option Value)) : Prop := ls.size = nL ∧ lv_wf ls ∧ L.length ≤ nL ∧ ∀ (k : Nat) (v : Value), L[k]? = some (some v) → ls[k]? = some (.val (rv ad v))
def lhl (ad : Nat → Nat) (L : List (Option Value)) : List (Nat × Value) := (L.mapIdx (fun i o => o.map (fun v => (i, rv ad v)))).filterMap id
theorem lhl_mem {ad : Nat → Nat} {L : List (Option Value)} {k : Nat} {v : Value} : (k, v) ∈ lhl ad L ↔ ∃ u, L[k]? = some (some u) ∧ v = rv ad u := by
  unfold lhl
  constructor
  · intro h
    obtain ⟨o, ho, he⟩ := List.mem_filterMap.mp h
    obtain ⟨i, hi⟩ := List.getElem?_of_mem ho
    rw [List.getElem?_mapIdx] at hi
    cases hL : L[i]? with
    | none => rw [hL] at hi; cases hi
    | some o' =>
      rw [hL] at hi
      cases o' with
      | none => cases hi; cases he
      | some u =>
        cases hi
        simp only [id, Option.map_some, Option.some.injEq, Prod.mk.injEq] at he
        obtain ⟨rfl, rfl⟩ := he
        exact ⟨u, hL, rfl⟩
  · rintro ⟨u, h1, rfl⟩
    refine List.mem_filterMap.mpr ⟨some (k, rv ad u), ?_, rfl⟩
    refine List.mem_of_getElem? (i := k) ?_
    rw [List.getElem?_mapIdx, h1]
    rfl
theorem lh.has {ad : Nat → Nat} {ls : Array Slot} {nL : Nat} {L : List (Option Value)} (h : lh ad ls nL L) : lv_has ls nL (lhl ad L) := by
  refine ⟨h.1, h.2.1, fun q hq => ?_⟩
  obtain ⟨k, v⟩ := q
  obtain ⟨u, h1, rfl⟩ := lhl_mem.mp hq
  exact h.2.2.2 k u h1
theorem lh.put {ad : Nat → Nat} {ls' : Array Slot} {nL : Nat} {L : List (Option Value)} {i : Nat} {v : Value} (hL : L.length ≤ nL) (h : lv_has ls' nL ((i, rv ad v) :: (lhl ad L).filter (fun q => !(q.1 == i) && !(q.1 + 1 == i && q.2.category == 2)))) : lh ad ls' nL (L.set i (some v)) := by
  refine ⟨h.1, h.2.1, by simpa using hL, fun k u hk => ?_⟩
  by_cases e : i = k
  · subst e
    have : i < L.length := by
      have := (List.getElem?_eq_some_iff.mp hk).1
      simpa using this
    rw [List.getElem?_set_self this] at hk
    cases hk
    exact h.2.2 _ List.mem_cons_self
  · rw [List.getElem?_set_ne e] at hk
    refine h.2.2 (k, rv ad u) (List.mem_cons_of_mem _ (List.mem_filter.mpr ⟨lhl_mem.mpr ⟨u, hk, rfl⟩, ?_⟩))
    simp [rv_cat, Ne.symm e]
theorem lh.entry {ad : Nat → Nat} {ls : Array Slot} {nL : Nat} {av : List Value} (n : Nat) (hn : av.length + n = nL) (h : lv_has ls nL (lv_args 0 (av.map (rv ad)))) : lh ad ls nL (av.map some ++ List.replicate n none) := by
  refine ⟨h.1, h.2.1, by simp [hn], fun k u hk => ?_⟩
  have key : ∀ (l : List Value) (b k : Nat) (u : Value), l[k]? = some u → (b + k, rv ad u) ∈ lv_args b (l.map (rv ad)) := by
    intro l
    induction l with
    | nil => intro b k u h; simp at h
    | cons v l ih =>
      intro b k u h
      cases k with
      | zero =>
        simp at h
        subst h
        simp [lv_args]
      | succ k =>
        simp at h
        have := ih (b + 1) k u h
        simp only [List.map_cons, lv_args, rv_cat]
        refine List.mem_cons_of_mem _ ?_
        have e : b + (k + 1) = b + 1 + k := by omega
        rw [e]
        exact this
  have hk2 : av[k]? = some u := by
    by_cases hlt : k < av.length
    · rw [List.getElem?_append_left (by simpa using hlt), List.getElem?_map] at hk
      cases ha : av[k]? with
      | none => rw [ha] at hk; cases hk
      | some x => rw [ha] at hk; cases hk; rfl
    · rw [List.getElem?_append_right (by simpa using hlt)] at hk
      have := List.mem_of_getElem? hk
      have := List.eq_of_mem_replicate this
      cases this
  have := key av 0 k u hk2
  rw [Nat.zero_add] at this
  exact h.2.2 _ this
/-- the private calls of nest mates -/
def nestW : List Cond := [Cond.methodLinkNest "SunCourt$Sky" 18 yX5_isDay "SunCourt", Cond.methodLinkNest "SunCourt" 9 yX3_init "SunCourt", Cond.methodLinkNest "SunCourt" 18 yX1_init "SunCourt", Cond.methodLinkNest "SunCourt" 25 yX4_init "SunCourt", Cond.methodLinkNest "SunCourt" 32 yX0_init "SunCourt", Cond.methodLinkNest "SunCourt" 39 yX2_init "SunCourt"]
theorem nestW_ex {w : Cond} (h : w ∈ nestW) : ∃ a i x h, w = .methodLinkNest a i x h := by
  simp only [nestW, List.mem_cons, List.not_mem_nil, or_false] at h
  rcases h with rfl | rfl | rfl | rfl | rfl | rfl <;> exact ⟨_, _, _, _, rfl⟩
def Kn (D : va_G) (C : ClassId × ClassId) (U : State) : Prop := va_K D vwCl [(C.1, .int), (C.2, .boolean)] U ∧ ∀ w ∈ nestW, va_Nw w U
theorem Kn.warm {D : va_G} {C : ClassId × ClassId} {s U : State} (h : Kn D C s) (hW : s.WarmedH U.vm) : Kn D C U := by
  refine ⟨va_K.moved hW.alike h.1, fun w hw => ?_⟩
  obtain ⟨a, i, x, y, rfl⟩ := nestW_ex hw
  exact va_Nw.warmM hW (h.2 _ hw)
theorem Kn.same {D : va_G} {C : ClassId × ClassId} {s U : State} (h : Kn D C s) (hv : s.vm = U.vm) : Kn D C U := by
  refine ⟨va_K.moved (by rw [hv]; exact Vm.Alike.refl _) h.1, fun w hw => ?_⟩
  obtain ⟨a, i, x, y, rfl⟩ := nestW_ex hw
  exact va_Nw.same rfl hv (h.2 _ hw)
def Cx (p : Program) (R : Room) (s : State) (m : MethodId) (args : Array Value) (c : Code) (cells slots : Nat) (D : va_G) (C : ClassId × ClassId) (own : String) (cc : ByteArray) (nL fr lo : Nat) : Prop :=
  CallFix p m c cc nL s args lw_big own ∧ fr ≤ R.frames ∧ lo ≤ R.locals ∧ cells ≤ R.cells ∧ slots ≤ R.slots ∧ Kn D C s
def Wo (D : va_G) (C : ClassId × ClassId) (ad : Nat → Nat) (ly : List LyE) (A : Nat → Prop) (H0 : Heap) (σ : St) (H : Heap) (locs : List Loc) : Prop := va_P D vwCl (wd C ad ly σ) H ∧ va_D A (wd C ad ly σ) ∧ va_S A H0 H locs
def Sx (sc : Option (Nat × (Nat → Int32))) (ad : Nat → Nat) (A : Nat → Prop) (s : State) : Prop := (∀ q, s.heap.size ≤ q → A q) ∧ ∀ n xs, sc = some (n, xs) → va_X (ad 1000) n xs s s.heap ∧ ad 1000 < s.heap.size ∧ ¬ A (ad 1000)
def RetAt (cc : ByteArray) (pc : Nat) (r : Option Int32) : Prop := match r with
  | some _ => decode cc pc = .ok (.ireturn, 1)
  | none => decode cc pc = .ok (.return_, 1)
/-- from pc, with these locals, stack and contents, it comes to a return with E -/
def Rn (ly : List LyE) (sc : Option (Nat × (Nat → Int32))) (own : String) (cc : ByteArray) (nL fr lo : Nat) (pc : Nat) (L : List (Option Value)) (st : List Value) (σ : St) (E : Option Int32 → St → Prop) : Prop :=
  ∀ ⦃p : Program⦄ ⦃l : Launch⦄ ⦃e : Env⦄ ⦃R : Room⦄ ⦃s : State⦄ ⦃m : MethodId⦄ ⦃args : Array Value⦄ ⦃below : List Frame⦄ ⦃meth : Method⦄ ⦃c : Code⦄ ⦃D : va_G⦄ ⦃C : ClassId × ClassId⦄ ⦃ad : Nat → Nat⦄ ⦃A : Nat → Prop⦄ ⦃H : Heap⦄ ⦃locs : List Loc⦄ ⦃cells slots : Nat⦄ ⦃Q : State → Prop⦄ ⦃ls : Array Slot⦄,
    Cx p R s m args c cells slots D C own cc nL fr lo → Sx sc ad A s → Wo D C ad ly A s.heap σ H locs → lh ad ls nL L →
    (∀ (r : Option Int32) (τ : St) (H' : Heap) (locs' : List Loc) (ls' : Array Slot) (pc' : Nat), E r τ → Wo D C ad ly A s.heap τ H' locs' → RetAt cc pc' r → W p l e R s m args below meth c H' locs' cells slots Q (F0 m pc' ls' (r.map Value.int).toList)) →
    W p l e R s m args below meth c H locs cells slots Q (F0 m pc ls (st.map (rv ad)))
section CORE
variable {ly : List LyE} {sc : Option (Nat × (Nat → Int32))} {own : String} {cc : ByteArray} {nL fr lo pc q : Nat} {L : List (Option Value)} {st : List Value} {σ : St} {E : Option Int32 → St → Prop}
theorem Rn.mono {E' : Option Int32 → St → Prop} (h : Rn ly sc own cc nL fr lo pc L st σ E) (hE : ∀ r τ, E r τ → E' r τ) : Rn ly sc own cc nL fr lo pc L st σ E' := fun _ _ _ _ _ _ _ _ _ _ _ _ _ _ _ _ _ _ _ _ hC hX hW hL k => h hC hX hW hL (fun r τ H' l' ls' pc' e => k r τ H' l' ls' pc' (hE r τ e))

theorem r_iadd {x y : Int32} (hd : decode cc pc = .ok (.iadd, 1)) (hq : pc + 1 = q) (K : Rn ly sc own cc nL fr lo q L (.int (x + y) :: st) σ E) : Rn ly sc own cc nL fr lo pc L (.int y :: .int x :: st) σ E := by
  subst hq
  intro p l e R s m args below meth c D C ad A H locs cells slots Q ls hC hX hW hL hE
  exact lv_iadd hC.1.1 hC.1.2.1 hd (K hC hX hW hL hE)
theorem r_isub {x y : Int32} (hd : decode cc pc = .ok (.isub, 1)) (hq : pc + 1 = q) (K : Rn ly sc own cc nL fr lo q L (.int (x - y) :: st) σ E) : Rn ly sc own cc nL fr lo pc L (.int y :: .int x :: st) σ E := by
  subst hq
  intro p l e R s m args below meth c D C ad A H locs cells slots Q ls hC hX hW hL hE
  exact lv_isub hC.1.1 hC.1.2.1 hd (K hC hX hW hL hE)
theorem r_imul {x y : Int32} (hd : decode cc pc = .ok (.imul, 1)) (hq : pc + 1 = q) (K : Rn ly sc own cc nL fr lo q L (.int (x * y) :: st) σ E) : Rn ly sc own cc nL fr lo pc L (.int y :: .int x :: st) σ E := by
  subst hq
  intro p l e R s m args below meth c D C ad A H locs cells slots Q ls hC hX hW hL hE
  exact lv_imul hC.1.1 hC.1.2.1 hd (K hC hX hW hL hE)
theorem r_iand {x y : Int32} (hd : decode cc pc = .ok (.iand, 1)) (hq : pc + 1 = q) (K : Rn ly sc own cc nL fr lo q L (.int (x &&& y) :: st) σ E) : Rn ly sc own cc nL fr lo pc L (.int y :: .int x :: st) σ E := by
  subst hq
  intro p l e R s m args below meth c D C ad A H locs cells slots Q ls hC hX hW hL hE
  exact lv_iand hC.1.1 hC.1.2.1 hd (K hC hX hW hL hE)
theorem r_ior {x y : Int32} (hd : decode cc pc = .ok (.ior, 1)) (hq : pc + 1 = q) (K : Rn ly sc own cc nL fr lo q L (.int (x ||| y) :: st) σ E) : Rn ly sc own cc nL fr lo pc L (.int y :: .int x :: st) σ E := by
  subst hq
  intro p l e R s m args below meth c D C ad A H locs cells slots Q ls hC hX hW hL hE
  exact lv_ior hC.1.1 hC.1.2.1 hd (K hC hX hW hL hE)
theorem r_ishl {x y : Int32} (hd : decode cc pc = .ok (.ishl, 1)) (hq : pc + 1 = q) (K : Rn ly sc own cc nL fr lo q L (.int (x <<< (y &&& 31)) :: st) σ E) : Rn ly sc own cc nL fr lo pc L (.int y :: .int x :: st) σ E := by
  subst hq
  intro p l e R s m args below meth c D C ad A H locs cells slots Q ls hC hX hW hL hE
  exact lv_ishl hC.1.1 hC.1.2.1 hd (K hC hX hW hL hE)
theorem r_ishr {x y : Int32} (hd : decode cc pc = .ok (.ishr, 1)) (hq : pc + 1 = q) (K : Rn ly sc own cc nL fr lo q L (.int (x >>> (y &&& 31)) :: st) σ E) : Rn ly sc own cc nL fr lo pc L (.int y :: .int x :: st) σ E := by
  subst hq
  intro p l e R s m args below meth c D C ad A H locs cells slots Q ls hC hX hW hL hE
  exact lv_ishr hC.1.1 hC.1.2.1 hd (K hC hX hW hL hE)
theorem r_iushr {x y : Int32} (hd : decode cc pc = .ok (.iushr, 1)) (hq : pc + 1 = q) (K : Rn ly sc own cc nL fr lo q L (.int ((x.toUInt32 >>> (y.toUInt32 &&& Int32.toUInt32 31)).toInt32) :: st) σ E) : Rn ly sc own cc nL fr lo pc L (.int y :: .int x :: st) σ E := by
  subst hq
  intro p l e R s m args below meth c D C ad A H locs cells slots Q ls hC hX hW hL hE
  exact lv_iushr hC.1.1 hC.1.2.1 hd rfl (K hC hX hW hL hE)
theorem r_iaddN {x y : Nat} (hd : decode cc pc = .ok (.iadd, 1)) (hq : pc + 1 = q) (K : Rn ly sc own cc nL fr lo q L (.int (nI (x + y)) :: st) σ E) : Rn ly sc own cc nL fr lo pc L (.int (nI y) :: .int (nI x) :: st) σ E := by
  subst hq
  intro p l e R s m args below meth c D C ad A H locs cells slots Q ls hC hX hW hL hE
  rw [← nI_add] at K
  exact lv_iadd hC.1.1 hC.1.2.1 hd (K hC hX hW hL hE)
theorem r_imulN {x y : Nat} (hd : decode cc pc = .ok (.imul, 1)) (hq : pc + 1 = q) (K : Rn ly sc own cc nL fr lo q L (.int (nI (x * y)) :: st) σ E) : Rn ly sc own cc nL fr lo pc L (.int (nI y) :: .int (nI x) :: st) σ E := by
  subst hq
  intro p l e R s m args below meth c D C ad A H locs cells slots Q ls hC hX hW hL hE
  rw [← pk_mul] at K
  exact lv_imul hC.1.1 hC.1.2.1 hd (K hC hX hW hL hE)
theorem r_isubN {x y : Nat} (hd : decode cc pc = .ok (.isub, 1)) (hq : pc + 1 = q) (hle : y ≤ x) (K : Rn ly sc own cc nL fr lo q L (.int (nI (x - y)) :: st) σ E) : Rn ly sc own cc nL fr lo pc L (.int (nI y) :: .int (nI x) :: st) σ E := by
  subst hq
  intro p l e R s m args below meth c D C ad A H locs cells slots Q ls hC hX hW hL hE
  rw [← pk_sub hle] at K
  exact lv_isub hC.1.1 hC.1.2.1 hd (K hC hX hW hL hE)
theorem r_idiv {x y : Int32} (hd : decode cc pc = .ok (.idiv, 1)) (hq : pc + 1 = q) (hne : ¬ y = 0) (K : Rn ly sc own cc nL fr lo q L (.int (x / y) :: st) σ E) : Rn ly sc own cc nL fr lo pc L (.int y :: .int x :: st) σ E := by
  subst hq
  intro p l e R s m args below meth c D C ad A H locs cells slots Q ls hC hX hW hL hE
  exact lv_idiv hC.1.1 hC.1.2.1 hd hne (K hC hX hW hL hE)
theorem r_irem {x y : Int32} (hd : decode cc pc = .ok (.irem, 1)) (hq : pc + 1 = q) (hne : ¬ y = 0) (K : Rn ly sc own cc nL fr lo q L (.int (x - x / y * y) :: st) σ E) : Rn ly sc own cc nL fr lo pc L (.int y :: .int x :: st) σ E := by
  subst hq
  intro p l e R s m args below meth c D C ad A H locs cells slots Q ls hC hX hW hL hE
  exact lv_irem hC.1.1 hC.1.2.1 hd hne (K hC hX hW hL hE)
theorem r_ineg {x : Int32} (hd : decode cc pc = .ok (.ineg, 1)) (hq : pc + 1 = q) (K : Rn ly sc own cc nL fr lo q L (.int (-x) :: st) σ E) : Rn ly sc own cc nL fr lo pc L (.int x :: st) σ E := by
  subst hq
  intro p l e R s m args below meth c D C ad A H locs cells slots Q ls hC hX hW hL hE
  exact lv_ineg hC.1.1 hC.1.2.1 hd (K hC hX hW hL hE)
theorem r_iconst {n : Int} (hd : decode cc pc = .ok (.iconst n, 1)) (hq : pc + 1 = q) {v : Int32} (hv : Int32.ofInt n = v) (K : Rn ly sc own cc nL fr lo q L (.int v :: st) σ E) : Rn ly sc own cc nL fr lo pc L (st) σ E := by
  subst hq
  intro p l e R s m args below meth c D C ad A H locs cells slots Q ls hC hX hW hL hE
  exact lv_iconst hC.1.1 hC.1.2.1 hd hv (K hC hX hW hL hE)
theorem r_bipush {n : Int} (hd : decode cc pc = .ok (.bipush n, 2)) (hq : pc + 2 = q) {v : Int32} (hv : (Int8.ofInt n).toInt32 = v) (K : Rn ly sc own cc nL fr lo q L (.int v :: st) σ E) : Rn ly sc own cc nL fr lo pc L (st) σ E := by
  subst hq
  intro p l e R s m args below meth c D C ad A H locs cells slots Q ls hC hX hW hL hE
  exact lv_bipush hC.1.1 hC.1.2.1 hd hv (K hC hX hW hL hE)
theorem r_sipush {n : Int} (hd : decode cc pc = .ok (.sipush n, 3)) (hq : pc + 3 = q) {v : Int32} (hv : (Int16.ofInt n).toInt32 = v) (K : Rn ly sc own cc nL fr lo q L (.int v :: st) σ E) : Rn ly sc own cc nL fr lo pc L (st) σ E := by
  subst hq
  intro p l e R s m args below meth c D C ad A H locs cells slots Q ls hC hX hW hL hE
  exact lv_sipush hC.1.1 hC.1.2.1 hd hv (K hC hX hW hL hE)
theorem r_ldc {index : Nat} (hd : decode cc pc = .ok (.ldc index, 2)) (hq : pc + 2 = q) {v : Int32} (hw : Cond.constant own index v ∈ lw_big) (K : Rn ly sc own cc nL fr lo q L (.int v :: st) σ E) : Rn ly sc own cc nL fr lo pc L (st) σ E := by
  subst hq
  intro p l e R s m args below meth c D C ad A H locs cells slots Q ls hC hX hW hL hE
  exact lv_ldc hC.1.1 hC.1.2.1 hC.1.2.2.2.1 (hC.1.2.2.2.2 _ hw) hd (K hC hX hW hL hE)
theorem r_ldc_w {index : Nat} (hd : decode cc pc = .ok (.ldc_w index, 3)) (hq : pc + 3 = q) {v : Int32} (hw : Cond.constant own index v ∈ lw_big) (K : Rn ly sc own cc nL fr lo q L (.int v :: st) σ E) : Rn ly sc own cc nL fr lo pc L (st) σ E := by
  subst hq
  intro p l e R s m args below meth c D C ad A H locs cells slots Q ls hC hX hW hL hE
  exact lv_ldcw hC.1.1 hC.1.2.1 hC.1.2.2.2.1 (hC.1.2.2.2.2 _ hw) hd (K hC hX hW hL hE)
theorem r_iload_n {k : Fin 4} (hd : decode cc pc = .ok (.iload_n k, 1)) (hq : pc + 1 = q) {x : Int32} (hv : L[(k : Nat)]? = some (some (.int x))) (K : Rn ly sc own cc nL fr lo q L (.int x :: st) σ E) : Rn ly sc own cc nL fr lo pc L (st) σ E := by
  subst hq
  intro p l e R s m args below meth c D C ad A H locs cells slots Q ls hC hX hW hL hE
  exact lv_iload_n hC.1.1 hC.1.2.1 hd rfl (hL.2.2.2 _ _ hv) (K hC hX hW hL hE)
theorem r_aload_n {k : Fin 4} (hd : decode cc pc = .ok (.aload_n k, 1)) (hq : pc + 1 = q) {x : Nat} (hv : L[(k : Nat)]? = some (some (.ref x))) (K : Rn ly sc own cc nL fr lo q L (.ref x :: st) σ E) : Rn ly sc own cc nL fr lo pc L (st) σ E := by
  subst hq
  intro p l e R s m args below meth c D C ad A H locs cells slots Q ls hC hX hW hL hE
  exact lv_aload_n hC.1.1 hC.1.2.1 hd rfl (hL.2.2.2 _ _ hv) (K hC hX hW hL hE)
theorem r_iload {k : Nat} (hd : decode cc pc = .ok (.iload k, 2)) (hq : pc + 2 = q) {x : Int32} (hv : L[k]? = some (some (.int x))) (K : Rn ly sc own cc nL fr lo q L (.int x :: st) σ E) : Rn ly sc own cc nL fr lo pc L (st) σ E := by
  subst hq
  intro p l e R s m args below meth c D C ad A H locs cells slots Q ls hC hX hW hL hE
  exact lv_iload hC.1.1 hC.1.2.1 hd (hL.2.2.2 _ _ hv) (K hC hX hW hL hE)
theorem r_aload {k : Nat} (hd : decode cc pc = .ok (.aload k, 2)) (hq : pc + 2 = q) {x : Nat} (hv : L[k]? = some (some (.ref x))) (K : Rn ly sc own cc nL fr lo q L (.ref x :: st) σ E) : Rn ly sc own cc nL fr lo pc L (st) σ E := by
  subst hq
  intro p l e R s m args below meth c D C ad A H locs cells slots Q ls hC hX hW hL hE
  exact lv_aload hC.1.1 hC.1.2.1 hd (hL.2.2.2 _ _ hv) (K hC hX hW hL hE)
theorem r_istore_n {k : Fin 4} {x : Int32} (hd : decode cc pc = .ok (.istore_n k, 1)) (hq : pc + 1 = q) (hi : (k : Nat) < L.length) (K : Rn ly sc own cc nL fr lo q (L.set (k : Nat) (some (.int x))) st σ E) : Rn ly sc own cc nL fr lo pc L (.int x :: st) σ E := by
  subst hq
  intro p l e R s m args below meth c D C ad A H locs cells slots Q ls hC hX hW hL hE
  exact lv_istore_n hC.1.1 hC.1.2.1 hd rfl hL.has (Nat.lt_of_lt_of_le hi hL.2.2.1) rfl (fun ls' h => K hC hX hW (lh.put hL.2.2.1 h) hE)
theorem r_istore {k : Nat} {x : Int32} (hd : decode cc pc = .ok (.istore k, 2)) (hq : pc + 2 = q) (hi : k < L.length) (K : Rn ly sc own cc nL fr lo q (L.set k (some (.int x))) st σ E) : Rn ly sc own cc nL fr lo pc L (.int x :: st) σ E := by
  subst hq
  intro p l e R s m args below meth c D C ad A H locs cells slots Q ls hC hX hW hL hE
  exact lv_istore hC.1.1 hC.1.2.1 hd hL.has (Nat.lt_of_lt_of_le hi hL.2.2.1) rfl (fun ls' h => K hC hX hW (lh.put hL.2.2.1 h) hE)
theorem r_astore_n {k : Fin 4} {x : Nat} (hd : decode cc pc = .ok (.astore_n k, 1)) (hq : pc + 1 = q) (hi : (k : Nat) < L.length) (K : Rn ly sc own cc nL fr lo q (L.set (k : Nat) (some (.ref x))) st σ E) : Rn ly sc own cc nL fr lo pc L (.ref x :: st) σ E := by
  subst hq
  intro p l e R s m args below meth c D C ad A H locs cells slots Q ls hC hX hW hL hE
  exact lv_astore_n hC.1.1 hC.1.2.1 hd rfl hL.has (Nat.lt_of_lt_of_le hi hL.2.2.1) rfl (fun ls' h => K hC hX hW (lh.put hL.2.2.1 h) hE)
theorem r_iinc {k : Nat} {n : Int} {x v : Int32} (hd : decode cc pc = .ok (.iinc k n, 3)) (hq : pc + 3 = q) (hx : L[k]? = some (some (.int x))) (hv : x + Int32.ofInt n = v) (K : Rn ly sc own cc nL fr lo q (L.set k (some (.int v))) st σ E) : Rn ly sc own cc nL fr lo pc L st σ E := by
  subst hq
  intro p l e R s m args below meth c D C ad A H locs cells slots Q ls hC hX hW hL hE
  have hm : (k, Value.int x) ∈ lhl ad L := lhl_mem.mpr ⟨.int x, hx, rfl⟩
  obtain ⟨j, hj⟩ := List.getElem?_of_mem hm
  exact lv_iinc hC.1.1 hC.1.2.1 hd hL.has hj hv (Nat.lt_of_lt_of_le (List.getElem?_eq_some_iff.mp hx).1 hL.2.2.1) rfl (fun ls' h => K hC hX hW (lh.put hL.2.2.1 h) hE)
theorem r_dup {v : Value} (hd : decode cc pc = .ok (.dup, 1)) (hq : pc + 1 = q) (K : Rn ly sc own cc nL fr lo q L (v :: v :: st) σ E) : Rn ly sc own cc nL fr lo pc L (v :: st) σ E := by
  subst hq
  intro p l e R s m args below meth c D C ad A H locs cells slots Q ls hC hX hW hL hE
  exact lv_dup hC.1.1 hC.1.2.1 hd (rv_cat ad v) (K hC hX hW hL hE)
theorem r_dup2 {v u : Value} (hd : decode cc pc = .ok (.dup2, 1)) (hq : pc + 1 = q) (K : Rn ly sc own cc nL fr lo q L (v :: u :: v :: u :: st) σ E) : Rn ly sc own cc nL fr lo pc L (v :: u :: st) σ E := by
  subst hq
  intro p l e R s m args below meth c D C ad A H locs cells slots Q ls hC hX hW hL hE
  exact lv_dup2_11 hC.1.1 hC.1.2.1 hd (rv_cat ad v) (rv_cat ad u) (K hC hX hW hL hE)
theorem r_goto {off : Int} (hd : decode cc pc = .ok (.goto off, 3)) (hq : (pc : Int) + off = (q : Int)) (K : Rn ly sc own cc nL fr lo q L st σ E) : Rn ly sc own cc nL fr lo pc L st σ E := by
  intro p l e R s m args below meth c D C ad A H locs cells slots Q ls hC hX hW hL hE
  exact lv_goto hC.1.1 hC.1.2.1 hd hq (K hC hX hW hL hE)
theorem r_if_eq {x : Int32} {off : Int} {t : Nat} (hd : decode cc pc = .ok (.ifCond .eq off, 3)) (ht : (pc : Int) + off = (t : Int)) (hq : pc + 3 = q) (Kt : x = 0 → Rn ly sc own cc nL fr lo t L st σ E) (Kf : ¬ x = 0 → Rn ly sc own cc nL fr lo q L st σ E) : Rn ly sc own cc nL fr lo pc L (.int x :: st) σ E := by
  subst hq
  intro p l e R s m args below meth c D C ad A H locs cells slots Q ls hC hX hW hL hE
  exact lv_if_eq hC.1.1 hC.1.2.1 hd ht (fun h => Kt h hC hX hW hL hE) (fun h => Kf h hC hX hW hL hE)
theorem r_icmp_eq {x y : Int32} {off : Int} {t : Nat} (hd : decode cc pc = .ok (.if_icmp .eq off, 3)) (ht : (pc : Int) + off = (t : Int)) (hq : pc + 3 = q) (Kt : x = y → Rn ly sc own cc nL fr lo t L st σ E) (Kf : ¬ x = y → Rn ly sc own cc nL fr lo q L st σ E) : Rn ly sc own cc nL fr lo pc L (.int y :: .int x :: st) σ E := by
  subst hq
  intro p l e R s m args below meth c D C ad A H locs cells slots Q ls hC hX hW hL hE
  exact lv_icmp_eq hC.1.1 hC.1.2.1 hd ht (fun h => Kt h hC hX hW hL hE) (fun h => Kf h hC hX hW hL hE)
theorem r_if_ne {x : Int32} {off : Int} {t : Nat} (hd : decode cc pc = .ok (.ifCond .ne off, 3)) (ht : (pc : Int) + off = (t : Int)) (hq : pc + 3 = q) (Kt : ¬ x = 0 → Rn ly sc own cc nL fr lo t L st σ E) (Kf : x = 0 → Rn ly sc own cc nL fr lo q L st σ E) : Rn ly sc own cc nL fr lo pc L (.int x :: st) σ E := by
  subst hq
  intro p l e R s m args below meth c D C ad A H locs cells slots Q ls hC hX hW hL hE
  exact lv_if_ne hC.1.1 hC.1.2.1 hd ht (fun h => Kt h hC hX hW hL hE) (fun h => Kf h hC hX hW hL hE)
theorem r_icmp_ne {x y : Int32} {off : Int} {t : Nat} (hd : decode cc pc = .ok (.if_icmp .ne off, 3)) (ht : (pc : Int) + off = (t : Int)) (hq : pc + 3 = q) (Kt : ¬ x = y → Rn ly sc own cc nL fr lo t L st σ E) (Kf : x = y → Rn ly sc own cc nL fr lo q L st σ E) : Rn ly sc own cc nL fr lo pc L (.int y :: .int x :: st) σ E := by
  subst hq
  intro p l e R s m args below meth c D C ad A H locs cells slots Q ls hC hX hW hL hE
  exact lv_icmp_ne hC.1.1 hC.1.2.1 hd ht (fun h => Kt h hC hX hW hL hE) (fun h => Kf h hC hX hW hL hE)
theorem r_if_lt {x : Int32} {off : Int} {t : Nat} (hd : decode cc pc = .ok (.ifCond .lt off, 3)) (ht : (pc : Int) + off = (t : Int)) (hq : pc + 3 = q) (Kt : x < 0 → Rn ly sc own cc nL fr lo t L st σ E) (Kf : ¬ x < 0 → Rn ly sc own cc nL fr lo q L st σ E) : Rn ly sc own cc nL fr lo pc L (.int x :: st) σ E := by
  subst hq
  intro p l e R s m args below meth c D C ad A H locs cells slots Q ls hC hX hW hL hE
  exact lv_if_lt hC.1.1 hC.1.2.1 hd ht (fun h => Kt h hC hX hW hL hE) (fun h => Kf h hC hX hW hL hE)
theorem r_icmp_lt {x y : Int32} {off : Int} {t : Nat} (hd : decode cc pc = .ok (.if_icmp .lt off, 3)) (ht : (pc : Int) + off = (t : Int)) (hq : pc + 3 = q) (Kt : x < y → Rn ly sc own cc nL fr lo t L st σ E) (Kf : ¬ x < y → Rn ly sc own cc nL fr lo q L st σ E) : Rn ly sc own cc nL fr lo pc L (.int y :: .int x :: st) σ E := by
  subst hq
  intro p l e R s m args below meth c D C ad A H locs cells slots Q ls hC hX hW hL hE
  exact lv_icmp_lt hC.1.1 hC.1.2.1 hd ht (fun h => Kt h hC hX hW hL hE) (fun h => Kf h hC hX hW hL hE)
theorem r_if_ge {x : Int32} {off : Int} {t : Nat} (hd : decode cc pc = .ok (.ifCond .ge off, 3)) (ht : (pc : Int) + off = (t : Int)) (hq : pc + 3 = q) (Kt : 0 ≤ x → Rn ly sc own cc nL fr lo t L st σ E) (Kf : ¬ 0 ≤ x → Rn ly sc own cc nL fr lo q L st σ E) : Rn ly sc own cc nL fr lo pc L (.int x :: st) σ E := by
  subst hq
  intro p l e R s m args below meth c D C ad A H locs cells slots Q ls hC hX hW hL hE
  exact lv_if_ge hC.1.1 hC.1.2.1 hd ht (fun h => Kt h hC hX hW hL hE) (fun h => Kf h hC hX hW hL hE)
theorem r_icmp_ge {x y : Int32} {off : Int} {t : Nat} (hd : decode cc pc = .ok (.if_icmp .ge off, 3)) (ht : (pc : Int) + off = (t : Int)) (hq : pc + 3 = q) (Kt : y ≤ x → Rn ly sc own cc nL fr lo t L st σ E) (Kf : ¬ y ≤ x → Rn ly sc own cc nL fr lo q L st σ E) : Rn ly sc own cc nL fr lo pc L (.int y :: .int x :: st) σ E := by
  subst hq
  intro p l e R s m args below meth c D C ad A H locs cells slots Q ls hC hX hW hL hE
  exact lv_icmp_ge hC.1.1 hC.1.2.1 hd ht (fun h => Kt h hC hX hW hL hE) (fun h => Kf h hC hX hW hL hE)
theorem r_if_gt {x : Int32} {off : Int} {t : Nat} (hd : decode cc pc = .ok (.ifCond .gt off, 3)) (ht : (pc : Int) + off = (t : Int)) (hq : pc + 3 = q) (Kt : 0 < x → Rn ly sc own cc nL fr lo t L st σ E) (Kf : ¬ 0 < x → Rn ly sc own cc nL fr lo q L st σ E) : Rn ly sc own cc nL fr lo pc L (.int x :: st) σ E := by
  subst hq
  intro p l e R s m args below meth c D C ad A H locs cells slots Q ls hC hX hW hL hE
  exact lv_if_gt hC.1.1 hC.1.2.1 hd ht (fun h => Kt h hC hX hW hL hE) (fun h => Kf h hC hX hW hL hE)
theorem r_icmp_gt {x y : Int32} {off : Int} {t : Nat} (hd : decode cc pc = .ok (.if_icmp .gt off, 3)) (ht : (pc : Int) + off = (t : Int)) (hq : pc + 3 = q) (Kt : y < x → Rn ly sc own cc nL fr lo t L st σ E) (Kf : ¬ y < x → Rn ly sc own cc nL fr lo q L st σ E) : Rn ly sc own cc nL fr lo pc L (.int y :: .int x :: st) σ E := by
  subst hq
  intro p l e R s m args below meth c D C ad A H locs cells slots Q ls hC hX hW hL hE
  exact lv_icmp_gt hC.1.1 hC.1.2.1 hd ht (fun h => Kt h hC hX hW hL hE) (fun h => Kf h hC hX hW hL hE)
theorem r_if_le {x : Int32} {off : Int} {t : Nat} (hd : decode cc pc = .ok (.ifCond .le off, 3)) (ht : (pc : Int) + off = (t : Int)) (hq : pc + 3 = q) (Kt : x ≤ 0 → Rn ly sc own cc nL fr lo t L st σ E) (Kf : ¬ x ≤ 0 → Rn ly sc own cc nL fr lo q L st σ E) : Rn ly sc own cc nL fr lo pc L (.int x :: st) σ E := by
  subst hq
  intro p l e R s m args below meth c D C ad A H locs cells slots Q ls hC hX hW hL hE
  exact lv_if_le hC.1.1 hC.1.2.1 hd ht (fun h => Kt h hC hX hW hL hE) (fun h => Kf h hC hX hW hL hE)
theorem r_icmp_le {x y : Int32} {off : Int} {t : Nat} (hd : decode cc pc = .ok (.if_icmp .le off, 3)) (ht : (pc : Int) + off = (t : Int)) (hq : pc + 3 = q) (Kt : x ≤ y → Rn ly sc own cc nL fr lo t L st σ E) (Kf : ¬ x ≤ y → Rn ly sc own cc nL fr lo q L st σ E) : Rn ly sc own cc nL fr lo pc L (.int y :: .int x :: st) σ E := by
  subst hq
  intro p l e R s m args below meth c D C ad A H locs cells slots Q ls hC hX hW hL hE
  exact lv_icmp_le hC.1.1 hC.1.2.1 hd ht (fun h => Kt h hC hX hW hL hE) (fun h => Kf h hC hX hW hL hE)
theorem r_tableIn {dflt l0 h0 : Int} {offs : Array Int} {len : Nat} {x : Int32} {off : Int} (hd : decode cc pc = .ok (.tableswitch dflt l0 h0 offs, len)) (h1 : ¬ x.toInt < l0) (h2 : ¬ h0 < x.toInt) (ho : offs[(x.toInt - l0).toNat]? = some off) (hq : (pc : Int) + off = (q : Int)) (K : Rn ly sc own cc nL fr lo q L st σ E) : Rn ly sc own cc nL fr lo pc L (.int x :: st) σ E := by
  intro p l e R s m args below meth c D C ad A H locs cells slots Q ls hC hX hW hL hE
  exact lv_tableIn hC.1.1 hC.1.2.1 hd h1 h2 ho hq (K hC hX hW hL hE)
theorem r_tableOut {dflt l0 h0 : Int} {offs : Array Int} {len : Nat} {x : Int32} (hd : decode cc pc = .ok (.tableswitch dflt l0 h0 offs, len)) (h : x.toInt < l0 ∨ h0 < x.toInt) (hq : (pc : Int) + dflt = (q : Int)) (K : Rn ly sc own cc nL fr lo q L st σ E) : Rn ly sc own cc nL fr lo pc L (.int x :: st) σ E := by
  intro p l e R s m args below meth c D C ad A H locs cells slots Q ls hC hX hW hL hE
  exact lv_tableOut hC.1.1 hC.1.2.1 hd h hq (K hC hX hW hL hE)
theorem r_iald {k j n : Nat} (hd : decode cc pc = .ok (.iaload, 1)) (hq : pc + 1 = q) (hly : ly[k]? = some (.inl (0, n))) (hj : j < n) (hn : n < 2 ^ 31) (K : Rn ly sc own cc nL fr lo q L (.int (σ k j) :: st) σ E) : Rn ly sc own cc nL fr lo pc L (.int (nI j) :: .ref k :: st) σ E := by
  subst hq
  intro p l e R s m args below meth c D C ad A H locs cells slots Q ls hC hX hW hL hE
  rw [← nI_clamp (Nat.lt_trans hj hn)] at K
  exact va_iald hC.1.1 hC.1.2.1 hC.2.2.2.2.2.1 hW.1 k 0 (wd_ai hly) rfl (vp_in_nI hj hn) hd (K hC hX hW hL hE)
theorem r_zald {k j n : Nat} (hd : decode cc pc = .ok (.baload, 1)) (hq : pc + 1 = q) (hly : ly[k]? = some (.inl (1, n))) (hj : j < n) (hn : n < 2 ^ 31) (K : Rn ly sc own cc nL fr lo q L (.int (σ k j) :: st) σ E) : Rn ly sc own cc nL fr lo pc L (.int (nI j) :: .ref k :: st) σ E := by
  subst hq
  intro p l e R s m args below meth c D C ad A H locs cells slots Q ls hC hX hW hL hE
  rw [← nI_clamp (Nat.lt_trans hj hn)] at K
  exact va_zald hC.1.1 hC.1.2.1 hC.2.2.2.2.2.1 hW.1 k 1 (wd_az hly) rfl (vp_in_nI hj hn) hd (K hC hX hW hL hE)
theorem r_iast {k j n : Nat} {x : Int32} (hd : decode cc pc = .ok (.iastore, 1)) (hq : pc + 1 = q) (hly : ly[k]? = some (.inl (0, n))) (hj : j < n) (hn : n < 2 ^ 31) (K : Rn ly sc own cc nL fr lo q L st (va_up σ k (upd (σ k) j x)) E) : Rn ly sc own cc nL fr lo pc L (.int x :: .int (nI j) :: .ref k :: st) σ E := by
  subst hq
  intro p l e R s m args below meth c D C ad A H locs cells slots Q ls hC hX hW hL hE
  refine va_iast hC.1.1 hC.1.2.1 hC.2.2.2.2.2.1 hW.1 hW.2.1 hW.2.2 k 0 (wd_ai hly) rfl (vp_in_nI hj hn) hd (fun H1 locs1 hP hD hS => ?_)
  rw [nI_clamp (Nat.lt_trans hj hn), wd_setI hly] at hP hD
  exact K hC hX ⟨hP, hD, hS⟩ hL hE
theorem vp_narZ {x : Int32} (h : x = 0 ∨ x = 1) : vp_nar .boolean x = x := by rcases h with rfl | rfl <;> decide +kernel
theorem r_zast {k j n : Nat} {x : Int32} (hd : decode cc pc = .ok (.bastore, 1)) (hq : pc + 1 = q) (hly : ly[k]? = some (.inl (1, n))) (hj : j < n) (hn : n < 2 ^ 31) (hx : x = 0 ∨ x = 1) (K : Rn ly sc own cc nL fr lo q L st (va_up σ k (upd (σ k) j x)) E) : Rn ly sc own cc nL fr lo pc L (.int x :: .int (nI j) :: .ref k :: st) σ E := by
  subst hq
  intro p l e R s m args below meth c D C ad A H locs cells slots Q ls hC hX hW hL hE
  refine va_zast hC.1.1 hC.1.2.1 hC.2.2.2.2.2.1 hW.1 hW.2.1 hW.2.2 k 1 (wd_az hly) rfl (vp_in_nI hj hn) hd (fun H1 locs1 hP hD hS => ?_)
  rw [vp_narZ hx, nI_clamp (Nat.lt_trans hj hn), wd_setZ hly] at hP hD
  exact K hC hX ⟨hP, hD, hS⟩ hL hE
theorem r_alen {k n : Nat} (hd : decode cc pc = .ok (.arraylength, 1)) (hq : pc + 1 = q) (hly : ly[k]? = some (.inl (0, n))) (K : Rn ly sc own cc nL fr lo q L (.int (nI n) :: st) σ E) : Rn ly sc own cc nL fr lo pc L (.ref k :: st) σ E := by
  subst hq
  intro p l e R s m args below meth c D C ad A H locs cells slots Q ls hC hX hW hL hE
  exact va_alen hC.1.1 hC.1.2.1 hC.2.2.2.2.2.1 hW.1 k 0 (wd_ai hly) (ty := .int) rfl rfl hd (K hC hX hW hL hE)
theorem r_sld {n : Nat} {xs : Nat → Int32} {j : Nat} (hd : decode cc pc = .ok (.iaload, 1)) (hq : pc + 1 = q) (hj : j < n) (hn : n < 2 ^ 31) (K : Rn ly (some (n, xs)) own cc nL fr lo q L (.int (xs j) :: st) σ E) : Rn ly (some (n, xs)) own cc nL fr lo pc L (.int (nI j) :: .ref 1000 :: st) σ E := by
  subst hq
  intro p l e R s m args below meth c D C ad A H locs cells slots Q ls hC hX hW hL hE
  rw [← nI_clamp (Nat.lt_trans hj hn)] at K
  obtain ⟨h1, h2, h3⟩ := hX.2 n xs rfl
  exact va_sld hC.1.1 hC.1.2.1 h1 h2 h3 hW.2.2 (vp_in_nI hj hn) hd (K hC hX hW hL hE)
theorem r_slen {n : Nat} {xs : Nat → Int32} (hd : decode cc pc = .ok (.arraylength, 1)) (hq : pc + 1 = q) (K : Rn ly (some (n, xs)) own cc nL fr lo q L (.int (nI n) :: st) σ E) : Rn ly (some (n, xs)) own cc nL fr lo pc L (.ref 1000 :: st) σ E := by
  subst hq
  intro p l e R s m args below meth c D C ad A H locs cells slots Q ls hC hX hW hL hE
  obtain ⟨h1, h2, h3⟩ := hX.2 n xs rfl
  exact va_slen hC.1.1 hC.1.2.1 h1 h2 h3 hW.2.2 hd (K hC hX hW hL hE)
/-- what the tables say of a field that an instruction names -/
def FD (own : String) (idx ci j : Nat) (ty : FieldType) (fin : Bool) : Prop := ∃ (Cn : String) (T : u_T) (N : Nat) (tf : Nat → FieldType), vwCl[ci]? = some (Cn, T, N) ∧ (∀ w ∈ u_ws Cn T N, w ∈ lw_big) ∧ (∀ k, k < N → parseFieldDescriptor (T k).2.2.1 = some (tf k)) ∧ (∀ a, a < N → ∀ b, b < N → a ≠ b → (T a).2.1 ≠ (T b).2.1) ∧ j < N ∧ Cond.fieldLink own idx (T j).1 (T j).2.1 (T j).2.2.1 ∈ lw_big ∧ (T j).2.2.2 = fin ∧ parseFieldDescriptor (T j).2.2.1 = some ty
theorem r_getV {idx k ci j : Nat} {ty : FieldType} {fin : Bool} {fs : List (Nat × Nat)} {f : Nat × Nat} {v : Value} (hd : decode cc pc = .ok (.getfield idx, 3)) (hq : pc + 3 = q) (hf : FD own idx ci j ty fin) (hly : ly[k]? = some (.inr (ci, fs))) (hj : fs[j]? = some f) (hv : ∀ ad, fv ad (σ k) j f = rv ad v) (K : Rn ly sc own cc nL fr lo q L (v :: st) σ E) : Rn ly sc own cc nL fr lo pc L (.ref k :: st) σ E := by
  subst hq
  intro p l e R s m args below meth c D C ad A H locs cells slots Q ls hC hX hW hL hE
  obtain ⟨Cn, T, N, tf, h1, h2, h3, h4, h5, h6, h7, h8⟩ := hf
  exact va_get hC.1.1 hC.1.2.1 hC.1.2.2.2.2 h2 hC.1.2.2.2.1 hC.2.2.2.2.2.1 hW.1 k (wd_ob hly) h1 j h5 (hC.1.2.2.2.2 _ h6) (fun _ h => h) (by rw [List.getElem?_mapIdx, hj]; exact congrArg some (hv ad)) hd (K hC hX hW hL hE)
theorem r_getI {idx k ci j : Nat} {ty : FieldType} {fin : Bool} {fs : List (Nat × Nat)} {z : Nat} (hd : decode cc pc = .ok (.getfield idx, 3)) (hq : pc + 3 = q) (hf : FD own idx ci j ty fin) (hly : ly[k]? = some (.inr (ci, fs))) (hj : fs[j]? = some (0, z)) (K : Rn ly sc own cc nL fr lo q L (.int (σ k j) :: st) σ E) : Rn ly sc own cc nL fr lo pc L (.ref k :: st) σ E := r_getV hd hq hf hly hj (fun _ => rfl) K
theorem r_getZ {idx k ci j : Nat} {ty : FieldType} {fin : Bool} {fs : List (Nat × Nat)} {z : Nat} (hd : decode cc pc = .ok (.getfield idx, 3)) (hq : pc + 3 = q) (hf : FD own idx ci j ty fin) (hly : ly[k]? = some (.inr (ci, fs))) (hj : fs[j]? = some (1, z)) (K : Rn ly sc own cc nL fr lo q L (.int (σ k j) :: st) σ E) : Rn ly sc own cc nL fr lo pc L (.ref k :: st) σ E := r_getV hd hq hf hly hj (fun _ => rfl) K
theorem r_getR {idx k ci j : Nat} {ty : FieldType} {fin : Bool} {fs : List (Nat × Nat)} {z : Nat} (hd : decode cc pc = .ok (.getfield idx, 3)) (hq : pc + 3 = q) (hf : FD own idx ci j ty fin) (hly : ly[k]? = some (.inr (ci, fs))) (hj : fs[j]? = some (2, z)) (K : Rn ly sc own cc nL fr lo q L (.ref z :: st) σ E) : Rn ly sc own cc nL fr lo pc L (.ref k :: st) σ E := r_getV hd hq hf hly hj (fun _ => rfl) K
theorem r_putV {idx k ci j t z : Nat} {ty : FieldType} {fs : List (Nat × Nat)} {x : Int32} (hd : decode cc pc = .ok (.putfield idx, 3)) (hq : pc + 3 = q) (hf : FD own idx ci j ty false) (hly : ly[k]? = some (.inr (ci, fs))) (hj : fs[j]? = some (t, z)) (ht : t < 2) (hn : narrow ty (.int x) = .int x) (hfit : fits ty (.int x) = true) (K : Rn ly sc own cc nL fr lo q L st (va_up σ k (upd (σ k) j x)) E) : Rn ly sc own cc nL fr lo pc L (.int x :: .ref k :: st) σ E := by
  subst hq
  intro p l e R s m args below meth c D C ad A H locs cells slots Q ls hC hX hW hL hE
  obtain ⟨Cn, T, N, tf, h1, h2, h3, h4, h5, h6, h7, h8⟩ := hf
  refine va_put hC.1.1 hC.1.2.1 hC.1.2.2.2.2 h2 tf h3 h4 hC.1.2.2.2.1 hC.2.2.2.2.2.1 hW.1 hW.2.1 hW.2.2 k (wd_ob hly) h1 j h5 (hC.1.2.2.2.2 _ h6) (fun _ h => h) h7 h8 hn hfit (by rw [List.length_mapIdx]; exact (List.getElem?_eq_some_iff.mp hj).1) hd (fun H1 locs1 hP hD hS => ?_)
  rw [show rv ad (Value.int x) = Value.int x from rfl, wd_setO hly hj ht] at hP hD
  exact K hC hX ⟨hP, hD, hS⟩ hL hE
theorem r_putI {idx k ci j z : Nat} {fs : List (Nat × Nat)} {x : Int32} (hd : decode cc pc = .ok (.putfield idx, 3)) (hq : pc + 3 = q) (hf : FD own idx ci j .int false) (hly : ly[k]? = some (.inr (ci, fs))) (hj : fs[j]? = some (0, z)) (K : Rn ly sc own cc nL fr lo q L st (va_up σ k (upd (σ k) j x)) E) : Rn ly sc own cc nL fr lo pc L (.int x :: .ref k :: st) σ E := r_putV hd hq hf hly hj (by decide) rfl rfl K
theorem r_putZ {idx k ci j z : Nat} {fs : List (Nat × Nat)} {x : Int32} (hd : decode cc pc = .ok (.putfield idx, 3)) (hq : pc + 3 = q) (hf : FD own idx ci j .boolean false) (hly : ly[k]? = some (.inr (ci, fs))) (hj : fs[j]? = some (1, z)) (hx : x = 0 ∨ x = 1) (K : Rn ly sc own cc nL fr lo q L st (va_up σ k (upd (σ k) j x)) E) : Rn ly sc own cc nL fr lo pc L (.int x :: .ref k :: st) σ E := r_putV hd hq hf hly hj (by decide) (by rcases hx with rfl | rfl <;> rfl) (by rcases hx with rfl | rfl <;> rfl) K
theorem r_ret {x : Int32} (hd : decode cc pc = .ok (.ireturn, 1)) (h : E (some x) σ) : Rn ly sc own cc nL fr lo pc L [.int x] σ E := by
  intro p l e R s m args below meth c D C ad A H locs cells slots Q ls hC hX hW hL hE
  exact hE (some x) σ H locs ls pc h hW hd
theorem r_void (hd : decode cc pc = .ok (.return_, 1)) (h : E none σ) : Rn ly sc own cc nL fr lo pc L [] σ E := by
  intro p l e R s m args below meth c D C ad A H locs cells slots Q ls hC hX hW hL hE
  exact hE none σ H locs ls pc h hW hd
end CORE
/-- a method's contract: from the contents σ, with these arguments, it returns with E; no cell is made -/
def Cl (ly : List LyE) (y : MethodName) (cc : ByteArray) (nL : Nat) (ret : Option FieldType) (fr lo : Nat) (av : List Value) (σ : St) (E : Option Int32 → St → Prop) : Prop :=
  ∀ (l : Launch) (D : va_G) (C : ClassId × ClassId) (ad : Nat → Nat) (sz : Nat), Met l y (.code y cc nL ret :: lw_big) ({ frames := fr, cells := 0, slots := 0, locals := lo })
    (va_Pc (av.map (rv ad)) (fun U => U.heap.size = sz ∧ va_P D vwCl (wd C ad ly σ) U.heap ∧ Kn D C U ∧ va_D (fun _ => True) (wd C ad ly σ)))
    (fun _ st oc t => (∃ (r : Option Int32) (τ : St), oc = .returned (r.map Value.int) ∧ E r τ ∧ va_P D vwCl (wd C ad ly τ) t.heap) ∧ va_F (va_A (wd C ad ly σ) sz) st t) 0 0 (va_A (wd C ad ly σ) sz)
def retOk (ret : Option FieldType) (r : Option Int32) : Prop := match ret, r with
  | none, none => True
  | some .int, some _ => True
  | some .boolean, some x => x = 0 ∨ x = 1
  | _, _ => False
theorem Cl.mono {ly : List LyE} {y : MethodName} {cc : ByteArray} {nL fr lo : Nat} {ret : Option FieldType} {av : List Value} {σ : St} {E E' : Option Int32 → St → Prop} (h : Cl ly y cc nL ret fr lo av σ E) (hE : ∀ r τ, E r τ → E' r τ) : Cl ly y cc nL ret fr lo av σ E' := by
  intro l D C ad sz
  have h1 := h l D C ad sz
  unfold Met MetFree at h1 ⊢
  intro p e ha hc hk s m args below hf happ hP hK
  obtain ⟨k, o, h2, h3, h4, ⟨⟨⟨r, τ, q1, q2, q3⟩, q4⟩, q5⟩⟩ := h1 p e ha hc hk s m args below hf happ hP hK
  exact ⟨k, o, h2, h3, h4, ⟨⟨⟨r, τ, q1, hE r τ q2, q3⟩, q4⟩, q5⟩⟩
theorem lg_len (ad : Nat → Nat) (av : List Value) : (lg_sl (av.map (rv ad))).length = av.length := by
  induction av with
  | nil => rfl
  | cons v av ih =>
    have e : lg_sl (rv ad v :: av.map (rv ad)) = Slot.val (rv ad v) :: lg_sl (av.map (rv ad)) := by
      simp [lg_sl, rv_cat]
    rw [List.map_cons, e, List.length_cons, ih, List.length_cons]
set_option maxHeartbeats 4000000 in
theorem Cl.of {ly : List LyE} {y : MethodName} {cc : ByteArray} {nL fr lo : Nat} {ret : Option FieldType} {av : List Value} {σ : St} {E : Option Int32 → St → Prop} (n : Nat) (hn : av.length + n = nL) (hy : plainName y.cls = true) (hret : ∀ r τ, E r τ → retOk ret r)
    (h : Rn ly none y.cls cc nL fr lo 0 (av.map some ++ List.replicate n none) [] σ E) : Cl ly y cc nL ret fr lo av σ E := by
  intro l D C ad sz
  refine Met.ofW (cc := cc) (maxL := nL) (ret := ret) hy rfl ?_
  intro p e s m args below meth c s₁ B hml hv
  obtain ⟨rfl, hsz, hP, hK, hD0⟩ := hv
  have hx := B.exec
  have hb := B.bytes
  have hr := B.returns
  have hts := atoms_spec (ws := .code y cc nL ret :: lw_big) B.pre
  have hown : s.vm.findClass y.cls = some m.cls := findClass_of_methodNamed B.named
  have hlocks := B.notSynchronized
  subst hsz
  have hD := hD0.self (sz := s.heap.size)
  have hlen := lg_len ad av
  have hl := lv_entry (av.map (rv ad)) (n := nL) (by rw [hlen]; omega)
  rw [lg_entry_eq]
  refine h (cells := 0) (slots := 0) (A := va_A (wd C ad ly σ) s.heap.size) (D := D) (C := C) (ad := ad) ⟨⟨hx, hb, hml, hown, fun w hw => hts w (List.mem_cons_of_mem _ hw)⟩, Nat.le_refl _, Nat.le_refl _, Nat.le_refl _, Nat.le_refl _, hK⟩ ⟨fun q hq => Or.inr hq, fun n xs e => by cases e⟩ ⟨hP, hD, va_S.rf⟩ (lh.entry n hn hl) ?_
  intro r τ H' locs' ls' pc' hEr hW' hRet
  have hok := hret r τ hEr
  have hq : ∀ t : State, t.heap = H' → (∃ (r' : Option Int32) (τ' : St), Outcome.returned (r.map Value.int) = .returned (r'.map Value.int) ∧ E r' τ' ∧ va_P D vwCl (wd C ad ly τ') t.heap) ∧ va_F (va_A (wd C ad ly σ) s.heap.size) s t := fun t ht => ⟨⟨r, τ, rfl, hEr, by rw [ht]; exact hW'.1⟩, hW'.2.2.F ht⟩
  cases r with
  | none =>
    cases ret with
    | none => exact W.vret hx hb hr (fun t ht _ => hq t ht) hW'.2.2.2.2 hRet
    | some ty => cases ty <;> exact hok.elim
  | some x =>
    cases ret with
    | none => exact hok.elim
    | some ty =>
      refine W.zret hx hb hr ?_ (fun t ht _ => hq t ht) hW'.2.2.2.2 hRet
      cases ty <;> first | rfl | exact hok.elim | (rcases hok with rfl | rfl <;> rfl)
/-- what the tables say of a call -/
def CwB (own : String) (idx : Nat) (y : MethodName) (cc' : ByteArray) (nL' : Nat) (ret : Option FieldType) (n : Nat) : Prop :=
  Cond.code y cc' nL' ret ∈ lw_big ∧ Cond.initialized y.cls ∈ lw_big ∧ Cond.methodLink own idx y ∈ lw_big ∧ (y.cls ≠ "java/lang/invoke/MethodHandle" ∧ y.cls ≠ "java/lang/invoke/VarHandle" ∧ (parseMethodDescriptor y.desc).map (fun d => d.parameters.length) = some n)
def CwV (own : String) (idx : Nat) (y : MethodName) (cc' : ByteArray) (nL' : Nat) (ret : Option FieldType) (n : Nat) : Prop := CwB own idx y cc' nL' ret n ∧ Cond.instanceMethod y ∈ lw_big ∧ Cond.selects y.cls y y ∈ lw_big
def CwS (own : String) (idx : Nat) (y : MethodName) (cc' : ByteArray) (nL' : Nat) (ret : Option FieldType) (n : Nat) : Prop := CwB own idx y cc' nL' ret n ∧ Cond.static y ∈ lw_big
theorem goodIn_law {w : Cond} (hw : w ∈ lw_big) : GoodIn lw_big (w :: lw_big) := by
  have hg : ∀ u ∈ lw_big, goodWord u = true := fun _ h => big_good h
  intro u hu
  rcases List.mem_cons.mp hu with rfl | hu
  · exact ⟨hw, good_of_word (hg _ hw)⟩
  · exact ⟨hu, good_of_word (hg _ hu)⟩
theorem CwB.use {R : Room} {s : State} {args : Array Value} {own : String} {idx : Nat} {y : MethodName} {cc' : ByteArray} {nL' n fr' lo' : Nat} {ret : Option FieldType} (h : CwB own idx y cc' nL' ret n) (hts : ∀ w ∈ lw_big, w.before args s = true) (hf : fr' + 1 ≤ R.frames) (hl : 8 + (nL' + 11) + lo' ≤ R.locals) :
    CallB R s args own idx y cc' nL' ret (.code y cc' nL' ret :: lw_big) ({ frames := fr', cells := 0, slots := 0, locals := lo' }) 0 0 n :=
  callB_of n hts (goodIn_law h.1) rfl rfl rfl (hts _ h.2.1) (hts _ h.2.2.1) h.2.2.2 ⟨hf, hl⟩
theorem cl_blind {av : List Value} {D : va_G} {C : ClassId × ClassId} {ws : va_W} {sz : Nat} : FrameBlind (va_Pc av (fun U => U.heap.size = sz ∧ va_P D vwCl ws U.heap ∧ Kn D C U ∧ va_D (fun _ => True) ws)) := by
  intro a U g mk q
  obtain ⟨q0, q1, qP, qK, qD⟩ := q
  exact ⟨q0, q1, qP, qK.same rfl, qD⟩
section CALLS
variable {ly : List LyE} {sc : Option (Nat × (Nat → Int32))} {own : String} {cc : ByteArray} {nL fr lo pc q : Nat} {L : List (Option Value)} {st : List Value} {σ : St} {E : Option Int32 → St → Prop}
theorem cat_sum (ad : Nat → Nat) (st : List Value) : ((st.map (rv ad)).map fun v => v.category).sum = st.length := by
  induction st with
  | nil => rfl
  | cons v st ih => simp only [List.map_cons, List.sum_cons, List.length_cons, rv_cat] at ih ⊢; omega
/-- behind a call -/
theorem va_callg {p : Program} {l : Launch} {e : Env} {R : Room} {s : State} {m : MethodId} {args : Array Value} {below : List Frame} {meth : Method} {c : Code} {H : Heap} {locs : List Loc} {cells slots : Nat} {Q : State → Prop} {pc : Nat} {ls : Array Slot} {rest st0 : List Value} {A0 A1 : Nat → Prop} {H0 : Heap} {free : Addr → Prop} {B : Option Value → Heap → Prop} (hr : va_Run p l e R s m args below meth c H locs cells slots 0 0 (F0 m pc ls st0) rest (fun st oc t => (∃ v, oc = .returned v ∧ B v t.heap) ∧ va_F A1 st t) free) (hS : va_S A0 H0 H locs) (hA : ∀ q, q < H.size → A1 q → A0 q) (hf : ∀ q, free q → A0 q)
    (kk : ∀ (v : Option Value) (H1 : Heap) (locs1 : List Loc), B v H1 → va_S A0 H0 H1 locs1 → W p l e R s m args below meth c H1 locs1 cells slots Q (F0 m (pc + 3) ls (v.toList ++ rest))) : W p l e R s m args below meth c H locs cells slots Q (F0 m pc ls st0) := by
  intro T hT X
  obtain ⟨v, st₀, t, T', L, h0, X', hL, e1, e2, ⟨⟨v', hv, hb⟩, hz, hk⟩, stp⟩ := hr T hT X
  cases hv
  rw [h0] at hz hk
  obtain ⟨t2, a1, b1⟩ := kk v T'.heap (locs ++ L) (by rw [e1]; exact hb)
    ⟨Nat.le_trans hS.1 (by rw [e1]; exact hz), fun q h1 h2 => by rw [e1, hk q (Nat.lt_of_lt_of_le h1 hS.1) (fun z => h2 (hA q (Nat.lt_of_lt_of_le h1 hS.1) z))]; exact hS.2.1 q h1 h2, fun q hq => by
      rcases List.mem_append.mp hq with h | h
      · exact hS.2.2 q h
      · exact hf _ (hL q h)⟩ T' rfl X'
  exact ⟨t2, stp t2 a1, b1⟩
theorem wd_free {D : va_G} {C : ClassId × ClassId} {ad : Nat → Nat} {A : Nat → Prop} {H0 H : Heap} {locs : List Loc} (hA : ∀ q, H0.size ≤ q → A q) (h : Wo D C ad ly A H0 σ H locs) : ∀ q, va_A (wd C ad ly σ) H.size q → A q := by
  intro q hq
  rcases hq with ⟨k, e, hk⟩ | hq
  · exact h.2.1.2 k _ hk
  · exact hA q (Nat.le_trans h.2.2.1 hq)
theorem r_callG {y : MethodName} {cc' : ByteArray} {nL' fr' lo' : Nat} {ret : Option FieldType} {av : List Value} {E' : Option Int32 → St → Prop} {st0 : List Value}
    (hrun : ∀ ⦃p : Program⦄ ⦃l : Launch⦄ ⦃e : Env⦄ ⦃R : Room⦄ ⦃s : State⦄ ⦃m : MethodId⦄ ⦃args : Array Value⦄ ⦃below : List Frame⦄ ⦃meth : Method⦄ ⦃c : Code⦄ ⦃D : va_G⦄ ⦃C : ClassId × ClassId⦄ ⦃ad : Nat → Nat⦄ ⦃A : Nat → Prop⦄ ⦃H : Heap⦄ ⦃locs : List Loc⦄ ⦃cells slots : Nat⦄ ⦃ls : Array Slot⦄, Cx p R s m args c cells slots D C own cc nL fr lo → Wo D C ad ly A s.heap σ H locs → lh ad ls nL L →
      va_Run p l e R s m args below meth c H locs cells slots 0 0 (F0 m pc ls (st0.map (rv ad))) (st.map (rv ad)) (fun st oc t => (∃ (r : Option Int32) (τ : St), oc = .returned (r.map Value.int) ∧ E' r τ ∧ va_P D vwCl (wd C ad ly τ) t.heap) ∧ va_F (va_A (wd C ad ly σ) H.size) st t) (va_A (wd C ad ly σ) H.size))
    (hq : pc + 3 = q) (K : ∀ r τ, E' r τ → Rn ly sc own cc nL fr lo q L ((r.map Value.int).toList ++ st) τ E) : Rn ly sc own cc nL fr lo pc L st0 σ E := by
  subst hq
  intro p l e R s m args below meth c D C ad A H locs cells slots Q ls hC hX hW hL hE
  have hFr := wd_free hX.1 hW
  have h1 := hrun (l := l) (e := e) (below := below) (meth := meth) hC hW hL
  refine va_callg (A1 := va_A (wd C ad ly σ) H.size) (free := va_A (wd C ad ly σ) H.size) (B := fun v h => ∃ (r : Option Int32) (τ : St), v = r.map Value.int ∧ E' r τ ∧ va_P D vwCl (wd C ad ly τ) h) (rest := st.map (rv ad)) ?_ hW.2.2 (fun q _ h => hFr q h) hFr ?_
  · intro T hT X
    obtain ⟨v, st₀, t, T', L', h0, X', hL', e1, e2, ⟨⟨r, τ, q1, q2, q3⟩, q4⟩, stp⟩ := h1 T hT X
    exact ⟨v, st₀, t, T', L', h0, X', hL', e1, e2, ⟨⟨v, rfl, r, τ, by cases q1; rfl, q2, q3⟩, q4⟩, stp⟩
  · rintro v H1 locs1 ⟨r, τ, rfl, h2, h3⟩ hS
    have h4 := K r τ h2 (l := l) (e := e) (below := below) (meth := meth) (Q := Q) hC hX ⟨h3, wd_D hW.2.1, hS⟩ hL hE
    have e5 : (((r.map Value.int).toList ++ st).map (rv ad)) = (r.map Value.int).toList ++ st.map (rv ad) := by
      rw [List.map_append]
      cases r <;> rfl
    rw [e5] at h4
    exact h4
theorem r_callVg {y : MethodName} {cc' : ByteArray} {nL' fr' lo' n idx k ci : Nat} {ret : Option FieldType} {As : List Value} {E' : Option Int32 → St → Prop} {fs : List (Nat × Nat)} {T : u_T} {N : Nat} (hM : Cl ly y cc' nL' ret fr' lo' (.ref k :: As) σ E') (cw : CwV own idx y cc' nL' ret n) (hd : decode cc pc = .ok (.invokevirtual idx, 3)) (hq : pc + 3 = q) (hly : ly[k]? = some (.inr (ci, fs))) (hcl : vwCl[ci]? = some (y.cls, T, N)) (hn : As.length = n) (hst : st.length ≤ 8) (hf : fr' + 1 ≤ fr) (hl : 8 + (nL' + 11) + lo' ≤ lo)
    (K : ∀ r τ, E' r τ → Rn ly sc own cc nL fr lo q L ((r.map Value.int).toList ++ st) τ E) : Rn ly sc own cc nL fr lo pc L (As.reverse ++ .ref k :: st) σ E := by
  refine r_callG (y := y) (cc' := cc') (nL' := nL') (fr' := fr') (lo' := lo') (ret := ret) (av := .ref k :: As) (E' := E') ?_ hq K
  intro p l e R s m args below meth c D C ad A H locs cells slots ls hC hW hL
  refine va_runV (C := y.cls) (b := ad k) (As := As.map (rv ad)) (n := n) hC.1 (hM l D C ad H.size) ⟨cw.1.use hC.1.2.2.2.2 (Nat.le_trans hf hC.2.1) (Nat.le_trans hl hC.2.2.1), hC.1.2.2.2.2 _ cw.2.1, hC.1.2.2.2.2 _ cw.2.2⟩ ⟨cl_blind, va_recv hC.2.2.2.2.2.1 hW.1 hcl (wd_ob hly), fun U hU hWm => ⟨rfl, by rw [hU], by rw [hU]; exact hW.1, hC.2.2.2.2.2.warm hWm, hW.2.1.weaken (fun _ _ _ _ => trivial)⟩⟩ rfl (by rw [List.length_map]; exact hn) hL.1 (by simp [List.map_append, List.map_reverse, rv]) (lv_room (by rw [cat_sum]; exact hst)) hd ⟨hC.2.2.2.1, hC.2.2.2.2.1⟩
theorem r_callSg {y : MethodName} {cc' : ByteArray} {nL' fr' lo' n idx : Nat} {ret : Option FieldType} {As : List Value} {E' : Option Int32 → St → Prop} (hM : Cl ly y cc' nL' ret fr' lo' As σ E') (cw : CwS own idx y cc' nL' ret n) (hd : decode cc pc = .ok (.invokestatic idx, 3)) (hq : pc + 3 = q) (hn : As.length = n) (hst : st.length ≤ 8) (hf : fr' + 1 ≤ fr) (hl : 8 + (nL' + 11) + lo' ≤ lo)
    (K : ∀ r τ, E' r τ → Rn ly sc own cc nL fr lo q L ((r.map Value.int).toList ++ st) τ E) : Rn ly sc own cc nL fr lo pc L (As.reverse ++ st) σ E := by
  refine r_callG (y := y) (cc' := cc') (nL' := nL') (fr' := fr') (lo' := lo') (ret := ret) (av := As) (E' := E') ?_ hq K
  intro p l e R s m args below meth c D C ad A H locs cells slots ls hC hW hL
  refine va_runS (As := As.map (rv ad)) (n := n) hC.1 (hM l D C ad H.size) ⟨cw.1.use hC.1.2.2.2.2 (Nat.le_trans hf hC.2.1) (Nat.le_trans hl hC.2.2.1), hC.1.2.2.2.2 _ cw.2⟩ ⟨cl_blind, fun U hU hWm => ⟨rfl, by rw [hU], by rw [hU]; exact hW.1, hC.2.2.2.2.2.warm hWm, hW.2.1.weaken (fun _ _ _ _ => trivial)⟩⟩ rfl (by rw [List.length_map]; exact hn) hL.1 (by simp [List.map_append, List.map_reverse]) (lv_room (by rw [cat_sum]; exact hst)) hd ⟨hC.2.2.2.1, hC.2.2.2.2.1⟩
def CwN (own : String) (idx : Nat) (y : MethodName) (cc' : ByteArray) (nL' : Nat) (ret : Option FieldType) (n : Nat) : Prop :=
  Cond.code y cc' nL' ret ∈ lw_big ∧ Cond.initialized y.cls ∈ lw_big ∧ Cond.methodLinkNest own idx y "SunCourt" ∈ nestW ∧ (y.cls ≠ "java/lang/invoke/MethodHandle" ∧ y.cls ≠ "java/lang/invoke/VarHandle" ∧ (parseMethodDescriptor y.desc).map (fun d => d.parameters.length) = some n)
theorem r_callSN {y : MethodName} {cc' : ByteArray} {nL' fr' lo' n idx : Nat} {ret : Option FieldType} {As : List Value} {E' : Option Int32 → St → Prop} (hM : Cl ly y cc' nL' ret fr' lo' As σ E') (cw : CwN own idx y cc' nL' ret n) (hstat : Cond.static y ∈ lw_big) (hd : decode cc pc = .ok (.invokestatic idx, 3)) (hq : pc + 3 = q) (hn : As.length = n) (hst : st.length ≤ 8) (hf : fr' + 1 ≤ fr) (hl : 8 + (nL' + 11) + lo' ≤ lo)
    (K : ∀ r τ, E' r τ → Rn ly sc own cc nL fr lo q L ((r.map Value.int).toList ++ st) τ E) : Rn ly sc own cc nL fr lo pc L (As.reverse ++ st) σ E := by
  refine r_callG (y := y) (cc' := cc') (nL' := nL') (fr' := fr') (lo' := lo') (ret := ret) (av := As) (E' := E') ?_ hq K
  intro p l e R s m args below meth c D C ad A H locs cells slots ls hC hW hL
  refine va_runSN (host := "SunCourt") (As := As.map (rv ad)) (n := n) hC.1 (hM l D C ad H.size) ⟨va_cnB n hC.1.2.2.2.2 (goodIn_law cw.1) rfl rfl rfl (hC.2.2.2.2.2.2 _ cw.2.2.1) (hC.1.2.2.2.2 _ cw.2.1) cw.2.2.2 ⟨Nat.le_trans hf hC.2.1, Nat.le_trans hl hC.2.2.1⟩, hC.1.2.2.2.2 _ hstat, trivial⟩ ⟨cl_blind, fun U hU hWm => ⟨rfl, by rw [hU], by rw [hU]; exact hW.1, hC.2.2.2.2.2.warm hWm, hW.2.1.weaken (fun _ _ _ _ => trivial)⟩⟩ rfl (by rw [List.length_map]; exact hn) hL.1 (by simp [List.map_append, List.map_reverse]) (lv_room (by rw [cat_sum]; exact hst)) hd ⟨hC.2.2.2.1, hC.2.2.2.2.1⟩
theorem r_callV0 {y : MethodName} {cc' : ByteArray} {nL' fr' lo' idx k ci : Nat} {ret : Option FieldType} {E' : Option Int32 → St → Prop} {fs : List (Nat × Nat)} {T : u_T} {N : Nat} (hM : Cl ly y cc' nL' ret fr' lo' (.ref k :: []) σ E') (cw : CwV own idx y cc' nL' ret 0) (hd : decode cc pc = .ok (.invokevirtual idx, 3)) (hq : pc + 3 = q) (hly : ly[k]? = some (.inr (ci, fs))) (hcl : vwCl[ci]? = some (y.cls, T, N)) (hst : st.length ≤ 8) (hf : fr' + 1 ≤ fr) (hl : 8 + (nL' + 11) + lo' ≤ lo) (K : ∀ r τ, E' r τ → Rn ly sc own cc nL fr lo q L ((r.map Value.int).toList ++ st) τ E) : Rn ly sc own cc nL fr lo pc L (.ref k :: st) σ E := r_callVg hM cw hd hq hly hcl rfl hst hf hl K
theorem r_callV1 {y : MethodName} {cc' : ByteArray} {nL' fr' lo' idx k ci : Nat} {ret : Option FieldType} {v1 : Value} {E' : Option Int32 → St → Prop} {fs : List (Nat × Nat)} {T : u_T} {N : Nat} (hM : Cl ly y cc' nL' ret fr' lo' (.ref k :: [v1]) σ E') (cw : CwV own idx y cc' nL' ret 1) (hd : decode cc pc = .ok (.invokevirtual idx, 3)) (hq : pc + 3 = q) (hly : ly[k]? = some (.inr (ci, fs))) (hcl : vwCl[ci]? = some (y.cls, T, N)) (hst : st.length ≤ 8) (hf : fr' + 1 ≤ fr) (hl : 8 + (nL' + 11) + lo' ≤ lo) (K : ∀ r τ, E' r τ → Rn ly sc own cc nL fr lo q L ((r.map Value.int).toList ++ st) τ E) : Rn ly sc own cc nL fr lo pc L (v1 :: .ref k :: st) σ E := r_callVg hM cw hd hq hly hcl rfl hst hf hl K
theorem r_callS1 {y : MethodName} {cc' : ByteArray} {nL' fr' lo' idx : Nat} {ret : Option FieldType} {v1 : Value} {E' : Option Int32 → St → Prop} (hM : Cl ly y cc' nL' ret fr' lo' [v1] σ E') (cw : CwS own idx y cc' nL' ret 1) (hd : decode cc pc = .ok (.invokestatic idx, 3)) (hq : pc + 3 = q) (hst : st.length ≤ 8) (hf : fr' + 1 ≤ fr) (hl : 8 + (nL' + 11) + lo' ≤ lo) (K : ∀ r τ, E' r τ → Rn ly sc own cc nL fr lo q L ((r.map Value.int).toList ++ st) τ E) : Rn ly sc own cc nL fr lo pc L (v1 :: st) σ E := r_callSg hM cw hd hq rfl hst hf hl K
theorem r_callV2 {y : MethodName} {cc' : ByteArray} {nL' fr' lo' idx k ci : Nat} {ret : Option FieldType} {v1 v2 : Value} {E' : Option Int32 → St → Prop} {fs : List (Nat × Nat)} {T : u_T} {N : Nat} (hM : Cl ly y cc' nL' ret fr' lo' (.ref k :: [v1, v2]) σ E') (cw : CwV own idx y cc' nL' ret 2) (hd : decode cc pc = .ok (.invokevirtual idx, 3)) (hq : pc + 3 = q) (hly : ly[k]? = some (.inr (ci, fs))) (hcl : vwCl[ci]? = some (y.cls, T, N)) (hst : st.length ≤ 8) (hf : fr' + 1 ≤ fr) (hl : 8 + (nL' + 11) + lo' ≤ lo) (K : ∀ r τ, E' r τ → Rn ly sc own cc nL fr lo q L ((r.map Value.int).toList ++ st) τ E) : Rn ly sc own cc nL fr lo pc L (v2 :: v1 :: .ref k :: st) σ E := r_callVg hM cw hd hq hly hcl rfl hst hf hl K
theorem r_callS2 {y : MethodName} {cc' : ByteArray} {nL' fr' lo' idx : Nat} {ret : Option FieldType} {v1 v2 : Value} {E' : Option Int32 → St → Prop} (hM : Cl ly y cc' nL' ret fr' lo' [v1, v2] σ E') (cw : CwS own idx y cc' nL' ret 2) (hd : decode cc pc = .ok (.invokestatic idx, 3)) (hq : pc + 3 = q) (hst : st.length ≤ 8) (hf : fr' + 1 ≤ fr) (hl : 8 + (nL' + 11) + lo' ≤ lo) (K : ∀ r τ, E' r τ → Rn ly sc own cc nL fr lo q L ((r.map Value.int).toList ++ st) τ E) : Rn ly sc own cc nL fr lo pc L (v2 :: v1 :: st) σ E := r_callSg hM cw hd hq rfl hst hf hl K
theorem r_callV3 {y : MethodName} {cc' : ByteArray} {nL' fr' lo' idx k ci : Nat} {ret : Option FieldType} {v1 v2 v3 : Value} {E' : Option Int32 → St → Prop} {fs : List (Nat × Nat)} {T : u_T} {N : Nat} (hM : Cl ly y cc' nL' ret fr' lo' (.ref k :: [v1, v2, v3]) σ E') (cw : CwV own idx y cc' nL' ret 3) (hd : decode cc pc = .ok (.invokevirtual idx, 3)) (hq : pc + 3 = q) (hly : ly[k]? = some (.inr (ci, fs))) (hcl : vwCl[ci]? = some (y.cls, T, N)) (hst : st.length ≤ 8) (hf : fr' + 1 ≤ fr) (hl : 8 + (nL' + 11) + lo' ≤ lo) (K : ∀ r τ, E' r τ → Rn ly sc own cc nL fr lo q L ((r.map Value.int).toList ++ st) τ E) : Rn ly sc own cc nL fr lo pc L (v3 :: v2 :: v1 :: .ref k :: st) σ E := r_callVg hM cw hd hq hly hcl rfl hst hf hl K
theorem r_callS3 {y : MethodName} {cc' : ByteArray} {nL' fr' lo' idx : Nat} {ret : Option FieldType} {v1 v2 v3 : Value} {E' : Option Int32 → St → Prop} (hM : Cl ly y cc' nL' ret fr' lo' [v1, v2, v3] σ E') (cw : CwS own idx y cc' nL' ret 3) (hd : decode cc pc = .ok (.invokestatic idx, 3)) (hq : pc + 3 = q) (hst : st.length ≤ 8) (hf : fr' + 1 ≤ fr) (hl : 8 + (nL' + 11) + lo' ≤ lo) (K : ∀ r τ, E' r τ → Rn ly sc own cc nL fr lo q L ((r.map Value.int).toList ++ st) τ E) : Rn ly sc own cc nL fr lo pc L (v3 :: v2 :: v1 :: st) σ E := r_callSg hM cw hd hq rfl hst hf hl K
theorem r_callV4 {y : MethodName} {cc' : ByteArray} {nL' fr' lo' idx k ci : Nat} {ret : Option FieldType} {v1 v2 v3 v4 : Value} {E' : Option Int32 → St → Prop} {fs : List (Nat × Nat)} {T : u_T} {N : Nat} (hM : Cl ly y cc' nL' ret fr' lo' (.ref k :: [v1, v2, v3, v4]) σ E') (cw : CwV own idx y cc' nL' ret 4) (hd : decode cc pc = .ok (.invokevirtual idx, 3)) (hq : pc + 3 = q) (hly : ly[k]? = some (.inr (ci, fs))) (hcl : vwCl[ci]? = some (y.cls, T, N)) (hst : st.length ≤ 8) (hf : fr' + 1 ≤ fr) (hl : 8 + (nL' + 11) + lo' ≤ lo) (K : ∀ r τ, E' r τ → Rn ly sc own cc nL fr lo q L ((r.map Value.int).toList ++ st) τ E) : Rn ly sc own cc nL fr lo pc L (v4 :: v3 :: v2 :: v1 :: .ref k :: st) σ E := r_callVg hM cw hd hq hly hcl rfl hst hf hl K
theorem r_callV5 {y : MethodName} {cc' : ByteArray} {nL' fr' lo' idx k ci : Nat} {ret : Option FieldType} {v1 v2 v3 v4 v5 : Value} {E' : Option Int32 → St → Prop} {fs : List (Nat × Nat)} {T : u_T} {N : Nat} (hM : Cl ly y cc' nL' ret fr' lo' (.ref k :: [v1, v2, v3, v4, v5]) σ E') (cw : CwV own idx y cc' nL' ret 5) (hd : decode cc pc = .ok (.invokevirtual idx, 3)) (hq : pc + 3 = q) (hly : ly[k]? = some (.inr (ci, fs))) (hcl : vwCl[ci]? = some (y.cls, T, N)) (hst : st.length ≤ 8) (hf : fr' + 1 ≤ fr) (hl : 8 + (nL' + 11) + lo' ≤ lo) (K : ∀ r τ, E' r τ → Rn ly sc own cc nL fr lo q L ((r.map Value.int).toList ++ st) τ E) : Rn ly sc own cc nL fr lo pc L (v5 :: v4 :: v3 :: v2 :: v1 :: .ref k :: st) σ E := r_callVg hM cw hd hq hly hcl rfl hst hf hl K
theorem r_callV6 {y : MethodName} {cc' : ByteArray} {nL' fr' lo' idx k ci : Nat} {ret : Option FieldType} {v1 v2 v3 v4 v5 v6 : Value} {E' : Option Int32 → St → Prop} {fs : List (Nat × Nat)} {T : u_T} {N : Nat} (hM : Cl ly y cc' nL' ret fr' lo' (.ref k :: [v1, v2, v3, v4, v5, v6]) σ E') (cw : CwV own idx y cc' nL' ret 6) (hd : decode cc pc = .ok (.invokevirtual idx, 3)) (hq : pc + 3 = q) (hly : ly[k]? = some (.inr (ci, fs))) (hcl : vwCl[ci]? = some (y.cls, T, N)) (hst : st.length ≤ 8) (hf : fr' + 1 ≤ fr) (hl : 8 + (nL' + 11) + lo' ≤ lo) (K : ∀ r τ, E' r τ → Rn ly sc own cc nL fr lo q L ((r.map Value.int).toList ++ st) τ E) : Rn ly sc own cc nL fr lo pc L (v6 :: v5 :: v4 :: v3 :: v2 :: v1 :: .ref k :: st) σ E := r_callVg hM cw hd hq hly hcl rfl hst hf hl K
theorem r_callV7 {y : MethodName} {cc' : ByteArray} {nL' fr' lo' idx k ci : Nat} {ret : Option FieldType} {v1 v2 v3 v4 v5 v6 v7 : Value} {E' : Option Int32 → St → Prop} {fs : List (Nat × Nat)} {T : u_T} {N : Nat} (hM : Cl ly y cc' nL' ret fr' lo' (.ref k :: [v1, v2, v3, v4, v5, v6, v7]) σ E') (cw : CwV own idx y cc' nL' ret 7) (hd : decode cc pc = .ok (.invokevirtual idx, 3)) (hq : pc + 3 = q) (hly : ly[k]? = some (.inr (ci, fs))) (hcl : vwCl[ci]? = some (y.cls, T, N)) (hst : st.length ≤ 8) (hf : fr' + 1 ≤ fr) (hl : 8 + (nL' + 11) + lo' ≤ lo) (K : ∀ r τ, E' r τ → Rn ly sc own cc nL fr lo q L ((r.map Value.int).toList ++ st) τ E) : Rn ly sc own cc nL fr lo pc L (v7 :: v6 :: v5 :: v4 :: v3 :: v2 :: v1 :: .ref k :: st) σ E := r_callVg hM cw hd hq hly hcl rfl hst hf hl K
end CALLS
end
section
theorem fX0_9 : FD RX0 9 0 0 (.array .int) true := ⟨RX0, TX0, 5, tyX0, rfl, inlX0, tyX0_ok, nmX0, by decide, big_1 (i := 124) rfl rfl, rfl, by decide +kernel⟩
theorem fX0_15 : FD RX0 15 0 1 (.array .int) true := ⟨RX0, TX0, 5, tyX0, rfl, inlX0, tyX0_ok, nmX0, by decide, big_1 (i := 127) rfl rfl, rfl, by decide +kernel⟩
theorem fX0_18 : FD RX0 18 0 2 (.array .int) true := ⟨RX0, TX0, 5, tyX0, rfl, inlX0, tyX0_ok, nmX0, by decide, big_1 (i := 128) rfl rfl, rfl, by decide +kernel⟩
theorem fX0_21 : FD RX0 21 0 3 (.int) false := ⟨RX0, TX0, 5, tyX0, rfl, inlX0, tyX0_ok, nmX0, by decide, big_1 (i := 129) rfl rfl, rfl, by decide +kernel⟩
theorem fX0_25 : FD RX0 25 0 4 (.int) false := ⟨RX0, TX0, 5, tyX0, rfl, inlX0, tyX0_ok, nmX0, by decide, big_1 (i := 131) rfl rfl, rfl, by decide +kernel⟩
theorem fX0_28 : FD RX0 28 1 2 (.array .int) true := ⟨RX1, TX1, 8, tyX1, rfl, inlX1, tyX1_ok, nmX1, by decide, big_1 (i := 46) rfl rfl, rfl, by decide +kernel⟩
theorem fX0_33 : FD RX0 33 1 3 (.array .int) true := ⟨RX1, TX1, 8, tyX1, rfl, inlX1, tyX1_ok, nmX1, by decide, big_1 (i := 48) rfl rfl, rfl, by decide +kernel⟩
theorem fX1_9 : FD RX1 9 1 0 (.int) false := ⟨RX1, TX1, 8, tyX1, rfl, inlX1, tyX1_ok, nmX1, by decide, big_1 (i := 40) rfl rfl, rfl, by decide +kernel⟩
theorem fX1_15 : FD RX1 15 1 1 (.array .int) true := ⟨RX1, TX1, 8, tyX1, rfl, inlX1, tyX1_ok, nmX1, by decide, big_1 (i := 43) rfl rfl, rfl, by decide +kernel⟩
theorem fX1_19 : FD RX1 19 1 2 (.array .int) true := ⟨RX1, TX1, 8, tyX1, rfl, inlX1, tyX1_ok, nmX1, by decide, big_1 (i := 45) rfl rfl, rfl, by decide +kernel⟩
theorem fX1_22 : FD RX1 22 1 3 (.array .int) true := ⟨RX1, TX1, 8, tyX1, rfl, inlX1, tyX1_ok, nmX1, by decide, big_1 (i := 47) rfl rfl, rfl, by decide +kernel⟩
theorem fX1_25 : FD RX1 25 1 4 (.array .int) true := ⟨RX1, TX1, 8, tyX1, rfl, inlX1, tyX1_ok, nmX1, by decide, big_1 (i := 49) rfl rfl, rfl, by decide +kernel⟩
theorem fX1_28 : FD RX1 28 1 5 (.array .int) true := ⟨RX1, TX1, 8, tyX1, rfl, inlX1, tyX1_ok, nmX1, by decide, big_1 (i := 51) rfl rfl, rfl, by decide +kernel⟩
theorem fX1_31 : FD RX1 31 1 6 (.array .boolean) true := ⟨RX1, TX1, 8, tyX1, rfl, inlX1, tyX1_ok, nmX1, by decide, big_1 (i := 54) rfl rfl, rfl, by decide +kernel⟩
theorem fX1_35 : FD RX1 35 1 7 (.array .boolean) true := ⟨RX1, TX1, 8, tyX1, rfl, inlX1, tyX1_ok, nmX1, by decide, big_1 (i := 57) rfl rfl, rfl, by decide +kernel⟩
theorem fX2_9 : FD RX2 9 2 0 (.int) false := ⟨RX2, TX2, 4, tyX2, rfl, inlX2, tyX2_ok, nmX2, by decide, big_1 (i := 150) rfl rfl, rfl, by decide +kernel⟩
theorem fX2_15 : FD RX2 15 2 1 (.array .int) true := ⟨RX2, TX2, 4, tyX2, rfl, inlX2, tyX2_ok, nmX2, by decide, big_1 (i := 152) rfl rfl, rfl, by decide +kernel⟩
theorem fX2_19 : FD RX2 19 2 2 (.array .int) true := ⟨RX2, TX2, 4, tyX2, rfl, inlX2, tyX2_ok, nmX2, by decide, big_1 (i := 153) rfl rfl, rfl, by decide +kernel⟩
theorem fX2_22 : FD RX2 22 2 3 (.array .int) true := ⟨RX2, TX2, 4, tyX2, rfl, inlX2, tyX2_ok, nmX2, by decide, big_1 (i := 154) rfl rfl, rfl, by decide +kernel⟩
theorem fX2_25 : FD RX2 25 1 0 (.int) false := ⟨RX1, TX1, 8, tyX1, rfl, inlX1, tyX1_ok, nmX1, by decide, big_1 (i := 41) rfl rfl, rfl, by decide +kernel⟩
theorem fX2_28 : FD RX2 28 1 5 (.array .int) true := ⟨RX1, TX1, 8, tyX1, rfl, inlX1, tyX1_ok, nmX1, by decide, big_1 (i := 52) rfl rfl, rfl, by decide +kernel⟩
theorem fX2_35 : FD RX2 35 1 6 (.array .boolean) true := ⟨RX1, TX1, 8, tyX1, rfl, inlX1, tyX1_ok, nmX1, by decide, big_1 (i := 55) rfl rfl, rfl, by decide +kernel⟩
theorem fX2_45 : FD RX2 45 0 3 (.int) false := ⟨RX0, TX0, 5, tyX0, rfl, inlX0, tyX0_ok, nmX0, by decide, big_1 (i := 130) rfl rfl, rfl, by decide +kernel⟩
theorem fX2_48 : FD RX2 48 0 4 (.int) false := ⟨RX0, TX0, 5, tyX0, rfl, inlX0, tyX0_ok, nmX0, by decide, big_1 (i := 132) rfl rfl, rfl, by decide +kernel⟩
theorem fX3_9 : FD RX3 9 3 0 (.array .int) true := ⟨RX3, TX3, 2, tyX3, rfl, inlX3, tyX3_ok, nmX3, by decide, big_1 (i := 25) rfl rfl, rfl, by decide +kernel⟩
theorem fX3_15 : FD RX3 15 3 1 (.array .int) true := ⟨RX3, TX3, 2, tyX3, rfl, inlX3, tyX3_ok, nmX3, by decide, big_1 (i := 27) rfl rfl, rfl, by decide +kernel⟩
theorem fX3_22 : FD RX3 22 0 0 (.array .int) true := ⟨RX0, TX0, 5, tyX0, rfl, inlX0, tyX0_ok, nmX0, by decide, big_1 (i := 125) rfl rfl, rfl, by decide +kernel⟩
theorem fX4_9 : FD RX4 9 4 0 (.int) false := ⟨RX4, TX4, 10, tyX4, rfl, inlX4, tyX4_ok, nmX4, by decide, big_1 (i := 83) rfl rfl, rfl, by decide +kernel⟩
theorem fX4_15 : FD RX4 15 4 1 (.array .int) true := ⟨RX4, TX4, 10, tyX4, rfl, inlX4, tyX4_ok, nmX4, by decide, big_1 (i := 85) rfl rfl, rfl, by decide +kernel⟩
theorem fX4_19 : FD RX4 19 4 2 (.array .int) true := ⟨RX4, TX4, 10, tyX4, rfl, inlX4, tyX4_ok, nmX4, by decide, big_1 (i := 87) rfl rfl, rfl, by decide +kernel⟩
theorem fX4_22 : FD RX4 22 4 3 (.array .int) true := ⟨RX4, TX4, 10, tyX4, rfl, inlX4, tyX4_ok, nmX4, by decide, big_1 (i := 88) rfl rfl, rfl, by decide +kernel⟩
theorem fX4_25 : FD RX4 25 4 4 (.array .int) true := ⟨RX4, TX4, 10, tyX4, rfl, inlX4, tyX4_ok, nmX4, by decide, big_1 (i := 89) rfl rfl, rfl, by decide +kernel⟩
theorem fX4_28 : FD RX4 28 4 5 (.array .int) true := ⟨RX4, TX4, 10, tyX4, rfl, inlX4, tyX4_ok, nmX4, by decide, big_1 (i := 90) rfl rfl, rfl, by decide +kernel⟩
theorem fX4_31 : FD RX4 31 4 6 (.array .int) true := ⟨RX4, TX4, 10, tyX4, rfl, inlX4, tyX4_ok, nmX4, by decide, big_1 (i := 91) rfl rfl, rfl, by decide +kernel⟩
theorem fX4_34 : FD RX4 34 4 7 (.array .int) true := ⟨RX4, TX4, 10, tyX4, rfl, inlX4, tyX4_ok, nmX4, by decide, big_1 (i := 92) rfl rfl, rfl, by decide +kernel⟩
theorem fX4_37 : FD RX4 37 4 8 (.array .int) true := ⟨RX4, TX4, 10, tyX4, rfl, inlX4, tyX4_ok, nmX4, by decide, big_1 (i := 93) rfl rfl, rfl, by decide +kernel⟩
theorem fX4_40 : FD RX4 40 4 9 (.array .boolean) true := ⟨RX4, TX4, 10, tyX4, rfl, inlX4, tyX4_ok, nmX4, by decide, big_1 (i := 95) rfl rfl, rfl, by decide +kernel⟩
theorem fX4_55 : FD RX4 55 0 0 (.array .int) true := ⟨RX0, TX0, 5, tyX0, rfl, inlX0, tyX0_ok, nmX0, by decide, big_1 (i := 126) rfl rfl, rfl, by decide +kernel⟩
theorem fX5_10 : FD RX5 10 5 0 (.object "SunCourt$Sky") true := ⟨RX5, TX5, 10, tyX5, rfl, inlX5, tyX5_ok, nmX5, by decide, big_1 (i := 167) rfl rfl, rfl, by decide +kernel⟩
theorem fX5_19 : FD RX5 19 5 1 (.object "SunCourt$Blocks") true := ⟨RX5, TX5, 10, tyX5, rfl, inlX5, tyX5_ok, nmX5, by decide, big_1 (i := 168) rfl rfl, rfl, by decide +kernel⟩
theorem fX5_26 : FD RX5 26 5 2 (.object "SunCourt$Windows") true := ⟨RX5, TX5, 10, tyX5, rfl, inlX5, tyX5_ok, nmX5, by decide, big_1 (i := 169) rfl rfl, rfl, by decide +kernel⟩
theorem fX5_33 : FD RX5 33 5 3 (.object "SunCourt$Beam") true := ⟨RX5, TX5, 10, tyX5, rfl, inlX5, tyX5_ok, nmX5, by decide, big_1 (i := 170) rfl rfl, rfl, by decide +kernel⟩
theorem fX5_40 : FD RX5 40 5 4 (.object "SunCourt$Shade") true := ⟨RX5, TX5, 10, tyX5, rfl, inlX5, tyX5_ok, nmX5, by decide, big_1 (i := 171) rfl rfl, rfl, by decide +kernel⟩
theorem fX5_44 : FD RX5 44 5 5 (.array .int) true := ⟨RX5, TX5, 10, tyX5, rfl, inlX5, tyX5_ok, nmX5, by decide, big_1 (i := 172) rfl rfl, rfl, by decide +kernel⟩
theorem fX5_48 : FD RX5 48 5 6 (.array .int) true := ⟨RX5, TX5, 10, tyX5, rfl, inlX5, tyX5_ok, nmX5, by decide, big_1 (i := 173) rfl rfl, rfl, by decide +kernel⟩
theorem fX5_51 : FD RX5 51 5 7 (.array .int) true := ⟨RX5, TX5, 10, tyX5, rfl, inlX5, tyX5_ok, nmX5, by decide, big_1 (i := 174) rfl rfl, rfl, by decide +kernel⟩
theorem fX5_54 : FD RX5 54 5 8 (.int) false := ⟨RX5, TX5, 10, tyX5, rfl, inlX5, tyX5_ok, nmX5, by decide, big_1 (i := 175) rfl rfl, rfl, by decide +kernel⟩
theorem fX5_58 : FD RX5 58 5 9 (.int) false := ⟨RX5, TX5, 10, tyX5, rfl, inlX5, tyX5_ok, nmX5, by decide, big_1 (i := 176) rfl rfl, rfl, by decide +kernel⟩
theorem fX5_94 : FD RX5 94 1 5 (.array .int) true := ⟨RX1, TX1, 8, tyX1, rfl, inlX1, tyX1_ok, nmX1, by decide, big_1 (i := 53) rfl rfl, rfl, by decide +kernel⟩
theorem fX5_100 : FD RX5 100 1 4 (.array .int) true := ⟨RX1, TX1, 8, tyX1, rfl, inlX1, tyX1_ok, nmX1, by decide, big_1 (i := 50) rfl rfl, rfl, by decide +kernel⟩
theorem fX5_103 : FD RX5 103 1 7 (.array .boolean) true := ⟨RX1, TX1, 8, tyX1, rfl, inlX1, tyX1_ok, nmX1, by decide, big_1 (i := 58) rfl rfl, rfl, by decide +kernel⟩
theorem fX5_117 : FD RX5 117 1 6 (.array .boolean) true := ⟨RX1, TX1, 8, tyX1, rfl, inlX1, tyX1_ok, nmX1, by decide, big_1 (i := 56) rfl rfl, rfl, by decide +kernel⟩
theorem fX5_160 : FD RX5 160 3 0 (.array .int) true := ⟨RX3, TX3, 2, tyX3, rfl, inlX3, tyX3_ok, nmX3, by decide, big_1 (i := 26) rfl rfl, rfl, by decide +kernel⟩
theorem fX5_184 : FD RX5 184 4 9 (.array .boolean) true := ⟨RX4, TX4, 10, tyX4, rfl, inlX4, tyX4_ok, nmX4, by decide, big_1 (i := 96) rfl rfl, rfl, by decide +kernel⟩
theorem fX5_187 : FD RX5 187 1 1 (.array .int) true := ⟨RX1, TX1, 8, tyX1, rfl, inlX1, tyX1_ok, nmX1, by decide, big_1 (i := 44) rfl rfl, rfl, by decide +kernel⟩
theorem fX5_190 : FD RX5 190 4 1 (.array .int) true := ⟨RX4, TX4, 10, tyX4, rfl, inlX4, tyX4_ok, nmX4, by decide, big_1 (i := 86) rfl rfl, rfl, by decide +kernel⟩
theorem fX5_196 : FD RX5 196 4 8 (.array .int) true := ⟨RX4, TX4, 10, tyX4, rfl, inlX4, tyX4_ok, nmX4, by decide, big_1 (i := 94) rfl rfl, rfl, by decide +kernel⟩
theorem fX5_205 : FD RX5 205 1 0 (.int) false := ⟨RX1, TX1, 8, tyX1, rfl, inlX1, tyX1_ok, nmX1, by decide, big_1 (i := 42) rfl rfl, rfl, by decide +kernel⟩
theorem fX5_208 : FD RX5 208 4 0 (.int) false := ⟨RX4, TX4, 10, tyX4, rfl, inlX4, tyX4_ok, nmX4, by decide, big_1 (i := 84) rfl rfl, rfl, by decide +kernel⟩
theorem fX5_231 : FD RX5 231 2 0 (.int) false := ⟨RX2, TX2, 4, tyX2, rfl, inlX2, tyX2_ok, nmX2, by decide, big_1 (i := 151) rfl rfl, rfl, by decide +kernel⟩
theorem fX6_7 : FD RX6 7 6 0 (.array .int) true := ⟨RX6, TX6, 43, tyX6, rfl, inlX6, tyX6_ok, nmX6, by decide, big_3 (i := 12) rfl rfl, rfl, by decide +kernel⟩
theorem fX6_13 : FD RX6 13 6 1 (.array .int) true := ⟨RX6, TX6, 43, tyX6, rfl, inlX6, tyX6_ok, nmX6, by decide, big_3 (i := 13) rfl rfl, rfl, by decide +kernel⟩
theorem fX6_16 : FD RX6 16 6 2 (.array .int) true := ⟨RX6, TX6, 43, tyX6, rfl, inlX6, tyX6_ok, nmX6, by decide, big_3 (i := 14) rfl rfl, rfl, by decide +kernel⟩
theorem fX6_19 : FD RX6 19 6 3 (.array .int) true := ⟨RX6, TX6, 43, tyX6, rfl, inlX6, tyX6_ok, nmX6, by decide, big_3 (i := 15) rfl rfl, rfl, by decide +kernel⟩
theorem fX6_22 : FD RX6 22 6 4 (.array .int) true := ⟨RX6, TX6, 43, tyX6, rfl, inlX6, tyX6_ok, nmX6, by decide, big_3 (i := 16) rfl rfl, rfl, by decide +kernel⟩
theorem fX6_25 : FD RX6 25 6 5 (.int) false := ⟨RX6, TX6, 43, tyX6, rfl, inlX6, tyX6_ok, nmX6, by decide, big_3 (i := 17) rfl rfl, rfl, by decide +kernel⟩
theorem fX6_29 : FD RX6 29 6 8 (.array .int) true := ⟨RX6, TX6, 43, tyX6, rfl, inlX6, tyX6_ok, nmX6, by decide, big_3 (i := 20) rfl rfl, rfl, by decide +kernel⟩
theorem fX6_32 : FD RX6 32 6 9 (.array .int) true := ⟨RX6, TX6, 43, tyX6, rfl, inlX6, tyX6_ok, nmX6, by decide, big_3 (i := 21) rfl rfl, rfl, by decide +kernel⟩
theorem fX6_35 : FD RX6 35 6 10 (.array .int) true := ⟨RX6, TX6, 43, tyX6, rfl, inlX6, tyX6_ok, nmX6, by decide, big_3 (i := 22) rfl rfl, rfl, by decide +kernel⟩
theorem fX6_38 : FD RX6 38 6 11 (.array .int) true := ⟨RX6, TX6, 43, tyX6, rfl, inlX6, tyX6_ok, nmX6, by decide, big_3 (i := 23) rfl rfl, rfl, by decide +kernel⟩
theorem fX6_41 : FD RX6 41 6 12 (.array .int) true := ⟨RX6, TX6, 43, tyX6, rfl, inlX6, tyX6_ok, nmX6, by decide, big_3 (i := 24) rfl rfl, rfl, by decide +kernel⟩
theorem fX6_44 : FD RX6 44 6 13 (.array .int) true := ⟨RX6, TX6, 43, tyX6, rfl, inlX6, tyX6_ok, nmX6, by decide, big_3 (i := 25) rfl rfl, rfl, by decide +kernel⟩
theorem fX6_47 : FD RX6 47 6 14 (.array .int) true := ⟨RX6, TX6, 43, tyX6, rfl, inlX6, tyX6_ok, nmX6, by decide, big_3 (i := 26) rfl rfl, rfl, by decide +kernel⟩
theorem fX6_50 : FD RX6 50 6 15 (.array .int) true := ⟨RX6, TX6, 43, tyX6, rfl, inlX6, tyX6_ok, nmX6, by decide, big_3 (i := 27) rfl rfl, rfl, by decide +kernel⟩
theorem fX6_53 : FD RX6 53 6 16 (.array .int) true := ⟨RX6, TX6, 43, tyX6, rfl, inlX6, tyX6_ok, nmX6, by decide, big_3 (i := 28) rfl rfl, rfl, by decide +kernel⟩
theorem fX6_56 : FD RX6 56 6 17 (.array .boolean) true := ⟨RX6, TX6, 43, tyX6, rfl, inlX6, tyX6_ok, nmX6, by decide, big_3 (i := 29) rfl rfl, rfl, by decide +kernel⟩
theorem fX6_60 : FD RX6 60 6 18 (.array .boolean) true := ⟨RX6, TX6, 43, tyX6, rfl, inlX6, tyX6_ok, nmX6, by decide, big_3 (i := 30) rfl rfl, rfl, by decide +kernel⟩
theorem fX6_63 : FD RX6 63 6 20 (.array .int) true := ⟨RX6, TX6, 43, tyX6, rfl, inlX6, tyX6_ok, nmX6, by decide, big_3 (i := 32) rfl rfl, rfl, by decide +kernel⟩
theorem fX6_66 : FD RX6 66 6 21 (.array .int) true := ⟨RX6, TX6, 43, tyX6, rfl, inlX6, tyX6_ok, nmX6, by decide, big_3 (i := 33) rfl rfl, rfl, by decide +kernel⟩
theorem fX6_69 : FD RX6 69 6 22 (.array .int) true := ⟨RX6, TX6, 43, tyX6, rfl, inlX6, tyX6_ok, nmX6, by decide, big_3 (i := 34) rfl rfl, rfl, by decide +kernel⟩
theorem fX6_72 : FD RX6 72 6 23 (.array .int) true := ⟨RX6, TX6, 43, tyX6, rfl, inlX6, tyX6_ok, nmX6, by decide, big_3 (i := 35) rfl rfl, rfl, by decide +kernel⟩
theorem fX6_75 : FD RX6 75 6 24 (.array .int) true := ⟨RX6, TX6, 43, tyX6, rfl, inlX6, tyX6_ok, nmX6, by decide, big_3 (i := 36) rfl rfl, rfl, by decide +kernel⟩
theorem fX6_78 : FD RX6 78 6 25 (.array .int) true := ⟨RX6, TX6, 43, tyX6, rfl, inlX6, tyX6_ok, nmX6, by decide, big_3 (i := 37) rfl rfl, rfl, by decide +kernel⟩
theorem fX6_81 : FD RX6 81 6 26 (.array .int) true := ⟨RX6, TX6, 43, tyX6, rfl, inlX6, tyX6_ok, nmX6, by decide, big_3 (i := 38) rfl rfl, rfl, by decide +kernel⟩
theorem fX6_84 : FD RX6 84 6 27 (.array .boolean) true := ⟨RX6, TX6, 43, tyX6, rfl, inlX6, tyX6_ok, nmX6, by decide, big_3 (i := 39) rfl rfl, rfl, by decide +kernel⟩
theorem fX6_87 : FD RX6 87 6 28 (.array .int) true := ⟨RX6, TX6, 43, tyX6, rfl, inlX6, tyX6_ok, nmX6, by decide, big_3 (i := 40) rfl rfl, rfl, by decide +kernel⟩
theorem fX6_90 : FD RX6 90 6 29 (.int) false := ⟨RX6, TX6, 43, tyX6, rfl, inlX6, tyX6_ok, nmX6, by decide, big_3 (i := 41) rfl rfl, rfl, by decide +kernel⟩
theorem fX6_93 : FD RX6 93 6 42 (.array .boolean) true := ⟨RX6, TX6, 43, tyX6, rfl, inlX6, tyX6_ok, nmX6, by decide, big_3 (i := 54) rfl rfl, rfl, by decide +kernel⟩
theorem fX6_97 : FD RX6 97 6 7 (.int) false := ⟨RX6, TX6, 43, tyX6, rfl, inlX6, tyX6_ok, nmX6, by decide, big_3 (i := 19) rfl rfl, rfl, by decide +kernel⟩
theorem fX6_104 : FD RX6 104 6 19 (.int) false := ⟨RX6, TX6, 43, tyX6, rfl, inlX6, tyX6_ok, nmX6, by decide, big_3 (i := 31) rfl rfl, rfl, by decide +kernel⟩
theorem fX6_121 : FD RX6 121 6 30 (.int) false := ⟨RX6, TX6, 43, tyX6, rfl, inlX6, tyX6_ok, nmX6, by decide, big_3 (i := 42) rfl rfl, rfl, by decide +kernel⟩
theorem fX6_124 : FD RX6 124 6 36 (.int) false := ⟨RX6, TX6, 43, tyX6, rfl, inlX6, tyX6_ok, nmX6, by decide, big_3 (i := 48) rfl rfl, rfl, by decide +kernel⟩
theorem fX6_127 : FD RX6 127 6 37 (.int) false := ⟨RX6, TX6, 43, tyX6, rfl, inlX6, tyX6_ok, nmX6, by decide, big_3 (i := 49) rfl rfl, rfl, by decide +kernel⟩
theorem fX6_130 : FD RX6 130 6 38 (.int) false := ⟨RX6, TX6, 43, tyX6, rfl, inlX6, tyX6_ok, nmX6, by decide, big_3 (i := 50) rfl rfl, rfl, by decide +kernel⟩
theorem fX6_133 : FD RX6 133 6 39 (.int) false := ⟨RX6, TX6, 43, tyX6, rfl, inlX6, tyX6_ok, nmX6, by decide, big_3 (i := 51) rfl rfl, rfl, by decide +kernel⟩
theorem fX6_136 : FD RX6 136 6 40 (.int) false := ⟨RX6, TX6, 43, tyX6, rfl, inlX6, tyX6_ok, nmX6, by decide, big_3 (i := 52) rfl rfl, rfl, by decide +kernel⟩
theorem fX6_139 : FD RX6 139 6 41 (.int) false := ⟨RX6, TX6, 43, tyX6, rfl, inlX6, tyX6_ok, nmX6, by decide, big_3 (i := 53) rfl rfl, rfl, by decide +kernel⟩
theorem fX6_142 : FD RX6 142 6 35 (.boolean) false := ⟨RX6, TX6, 43, tyX6, rfl, inlX6, tyX6_ok, nmX6, by decide, big_3 (i := 47) rfl rfl, rfl, by decide +kernel⟩
theorem fX6_146 : FD RX6 146 6 32 (.int) false := ⟨RX6, TX6, 43, tyX6, rfl, inlX6, tyX6_ok, nmX6, by decide, big_3 (i := 44) rfl rfl, rfl, by decide +kernel⟩
theorem fX6_149 : FD RX6 149 6 31 (.int) false := ⟨RX6, TX6, 43, tyX6, rfl, inlX6, tyX6_ok, nmX6, by decide, big_3 (i := 43) rfl rfl, rfl, by decide +kernel⟩
theorem fX6_152 : FD RX6 152 6 34 (.int) false := ⟨RX6, TX6, 43, tyX6, rfl, inlX6, tyX6_ok, nmX6, by decide, big_3 (i := 46) rfl rfl, rfl, by decide +kernel⟩
theorem fX6_155 : FD RX6 155 6 33 (.int) false := ⟨RX6, TX6, 43, tyX6, rfl, inlX6, tyX6_ok, nmX6, by decide, big_3 (i := 45) rfl rfl, rfl, by decide +kernel⟩
theorem fX6_222 : FD RX6 222 6 6 (.int) false := ⟨RX6, TX6, 43, tyX6, rfl, inlX6, tyX6_ok, nmX6, by decide, big_3 (i := 18) rfl rfl, rfl, by decide +kernel⟩
theorem vL_13 : CwV RL 13 yX5_minute cX5_minute 5 (some .int) 4 := ⟨⟨big_1 (i := 201) rfl rfl, big_1 (i := 1) rfl rfl, big_1 (i := 198) rfl rfl, by decide +kernel⟩, big_1 (i := 199) rfl rfl, big_1 (i := 200) rfl rfl⟩
theorem vL_17 : CwV RL 17 yX6_minute cX6_minute 6 (some .int) 4 := ⟨⟨big_3 (i := 145) rfl rfl, big_1 (i := 8) rfl rfl, big_3 (i := 142) rfl rfl, by decide +kernel⟩, big_3 (i := 143) rfl rfl, big_3 (i := 144) rfl rfl⟩
theorem vL_18 : CwV RL 18 yX5_block cX5_block 8 (some .int) 7 := ⟨⟨big_1 (i := 224) rfl rfl, big_1 (i := 1) rfl rfl, big_1 (i := 221) rfl rfl, by decide +kernel⟩, big_1 (i := 222) rfl rfl, big_1 (i := 223) rfl rfl⟩
theorem vL_22 : CwV RL 22 yX6_block cX6_block 8 (some .int) 7 := ⟨⟨big_3 (i := 159) rfl rfl, big_1 (i := 8) rfl rfl, big_3 (i := 156) rfl rfl, by decide +kernel⟩, big_3 (i := 157) rfl rfl, big_3 (i := 158) rfl rfl⟩
theorem vL_23 : CwV RL 23 yX5_share cX5_share 6 (some .int) 3 := ⟨⟨big_1 (i := 236) rfl rfl, big_1 (i := 1) rfl rfl, big_1 (i := 233) rfl rfl, by decide +kernel⟩, big_1 (i := 234) rfl rfl, big_1 (i := 235) rfl rfl⟩
theorem vL_27 : CwV RL 27 yX6_share cX6_share 5 (some .int) 3 := ⟨⟨big_3 (i := 163) rfl rfl, big_1 (i := 8) rfl rfl, big_3 (i := 160) rfl rfl, by decide +kernel⟩, big_3 (i := 161) rfl rfl, big_3 (i := 162) rfl rfl⟩
theorem vL_28 : CwV RL 28 yX5_most cX5_most 5 (some .int) 2 := ⟨⟨big_2 (i := 8) rfl rfl, big_1 (i := 1) rfl rfl, big_2 (i := 5) rfl rfl, by decide +kernel⟩, big_2 (i := 6) rfl rfl, big_2 (i := 7) rfl rfl⟩
theorem vL_32 : CwV RL 32 yX6_most cX6_most 4 (some .int) 2 := ⟨⟨big_3 (i := 171) rfl rfl, big_1 (i := 8) rfl rfl, big_3 (i := 168) rfl rfl, by decide +kernel⟩, big_3 (i := 169) rfl rfl, big_3 (i := 170) rfl rfl⟩
theorem vL_33 : CwV RL 33 yX5_cut cX5_cut 5 (some .int) 2 := ⟨⟨big_2 (i := 16) rfl rfl, big_1 (i := 1) rfl rfl, big_2 (i := 13) rfl rfl, by decide +kernel⟩, big_2 (i := 14) rfl rfl, big_2 (i := 15) rfl rfl⟩
theorem vL_36 : CwV RL 36 yX6_cut cX6_cut 4 (some .int) 2 := ⟨⟨big_3 (i := 175) rfl rfl, big_1 (i := 8) rfl rfl, big_3 (i := 172) rfl rfl, by decide +kernel⟩, big_3 (i := 173) rfl rfl, big_3 (i := 174) rfl rfl⟩
theorem vL_37 : CwV RL 37 yX5_build cX5_build 3 (some .int) 1 := ⟨⟨big_2 (i := 28) rfl rfl, big_1 (i := 1) rfl rfl, big_2 (i := 25) rfl rfl, by decide +kernel⟩, big_2 (i := 26) rfl rfl, big_2 (i := 27) rfl rfl⟩
theorem vL_41 : CwV RL 41 yX6_build cX6_build 3 (some .int) 1 := ⟨⟨big_3 (i := 179) rfl rfl, big_1 (i := 8) rfl rfl, big_3 (i := 176) rfl rfl, by decide +kernel⟩, big_3 (i := 177) rfl rfl, big_3 (i := 178) rfl rfl⟩
theorem vL_42 : CwV RL 42 yX5_go cX5_go 2 (some .int) 1 := ⟨⟨big_2 (i := 36) rfl rfl, big_1 (i := 1) rfl rfl, big_2 (i := 33) rfl rfl, by decide +kernel⟩, big_2 (i := 34) rfl rfl, big_2 (i := 35) rfl rfl⟩
theorem vL_45 : CwV RL 45 yX6_go cX6_go 2 (some .int) 1 := ⟨⟨big_3 (i := 187) rfl rfl, big_1 (i := 8) rfl rfl, big_3 (i := 184) rfl rfl, by decide +kernel⟩, big_3 (i := 185) rfl rfl, big_3 (i := 186) rfl rfl⟩
theorem vL_46 : CwV RL 46 yX5_window cX5_window 7 (some .int) 6 := ⟨⟨big_2 (i := 41) rfl rfl, big_1 (i := 1) rfl rfl, big_2 (i := 38) rfl rfl, by decide +kernel⟩, big_2 (i := 39) rfl rfl, big_2 (i := 40) rfl rfl⟩
theorem vL_50 : CwV RL 50 yX6_window cX6_window 7 (some .int) 6 := ⟨⟨big_3 (i := 191) rfl rfl, big_1 (i := 8) rfl rfl, big_3 (i := 188) rfl rfl, by decide +kernel⟩, big_3 (i := 189) rfl rfl, big_3 (i := 190) rfl rfl⟩
theorem vL_51 : CwV RL 51 yX5_part cX5_part 3 (some .int) 1 := ⟨⟨big_2 (i := 53) rfl rfl, big_1 (i := 1) rfl rfl, big_2 (i := 50) rfl rfl, by decide +kernel⟩, big_2 (i := 51) rfl rfl, big_2 (i := 52) rfl rfl⟩
theorem vL_54 : CwV RL 54 yX6_part cX6_part 3 (some .int) 1 := ⟨⟨big_3 (i := 195) rfl rfl, big_1 (i := 8) rfl rfl, big_3 (i := 192) rfl rfl, by decide +kernel⟩, big_3 (i := 193) rfl rfl, big_3 (i := 194) rfl rfl⟩
theorem vL_55 : CwV RL 55 yX5_law cX5_law 4 (some .int) 2 := ⟨⟨big_2 (i := 57) rfl rfl, big_1 (i := 1) rfl rfl, big_2 (i := 54) rfl rfl, by decide +kernel⟩, big_2 (i := 55) rfl rfl, big_2 (i := 56) rfl rfl⟩
theorem vL_58 : CwV RL 58 yX6_law cX6_law 4 (some .int) 2 := ⟨⟨big_3 (i := 199) rfl rfl, big_1 (i := 8) rfl rfl, big_3 (i := 196) rfl rfl, by decide +kernel⟩, big_3 (i := 197) rfl rfl, big_3 (i := 198) rfl rfl⟩
theorem vL_59 : CwV RL 59 yX5_sun cX5_sun 4 (some .int) 3 := ⟨⟨big_2 (i := 61) rfl rfl, big_1 (i := 1) rfl rfl, big_2 (i := 58) rfl rfl, by decide +kernel⟩, big_2 (i := 59) rfl rfl, big_2 (i := 60) rfl rfl⟩
theorem vL_62 : CwV RL 62 yX6_sun cX6_sun 4 (some .int) 3 := ⟨⟨big_3 (i := 203) rfl rfl, big_1 (i := 8) rfl rfl, big_3 (i := 200) rfl rfl, by decide +kernel⟩, big_3 (i := 201) rfl rfl, big_3 (i := 202) rfl rfl⟩
theorem vL_63 : CwV RL 63 yX5_light cX5_light 5 (some .int) 4 := ⟨⟨big_2 (i := 125) rfl rfl, big_1 (i := 1) rfl rfl, big_2 (i := 122) rfl rfl, by decide +kernel⟩, big_2 (i := 123) rfl rfl, big_2 (i := 124) rfl rfl⟩
theorem vL_66 : CwV RL 66 yX6_light cX6_light 5 (some .int) 4 := ⟨⟨big_4 (i := 11) rfl rfl, big_1 (i := 8) rfl rfl, big_4 (i := 8) rfl rfl, by decide +kernel⟩, big_4 (i := 9) rfl rfl, big_4 (i := 10) rfl rfl⟩
theorem vL_67 : CwV RL 67 yX5_taker cX5_taker 5 (some .int) 4 := ⟨⟨big_2 (i := 135) rfl rfl, big_1 (i := 1) rfl rfl, big_2 (i := 132) rfl rfl, by decide +kernel⟩, big_2 (i := 133) rfl rfl, big_2 (i := 134) rfl rfl⟩
theorem vL_70 : CwV RL 70 yX6_taker cX6_taker 5 (some .int) 4 := ⟨⟨big_4 (i := 15) rfl rfl, big_1 (i := 8) rfl rfl, big_4 (i := 12) rfl rfl, by decide +kernel⟩, big_4 (i := 13) rfl rfl, big_4 (i := 14) rfl rfl⟩
theorem vL_71 : CwV RL 71 yX5_takes cX5_takes 6 (some .int) 3 := ⟨⟨big_2 (i := 148) rfl rfl, big_1 (i := 1) rfl rfl, big_2 (i := 145) rfl rfl, by decide +kernel⟩, big_2 (i := 146) rfl rfl, big_2 (i := 147) rfl rfl⟩
theorem vL_74 : CwV RL 74 yX6_takes cX6_takes 7 (some .int) 3 := ⟨⟨big_4 (i := 28) rfl rfl, big_1 (i := 8) rfl rfl, big_4 (i := 25) rfl rfl, by decide +kernel⟩, big_4 (i := 26) rfl rfl, big_4 (i := 27) rfl rfl⟩
theorem vL_75 : CwV RL 75 yX5_hours cX5_hours 3 (some .int) 2 := ⟨⟨big_2 (i := 156) rfl rfl, big_1 (i := 1) rfl rfl, big_2 (i := 153) rfl rfl, by decide +kernel⟩, big_2 (i := 154) rfl rfl, big_2 (i := 155) rfl rfl⟩
theorem vL_78 : CwV RL 78 yX6_hours cX6_hours 3 (some .int) 2 := ⟨⟨big_4 (i := 32) rfl rfl, big_1 (i := 8) rfl rfl, big_4 (i := 29) rfl rfl, by decide +kernel⟩, big_4 (i := 30) rfl rfl, big_4 (i := 31) rfl rfl⟩
theorem vL_79 : CwV RL 79 yX5_loss cX5_loss 6 (some .int) 3 := ⟨⟨big_2 (i := 174) rfl rfl, big_1 (i := 1) rfl rfl, big_2 (i := 171) rfl rfl, by decide +kernel⟩, big_2 (i := 172) rfl rfl, big_2 (i := 173) rfl rfl⟩
theorem vL_82 : CwV RL 82 yX6_loss cX6_loss 7 (some .int) 3 := ⟨⟨big_4 (i := 40) rfl rfl, big_1 (i := 8) rfl rfl, big_4 (i := 37) rfl rfl, by decide +kernel⟩, big_4 (i := 38) rfl rfl, big_4 (i := 39) rfl rfl⟩
theorem vL_83 : CwV RL 83 yX5_high cX5_high 5 (some .int) 1 := ⟨⟨big_2 (i := 182) rfl rfl, big_1 (i := 1) rfl rfl, big_2 (i := 179) rfl rfl, by decide +kernel⟩, big_2 (i := 180) rfl rfl, big_2 (i := 181) rfl rfl⟩
theorem vL_86 : CwV RL 86 yX6_high cX6_high 6 (some .int) 1 := ⟨⟨big_4 (i := 48) rfl rfl, big_1 (i := 8) rfl rfl, big_4 (i := 45) rfl rfl, by decide +kernel⟩, big_4 (i := 46) rfl rfl, big_4 (i := 47) rfl rfl⟩
theorem vL_87 : CwV RL 87 yX5_breach cX5_breach 4 (some .int) 2 := ⟨⟨big_2 (i := 202) rfl rfl, big_1 (i := 1) rfl rfl, big_2 (i := 199) rfl rfl, by decide +kernel⟩, big_2 (i := 200) rfl rfl, big_2 (i := 201) rfl rfl⟩
theorem vL_90 : CwV RL 90 yX6_breach cX6_breach 4 (some .int) 2 := ⟨⟨big_4 (i := 68) rfl rfl, big_1 (i := 8) rfl rfl, big_4 (i := 65) rfl rfl, by decide +kernel⟩, big_4 (i := 66) rfl rfl, big_4 (i := 67) rfl rfl⟩
theorem vL_91 : CwV RL 91 yX5_years cX5_years 3 (some .int) 1 := ⟨⟨big_2 (i := 206) rfl rfl, big_1 (i := 1) rfl rfl, big_2 (i := 203) rfl rfl, by decide +kernel⟩, big_2 (i := 204) rfl rfl, big_2 (i := 205) rfl rfl⟩
theorem vL_94 : CwV RL 94 yX6_years cX6_years 4 (some .int) 1 := ⟨⟨big_4 (i := 72) rfl rfl, big_1 (i := 8) rfl rfl, big_4 (i := 69) rfl rfl, by decide +kernel⟩, big_4 (i := 70) rfl rfl, big_4 (i := 71) rfl rfl⟩
theorem vL_95 : CwV RL 95 yX5_release cX5_release 2 (some .boolean) 1 := ⟨⟨big_2 (i := 220) rfl rfl, big_1 (i := 1) rfl rfl, big_2 (i := 217) rfl rfl, by decide +kernel⟩, big_2 (i := 218) rfl rfl, big_2 (i := 219) rfl rfl⟩
theorem vL_99 : CwV RL 99 yX6_release cX6_release 2 (some .boolean) 1 := ⟨⟨big_4 (i := 76) rfl rfl, big_1 (i := 8) rfl rfl, big_4 (i := 73) rfl rfl, by decide +kernel⟩, big_4 (i := 74) rfl rfl, big_4 (i := 75) rfl rfl⟩
theorem vL_100 : CwV RL 100 yX5_blockOf cX5_blockOf 3 (some .int) 2 := ⟨⟨big_2 (i := 224) rfl rfl, big_1 (i := 1) rfl rfl, big_2 (i := 221) rfl rfl, by decide +kernel⟩, big_2 (i := 222) rfl rfl, big_2 (i := 223) rfl rfl⟩
theorem vL_103 : CwV RL 103 yX6_blockOf cX6_blockOf 3 (some .int) 2 := ⟨⟨big_4 (i := 80) rfl rfl, big_1 (i := 8) rfl rfl, big_4 (i := 77) rfl rfl, by decide +kernel⟩, big_4 (i := 78) rfl rfl, big_4 (i := 79) rfl rfl⟩
theorem vL_104 : CwV RL 104 yX5_windowOf cX5_windowOf 3 (some .int) 2 := ⟨⟨big_2 (i := 228) rfl rfl, big_1 (i := 1) rfl rfl, big_2 (i := 225) rfl rfl, by decide +kernel⟩, big_2 (i := 226) rfl rfl, big_2 (i := 227) rfl rfl⟩
theorem vL_107 : CwV RL 107 yX6_windowOf cX6_windowOf 3 (some .int) 2 := ⟨⟨big_4 (i := 84) rfl rfl, big_1 (i := 8) rfl rfl, big_4 (i := 81) rfl rfl, by decide +kernel⟩, big_4 (i := 82) rfl rfl, big_4 (i := 83) rfl rfl⟩
theorem vL_108 : CwV RL 108 yX5_count cX5_count 2 (some .int) 1 := ⟨⟨big_2 (i := 232) rfl rfl, big_1 (i := 1) rfl rfl, big_2 (i := 229) rfl rfl, by decide +kernel⟩, big_2 (i := 230) rfl rfl, big_2 (i := 231) rfl rfl⟩
theorem vL_111 : CwV RL 111 yX6_count cX6_count 4 (some .int) 1 := ⟨⟨big_4 (i := 88) rfl rfl, big_1 (i := 8) rfl rfl, big_4 (i := 85) rfl rfl, by decide +kernel⟩, big_4 (i := 86) rfl rfl, big_4 (i := 87) rfl rfl⟩
theorem vX1_38 : CwV RX1 38 yX1_has cX1_has 2 (some .boolean) 1 := ⟨⟨big_2 (i := 4) rfl rfl, big_1 (i := 3) rfl rfl, big_2 (i := 1) rfl rfl, by decide +kernel⟩, big_2 (i := 2) rfl rfl, big_2 (i := 3) rfl rfl⟩
theorem vX1_42 : CwV RX1 42 yX1_topOf cX1_topOf 2 (some .int) 1 := ⟨⟨big_2 (i := 12) rfl rfl, big_1 (i := 3) rfl rfl, big_2 (i := 215) rfl rfl, by decide +kernel⟩, big_2 (i := 10) rfl rfl, big_2 (i := 11) rfl rfl⟩
theorem vX1_46 : CwV RX1 46 yX1_setTop cX1_setTop 3 (none) 2 := ⟨⟨big_2 (i := 24) rfl rfl, big_1 (i := 3) rfl rfl, big_2 (i := 216) rfl rfl, by decide +kernel⟩, big_2 (i := 22) rfl rfl, big_2 (i := 23) rfl rfl⟩
theorem vX2_31 : CwV RX2 31 yX1_topOf cX1_topOf 2 (some .int) 1 := ⟨⟨big_2 (i := 12) rfl rfl, big_1 (i := 3) rfl rfl, big_2 (i := 106) rfl rfl, by decide +kernel⟩, big_2 (i := 10) rfl rfl, big_2 (i := 11) rfl rfl⟩
theorem vX2_39 : CwV RX2 39 yX0_meets cX0_meets 13 (some .boolean) 3 := ⟨⟨big_2 (i := 110) rfl rfl, big_1 (i := 5) rfl rfl, big_2 (i := 107) rfl rfl, by decide +kernel⟩, big_2 (i := 108) rfl rfl, big_2 (i := 109) rfl rfl⟩
theorem nX3_18 : CwN RX3 18 yX5_isDay cX5_isDay 1 (some .boolean) 1 := ⟨big_1 (i := 204) rfl rfl, big_1 (i := 1) rfl rfl, by simp [nestW, RX3], by decide +kernel⟩
theorem nsX3_18 : Cond.static yX5_isDay ∈ lw_big := big_1 (i := 203) rfl rfl
theorem vX4_44 : CwV RX4 44 yX4_has cX4_has 2 (some .boolean) 1 := ⟨⟨big_2 (i := 65) rfl rfl, big_1 (i := 4) rfl rfl, big_2 (i := 130) rfl rfl, by decide +kernel⟩, big_2 (i := 63) rfl rfl, big_2 (i := 64) rfl rfl⟩
theorem vX4_48 : CwV RX4 48 yX4_cellsOf cX4_cellsOf 2 (some .int) 1 := ⟨⟨big_2 (i := 90) rfl rfl, big_1 (i := 4) rfl rfl, big_2 (i := 131) rfl rfl, by decide +kernel⟩, big_2 (i := 88) rfl rfl, big_2 (i := 89) rfl rfl⟩
theorem vX4_52 : CwV RX4 52 yX4_isKept cX4_isKept 2 (some .boolean) 1 := ⟨⟨big_2 (i := 190) rfl rfl, big_1 (i := 4) rfl rfl, big_3 (i := 5) rfl rfl, by decide +kernel⟩, big_2 (i := 188) rfl rfl, big_2 (i := 189) rfl rfl⟩
theorem vX4_60 : CwS RX4 60 yJ9_max_7cf53 cJ9_max_7cf53 2 (some .int) 2 := ⟨⟨big_2 (i := 117) rfl rfl, big_1 (i := 9) rfl rfl, big_2 (i := 115) rfl rfl, by decide +kernel⟩, big_2 (i := 116) rfl rfl⟩
theorem vX4_66 : CwS RX4 66 yX4_middle cX4_middle 1 (some .int) 1 := ⟨⟨big_2 (i := 101) rfl rfl, big_1 (i := 4) rfl rfl, big_2 (i := 99) rfl rfl, by decide +kernel⟩, big_2 (i := 100) rfl rfl⟩
theorem vX4_69 : CwV RX4 69 yX0_startAt cX0_startAt 4 (none) 3 := ⟨⟨big_2 (i := 98) rfl rfl, big_1 (i := 5) rfl rfl, big_2 (i := 95) rfl rfl, by decide +kernel⟩, big_2 (i := 96) rfl rfl, big_2 (i := 97) rfl rfl⟩
theorem vX5_61 : CwS RX5 61 yJ7_fill_53178 cJ7_fill_53178 4 (none) 2 := ⟨⟨big_1 (i := 166) rfl rfl, big_1 (i := 7) rfl rfl, big_1 (i := 164) rfl rfl, by decide +kernel⟩, big_1 (i := 165) rfl rfl⟩
theorem vX5_67 : CwS RX5 67 yX5_isDay cX5_isDay 1 (some .boolean) 1 := ⟨⟨big_1 (i := 204) rfl rfl, big_1 (i := 1) rfl rfl, big_1 (i := 202) rfl rfl, by decide +kernel⟩, big_1 (i := 203) rfl rfl⟩
theorem vX5_71 : CwV RX5 71 yX5_refuse cX5_refuse 2 (some .int) 1 := ⟨⟨big_1 (i := 208) rfl rfl, big_1 (i := 1) rfl rfl, big_1 (i := 205) rfl rfl, by decide +kernel⟩, big_1 (i := 207) rfl rfl, big_s (i := 0) rfl rfl⟩
theorem vX5_75 : CwV RX5 75 yX3_isFull cX3_isFull 2 (some .boolean) 1 := ⟨⟨big_1 (i := 212) rfl rfl, big_1 (i := 2) rfl rfl, big_1 (i := 209) rfl rfl, by decide +kernel⟩, big_1 (i := 210) rfl rfl, big_1 (i := 211) rfl rfl⟩
theorem vX5_78 : CwV RX5 78 yX5_forgetLight cX5_forgetLight 1 (none) 0 := ⟨⟨big_1 (i := 216) rfl rfl, big_1 (i := 1) rfl rfl, big_1 (i := 213) rfl rfl, by decide +kernel⟩, big_1 (i := 215) rfl rfl, big_s (i := 1) rfl rfl⟩
theorem vX5_81 : CwV RX5 81 yX3_add cX3_add 7 (some .int) 4 := ⟨⟨big_1 (i := 220) rfl rfl, big_1 (i := 2) rfl rfl, big_1 (i := 217) rfl rfl, by decide +kernel⟩, big_1 (i := 218) rfl rfl, big_1 (i := 219) rfl rfl⟩
theorem vX5_85 : CwV RX5 85 yX1_isFull cX1_isFull 1 (some .boolean) 0 := ⟨⟨big_1 (i := 228) rfl rfl, big_1 (i := 3) rfl rfl, big_1 (i := 225) rfl rfl, by decide +kernel⟩, big_1 (i := 226) rfl rfl, big_1 (i := 227) rfl rfl⟩
theorem vX5_88 : CwV RX5 88 yX1_add cX1_add 10 (some .int) 7 := ⟨⟨big_1 (i := 232) rfl rfl, big_1 (i := 3) rfl rfl, big_1 (i := 229) rfl rfl, by decide +kernel⟩, big_1 (i := 230) rfl rfl, big_1 (i := 231) rfl rfl⟩
theorem vX5_91 : CwV RX5 91 yX1_treeFault cX1_treeFault 2 (some .int) 1 := ⟨⟨big_2 (i := 0) rfl rfl, big_1 (i := 3) rfl rfl, big_1 (i := 237) rfl rfl, by decide +kernel⟩, big_1 (i := 238) rfl rfl, big_1 (i := 239) rfl rfl⟩
theorem vX5_97 : CwV RX5 97 yX1_topOf cX1_topOf 2 (some .int) 1 := ⟨⟨big_2 (i := 12) rfl rfl, big_1 (i := 3) rfl rfl, big_2 (i := 9) rfl rfl, by decide +kernel⟩, big_2 (i := 10) rfl rfl, big_2 (i := 11) rfl rfl⟩
theorem vX5_107 : CwV RX5 107 yX1_footOf cX1_footOf 2 (some .int) 1 := ⟨⟨big_2 (i := 20) rfl rfl, big_1 (i := 3) rfl rfl, big_2 (i := 17) rfl rfl, by decide +kernel⟩, big_2 (i := 18) rfl rfl, big_2 (i := 19) rfl rfl⟩
theorem vX5_110 : CwV RX5 110 yX1_setTop cX1_setTop 3 (none) 2 := ⟨⟨big_2 (i := 24) rfl rfl, big_1 (i := 3) rfl rfl, big_2 (i := 21) rfl rfl, by decide +kernel⟩, big_2 (i := 22) rfl rfl, big_2 (i := 23) rfl rfl⟩
theorem vX5_114 : CwV RX5 114 yX1_planFault cX1_planFault 2 (some .int) 1 := ⟨⟨big_2 (i := 32) rfl rfl, big_1 (i := 3) rfl rfl, big_2 (i := 29) rfl rfl, by decide +kernel⟩, big_2 (i := 30) rfl rfl, big_2 (i := 31) rfl rfl⟩
theorem vX5_120 : CwV RX5 120 yX1_has cX1_has 2 (some .boolean) 1 := ⟨⟨big_2 (i := 4) rfl rfl, big_1 (i := 3) rfl rfl, big_2 (i := 37) rfl rfl, by decide +kernel⟩, big_2 (i := 2) rfl rfl, big_2 (i := 3) rfl rfl⟩
theorem vX5_123 : CwV RX5 123 yX4_isFull cX4_isFull 1 (some .boolean) 0 := ⟨⟨big_2 (i := 45) rfl rfl, big_1 (i := 4) rfl rfl, big_2 (i := 42) rfl rfl, by decide +kernel⟩, big_2 (i := 43) rfl rfl, big_2 (i := 44) rfl rfl⟩
theorem vX5_124 : CwV RX5 124 yX4_add cX4_add 8 (some .int) 6 := ⟨⟨big_2 (i := 49) rfl rfl, big_1 (i := 4) rfl rfl, big_2 (i := 46) rfl rfl, by decide +kernel⟩, big_2 (i := 47) rfl rfl, big_2 (i := 48) rfl rfl⟩
theorem vX5_127 : CwV RX5 127 yX4_has cX4_has 2 (some .boolean) 1 := ⟨⟨big_2 (i := 65) rfl rfl, big_1 (i := 4) rfl rfl, big_2 (i := 62) rfl rfl, by decide +kernel⟩, big_2 (i := 63) rfl rfl, big_2 (i := 64) rfl rfl⟩
theorem vX5_128 : CwV RX5 128 yX3_has cX3_has 3 (some .boolean) 2 := ⟨⟨big_2 (i := 69) rfl rfl, big_1 (i := 2) rfl rfl, big_2 (i := 66) rfl rfl, by decide +kernel⟩, big_2 (i := 67) rfl rfl, big_2 (i := 68) rfl rfl⟩
theorem vX5_131 : CwV RX5 131 yX5_sunAt cX5_sunAt 9 (some .int) 5 := ⟨⟨big_2 (i := 74) rfl rfl, big_1 (i := 1) rfl rfl, big_2 (i := 71) rfl rfl, by decide +kernel⟩, big_2 (i := 73) rfl rfl, big_s (i := 2) rfl rfl⟩
theorem vX5_135 : CwV RX5 135 yX4_hasCell cX4_hasCell 3 (some .boolean) 2 := ⟨⟨big_2 (i := 129) rfl rfl, big_1 (i := 4) rfl rfl, big_2 (i := 126) rfl rfl, by decide +kernel⟩, big_2 (i := 127) rfl rfl, big_2 (i := 128) rfl rfl⟩
theorem vX5_138 : CwV RX5 138 yX5_aim cX5_aim 4 (some .boolean) 3 := ⟨⟨big_2 (i := 78) rfl rfl, big_1 (i := 1) rfl rfl, big_2 (i := 75) rfl rfl, by decide +kernel⟩, big_2 (i := 77) rfl rfl, big_s (i := 3) rfl rfl⟩
theorem vX5_142 : CwV RX5 142 yX4_standOn cX4_standOn 8 (none) 3 := ⟨⟨big_2 (i := 114) rfl rfl, big_1 (i := 4) rfl rfl, big_2 (i := 111) rfl rfl, by decide +kernel⟩, big_2 (i := 112) rfl rfl, big_2 (i := 113) rfl rfl⟩
theorem vX5_146 : CwV RX5 146 yX2_gather cX2_gather 11 (none) 5 := ⟨⟨big_2 (i := 105) rfl rfl, big_1 (i := 6) rfl rfl, big_2 (i := 102) rfl rfl, by decide +kernel⟩, big_2 (i := 103) rfl rfl, big_2 (i := 104) rfl rfl⟩
theorem vX5_150 : CwV RX5 150 yX2_lightAlong cX2_lightAlong 5 (some .int) 2 := ⟨⟨big_2 (i := 121) rfl rfl, big_1 (i := 6) rfl rfl, big_2 (i := 118) rfl rfl, by decide +kernel⟩, big_2 (i := 119) rfl rfl, big_2 (i := 120) rfl rfl⟩
theorem vX5_154 : CwV RX5 154 yX5_refuseAsTold cX5_refuseAsTold 2 (some .int) 1 := ⟨⟨big_2 (i := 139) rfl rfl, big_1 (i := 1) rfl rfl, big_2 (i := 136) rfl rfl, by decide +kernel⟩, big_2 (i := 138) rfl rfl, big_s (i := 4) rfl rfl⟩
theorem vX5_157 : CwV RX5 157 yX2_nearestAlong cX2_nearestAlong 7 (some .int) 2 := ⟨⟨big_2 (i := 144) rfl rfl, big_1 (i := 6) rfl rfl, big_2 (i := 141) rfl rfl, by decide +kernel⟩, big_2 (i := 142) rfl rfl, big_2 (i := 143) rfl rfl⟩
theorem vX5_163 : CwV RX5 163 yX5_cellsTaken cX5_cellsTaken 7 (some .int) 4 := ⟨⟨big_2 (i := 152) rfl rfl, big_1 (i := 1) rfl rfl, big_2 (i := 149) rfl rfl, by decide +kernel⟩, big_2 (i := 151) rfl rfl, big_s (i := 5) rfl rfl⟩
theorem vX5_166 : CwV RX5 166 yX5_litMinutes cX5_litMinutes 6 (some .int) 2 := ⟨⟨big_2 (i := 160) rfl rfl, big_1 (i := 1) rfl rfl, big_2 (i := 157) rfl rfl, by decide +kernel⟩, big_2 (i := 159) rfl rfl, big_s (i := 6) rfl rfl⟩
theorem vX5_170 : CwS RX5 170 yJ6_bitCount_0f7a4 cJ6_bitCount_0f7a4 1 (some .int) 1 := ⟨⟨big_2 (i := 167) rfl rfl, big_1 (i := 10) rfl rfl, big_2 (i := 165) rfl rfl, by decide +kernel⟩, big_2 (i := 166) rfl rfl⟩
theorem vX5_175 : CwV RX5 175 yX5_hoursWith cX5_hoursWith 9 (some .int) 5 := ⟨⟨big_2 (i := 178) rfl rfl, big_1 (i := 1) rfl rfl, big_2 (i := 175) rfl rfl, by decide +kernel⟩, big_2 (i := 177) rfl rfl, big_s (i := 8) rfl rfl⟩
theorem vX5_178 : CwV RX5 178 yX5_firstBreach cX5_firstBreach 5 (some .int) 2 := ⟨⟨big_2 (i := 186) rfl rfl, big_1 (i := 1) rfl rfl, big_2 (i := 183) rfl rfl, by decide +kernel⟩, big_2 (i := 185) rfl rfl, big_s (i := 9) rfl rfl⟩
theorem vX5_181 : CwV RX5 181 yX5_passYear cX5_passYear 3 (none) 0 := ⟨⟨big_2 (i := 210) rfl rfl, big_1 (i := 1) rfl rfl, big_2 (i := 207) rfl rfl, by decide +kernel⟩, big_2 (i := 209) rfl rfl, big_s (i := 12) rfl rfl⟩
theorem vX5_193 : CwV RX5 193 yX4_cellsOf cX4_cellsOf 2 (some .int) 1 := ⟨⟨big_2 (i := 90) rfl rfl, big_1 (i := 4) rfl rfl, big_2 (i := 87) rfl rfl, by decide +kernel⟩, big_2 (i := 88) rfl rfl, big_2 (i := 89) rfl rfl⟩
theorem vX5_199 : CwV RX5 199 yX5_firstFall cX5_firstFall 4 (some .int) 1 := ⟨⟨big_2 (i := 194) rfl rfl, big_1 (i := 1) rfl rfl, big_2 (i := 191) rfl rfl, by decide +kernel⟩, big_2 (i := 193) rfl rfl, big_s (i := 10) rfl rfl⟩
theorem vX5_202 : CwV RX5 202 yX4_isKept cX4_isKept 2 (some .boolean) 1 := ⟨⟨big_2 (i := 190) rfl rfl, big_1 (i := 4) rfl rfl, big_2 (i := 187) rfl rfl, by decide +kernel⟩, big_2 (i := 188) rfl rfl, big_2 (i := 189) rfl rfl⟩
theorem vX5_209 : CwV RX5 209 yX3_minutesInAll cX3_minutesInAll 3 (some .int) 0 := ⟨⟨big_2 (i := 236) rfl rfl, big_1 (i := 2) rfl rfl, big_2 (i := 233) rfl rfl, by decide +kernel⟩, big_2 (i := 234) rfl rfl, big_2 (i := 235) rfl rfl⟩
theorem vX5_213 : CwV RX5 213 yX5_lawfulWindows cX5_lawfulWindows 3 (some .int) 0 := ⟨⟨big_3 (i := 0) rfl rfl, big_1 (i := 1) rfl rfl, big_2 (i := 237) rfl rfl, by decide +kernel⟩, big_2 (i := 239) rfl rfl, big_s (i := 13) rfl rfl⟩
theorem vX5_216 : CwV RX5 216 yX4_keptOnes cX4_keptOnes 3 (some .int) 0 := ⟨⟨big_3 (i := 4) rfl rfl, big_1 (i := 4) rfl rfl, big_3 (i := 1) rfl rfl, by decide +kernel⟩, big_3 (i := 2) rfl rfl, big_3 (i := 3) rfl rfl⟩
theorem vX5_220 : CwV RX5 220 yX3_turn cX3_turn 6 (none) 3 := ⟨⟨big_2 (i := 82) rfl rfl, big_1 (i := 2) rfl rfl, big_2 (i := 79) rfl rfl, by decide +kernel⟩, big_2 (i := 80) rfl rfl, big_2 (i := 81) rfl rfl⟩
theorem vX5_223 : CwV RX5 223 yX4_faces cX4_faces 4 (some .boolean) 2 := ⟨⟨big_2 (i := 86) rfl rfl, big_1 (i := 4) rfl rfl, big_2 (i := 83) rfl rfl, by decide +kernel⟩, big_2 (i := 84) rfl rfl, big_2 (i := 85) rfl rfl⟩
theorem vX5_227 : CwV RX5 227 yX4_standOnAll cX4_standOnAll 6 (none) 2 := ⟨⟨big_2 (i := 94) rfl rfl, big_1 (i := 4) rfl rfl, big_2 (i := 91) rfl rfl, by decide +kernel⟩, big_2 (i := 92) rfl rfl, big_2 (i := 93) rfl rfl⟩
theorem vX5_232 : CwV RX5 232 yX5_isLitBy cX5_isLitBy 3 (some .boolean) 2 := ⟨⟨big_2 (i := 164) rfl rfl, big_1 (i := 1) rfl rfl, big_2 (i := 161) rfl rfl, by decide +kernel⟩, big_2 (i := 163) rfl rfl, big_s (i := 7) rfl rfl⟩
theorem vX5_235 : CwV RX5 235 yX5_firstFallWith cX5_firstFallWith 7 (some .int) 3 := ⟨⟨big_2 (i := 198) rfl rfl, big_1 (i := 1) rfl rfl, big_2 (i := 195) rfl rfl, by decide +kernel⟩, big_2 (i := 197) rfl rfl, big_s (i := 11) rfl rfl⟩
theorem vX5_239 : CwV RX5 239 yX1_growTrees cX1_growTrees 3 (some .boolean) 0 := ⟨⟨big_2 (i := 214) rfl rfl, big_1 (i := 3) rfl rfl, big_2 (i := 211) rfl rfl, by decide +kernel⟩, big_2 (i := 212) rfl rfl, big_2 (i := 213) rfl rfl⟩
theorem vX6_100 : CwS RX6 100 yX6_in cX6_in 3 (some .boolean) 3 := ⟨⟨big_3 (i := 151) rfl rfl, big_1 (i := 8) rfl rfl, big_3 (i := 149) rfl rfl, by decide +kernel⟩, big_3 (i := 150) rfl rfl⟩
theorem vX6_107 : CwS RX6 107 yX6_isDay cX6_isDay 1 (some .boolean) 1 := ⟨⟨big_3 (i := 148) rfl rfl, big_1 (i := 8) rfl rfl, big_3 (i := 146) rfl rfl, by decide +kernel⟩, big_3 (i := 147) rfl rfl⟩
theorem vX6_111 : CwV RX6 111 yX6_refuse cX6_refuse 2 (some .int) 1 := ⟨⟨big_3 (i := 155) rfl rfl, big_1 (i := 8) rfl rfl, big_3 (i := 152) rfl rfl, by decide +kernel⟩, big_3 (i := 154) rfl rfl, big_s (i := 14) rfl rfl⟩
theorem vX6_115 : CwV RX6 115 yX6_isBlock cX6_isBlock 2 (some .boolean) 1 := ⟨⟨big_3 (i := 167) rfl rfl, big_1 (i := 8) rfl rfl, big_3 (i := 164) rfl rfl, by decide +kernel⟩, big_3 (i := 166) rfl rfl, big_s (i := 15) rfl rfl⟩
theorem vX6_118 : CwV RX6 118 yX6_lackOfPlan cX6_lackOfPlan 2 (some .int) 1 := ⟨⟨big_3 (i := 183) rfl rfl, big_1 (i := 8) rfl rfl, big_3 (i := 180) rfl rfl, by decide +kernel⟩, big_3 (i := 182) rfl rfl, big_s (i := 16) rfl rfl⟩
theorem vX6_158 : CwV RX6 158 yX6_bound cX6_bound 8 (none) 4 := ⟨⟨big_4 (i := 3) rfl rfl, big_1 (i := 8) rfl rfl, big_4 (i := 0) rfl rfl, by decide +kernel⟩, big_4 (i := 2) rfl rfl, big_s (i := 26) rfl rfl⟩
theorem vX6_162 : CwV RX6 162 yX6_topOf cX6_topOf 2 (some .int) 1 := ⟨⟨big_4 (i := 7) rfl rfl, big_1 (i := 8) rfl rfl, big_4 (i := 4) rfl rfl, by decide +kernel⟩, big_4 (i := 6) rfl rfl, big_s (i := 27) rfl rfl⟩
theorem vX6_165 : CwV RX6 165 yX6_isInFront cX6_isInFront 4 (some .boolean) 2 := ⟨⟨big_3 (i := 223) rfl rfl, big_1 (i := 8) rfl rfl, big_3 (i := 220) rfl rfl, by decide +kernel⟩, big_3 (i := 222) rfl rfl, big_s (i := 21) rfl rfl⟩
theorem vX6_169 : CwV RX6 169 yX6_show cX6_show 6 (none) 3 := ⟨⟨big_3 (i := 231) rfl rfl, big_1 (i := 8) rfl rfl, big_3 (i := 228) rfl rfl, by decide +kernel⟩, big_3 (i := 230) rfl rfl, big_s (i := 23) rfl rfl⟩
theorem vX6_173 : CwV RX6 173 yX6_isThere cX6_isThere 2 (some .boolean) 1 := ⟨⟨big_3 (i := 235) rfl rfl, big_1 (i := 8) rfl rfl, big_3 (i := 232) rfl rfl, by decide +kernel⟩, big_3 (i := 234) rfl rfl, big_s (i := 24) rfl rfl⟩
theorem vX6_176 : CwV RX6 176 yX6_stands cX6_stands 2 (some .boolean) 1 := ⟨⟨big_3 (i := 239) rfl rfl, big_1 (i := 8) rfl rfl, big_3 (i := 236) rfl rfl, by decide +kernel⟩, big_3 (i := 238) rfl rfl, big_s (i := 25) rfl rfl⟩
theorem vX6_179 : CwV RX6 179 yX6_cellsOf cX6_cellsOf 2 (some .int) 1 := ⟨⟨big_3 (i := 219) rfl rfl, big_1 (i := 8) rfl rfl, big_3 (i := 216) rfl rfl, by decide +kernel⟩, big_3 (i := 218) rfl rfl, big_s (i := 20) rfl rfl⟩
theorem vX6_182 : CwV RX6 182 yX6_lightOf cX6_lightOf 8 (some .int) 4 := ⟨⟨big_3 (i := 227) rfl rfl, big_1 (i := 8) rfl rfl, big_3 (i := 224) rfl rfl, by decide +kernel⟩, big_3 (i := 226) rfl rfl, big_s (i := 22) rfl rfl⟩
theorem vX6_186 : CwV RX6 186 yX6_sunOf cX6_sunOf 6 (some .int) 3 := ⟨⟨big_3 (i := 215) rfl rfl, big_1 (i := 8) rfl rfl, big_3 (i := 212) rfl rfl, by decide +kernel⟩, big_3 (i := 214) rfl rfl, big_s (i := 19) rfl rfl⟩
theorem vX6_190 : CwV RX6 190 yX6_hoursOf cX6_hoursOf 5 (some .int) 2 := ⟨⟨big_4 (i := 36) rfl rfl, big_1 (i := 8) rfl rfl, big_4 (i := 33) rfl rfl, by decide +kernel⟩, big_4 (i := 35) rfl rfl, big_s (i := 30) rfl rfl⟩
theorem vX6_194 : CwV RX6 194 yX6_isWindow cX6_isWindow 2 (some .boolean) 1 := ⟨⟨big_3 (i := 207) rfl rfl, big_1 (i := 8) rfl rfl, big_3 (i := 204) rfl rfl, by decide +kernel⟩, big_3 (i := 206) rfl rfl, big_s (i := 17) rfl rfl⟩
theorem vX6_197 : CwV RX6 197 yX6_isMinute cX6_isMinute 3 (some .boolean) 2 := ⟨⟨big_3 (i := 211) rfl rfl, big_1 (i := 8) rfl rfl, big_3 (i := 208) rfl rfl, by decide +kernel⟩, big_3 (i := 210) rfl rfl, big_s (i := 18) rfl rfl⟩
theorem vX6_200 : CwV RX6 200 yX6_takerOf cX6_takerOf 10 (some .int) 4 := ⟨⟨big_4 (i := 19) rfl rfl, big_1 (i := 8) rfl rfl, big_4 (i := 16) rfl rfl, by decide +kernel⟩, big_4 (i := 18) rfl rfl, big_s (i := 28) rfl rfl⟩
theorem vX6_203 : CwV RX6 203 yX6_refuseBig cX6_refuseBig 2 (some .int) 1 := ⟨⟨big_4 (i := 23) rfl rfl, big_1 (i := 8) rfl rfl, big_4 (i := 20) rfl rfl, by decide +kernel⟩, big_4 (i := 22) rfl rfl, big_s (i := 29) rfl rfl⟩
theorem vX6_206 : CwV RX6 206 yX6_think cX6_think 3 (none) 2 := ⟨⟨big_4 (i := 44) rfl rfl, big_1 (i := 8) rfl rfl, big_4 (i := 41) rfl rfl, by decide +kernel⟩, big_4 (i := 43) rfl rfl, big_s (i := 31) rfl rfl⟩
theorem vX6_210 : CwV RX6 210 yX6_isKept cX6_isKept 2 (some .boolean) 1 := ⟨⟨big_4 (i := 56) rfl rfl, big_1 (i := 8) rfl rfl, big_4 (i := 53) rfl rfl, by decide +kernel⟩, big_4 (i := 55) rfl rfl, big_s (i := 33) rfl rfl⟩
theorem vX6_213 : CwV RX6 213 yX6_fallsOn cX6_fallsOn 3 (some .int) 1 := ⟨⟨big_4 (i := 60) rfl rfl, big_1 (i := 8) rfl rfl, big_4 (i := 57) rfl rfl, by decide +kernel⟩, big_4 (i := 59) rfl rfl, big_s (i := 34) rfl rfl⟩
theorem vX6_216 : CwV RX6 216 yX6_ask cX6_ask 2 (none) 0 := ⟨⟨big_4 (i := 52) rfl rfl, big_1 (i := 8) rfl rfl, big_4 (i := 49) rfl rfl, by decide +kernel⟩, big_4 (i := 51) rfl rfl, big_s (i := 32) rfl rfl⟩
theorem vX6_219 : CwV RX6 219 yX6_firstBreach cX6_firstBreach 6 (some .int) 2 := ⟨⟨big_4 (i := 64) rfl rfl, big_1 (i := 8) rfl rfl, big_4 (i := 61) rfl rfl, by decide +kernel⟩, big_4 (i := 63) rfl rfl, big_s (i := 35) rfl rfl⟩
theorem kJ6_265 : Cond.constant RJ6 265 (1431655765) ∈ lw_big := big_2 (i := 168) rfl rfl
theorem kJ6_266 : Cond.constant RJ6 266 (858993459) ∈ lw_big := big_2 (i := 169) rfl rfl
theorem kJ6_267 : Cond.constant RJ6 267 (252645135) ∈ lw_big := big_2 (i := 170) rfl rfl
theorem kX5_219 : Cond.constant RX5 219 (1000000) ∈ lw_big := big_2 (i := 140) rfl rfl
theorem kX6_96 : Cond.constant RX6 96 (1000000) ∈ lw_big := big_4 (i := 24) rfl rfl
end
section
/-! ===== the 60 cells: SunCourt and what it holds (0 .. 32), SunCourtModel and its rows (33 .. 59) ===== -/
abbrev FSX5 : List (Nat × Nat) := [(2, 1), (2, 4), (2, 12), (2, 22), (2, 26), (2, 30), (2, 31), (2, 32), (0, 0), (0, 0)]
abbrev FSX3 : List (Nat × Nat) := [(2, 2), (2, 3)]
abbrev FSX1 : List (Nat × Nat) := [(0, 0), (2, 5), (2, 6), (2, 7), (2, 8), (2, 9), (2, 10), (2, 11)]
abbrev FSX4 : List (Nat × Nat) := [(0, 0), (2, 13), (2, 14), (2, 15), (2, 16), (2, 17), (2, 18), (2, 19), (2, 20), (2, 21)]
abbrev FSX0 : List (Nat × Nat) := [(2, 23), (2, 24), (2, 25), (0, 0), (0, 0)]
abbrev FSX2 : List (Nat × Nat) := [(0, 0), (2, 27), (2, 28), (2, 29)]
abbrev FSX6 : List (Nat × Nat) := [(2, 34), (2, 35), (2, 36), (2, 37), (2, 38), (0, 0), (0, 0), (0, 0), (2, 39), (2, 40), (2, 41), (2, 42), (2, 43), (2, 44), (2, 45), (2, 46), (2, 47), (2, 48), (2, 49), (0, 0), (2, 50), (2, 51), (2, 52), (2, 53), (2, 54), (2, 55), (2, 56), (2, 57), (2, 58), (0, 0), (0, 0), (0, 0), (0, 0), (0, 0), (0, 0), (1, 0), (0, 0), (0, 0), (0, 0), (0, 0), (0, 0), (0, 0), (2, 59)]
def LAY : List LyE := [.inr (5, FSX5), .inr (3, FSX3), .inl (0, 8), .inl (0, 576), .inr (1, FSX1), .inl (0, 40), .inl (0, 120), .inl (0, 120), .inl (0, 40), .inl (0, 320), .inl (1, 40), .inl (1, 40), .inr (4, FSX4), .inl (0, 20), .inl (0, 20), .inl (0, 20), .inl (0, 20), .inl (0, 20), .inl (0, 20), .inl (0, 20), .inl (0, 20), .inl (1, 20), .inr (0, FSX0), .inl (0, 3), .inl (0, 3), .inl (0, 3), .inr (2, FSX2), .inl (0, 40), .inl (0, 40), .inl (0, 40), .inl (0, 8), .inl (0, 7), .inl (0, 160), .inr (6, FSX6), .inl (0, 8), .inl (0, 192), .inl (0, 192), .inl (0, 192), .inl (0, 8), .inl (0, 40), .inl (0, 40), .inl (0, 40), .inl (0, 40), .inl (0, 40), .inl (0, 40), .inl (0, 40), .inl (0, 40), .inl (0, 320), .inl (1, 40), .inl (1, 40), .inl (0, 20), .inl (0, 20), .inl (0, 20), .inl (0, 20), .inl (0, 20), .inl (0, 20), .inl (0, 20), .inl (1, 20), .inl (0, 7), .inl (1, 20)]
theorem LYX5 : LAY[0]? = some (.inr (5, FSX5)) := rfl
theorem LYX3 : LAY[1]? = some (.inr (3, FSX3)) := rfl
theorem LA2 : LAY[2]? = some (.inl (0, 8)) := rfl
theorem LA3 : LAY[3]? = some (.inl (0, 576)) := rfl
theorem LYX1 : LAY[4]? = some (.inr (1, FSX1)) := rfl
theorem LA5 : LAY[5]? = some (.inl (0, 40)) := rfl
theorem LA6 : LAY[6]? = some (.inl (0, 120)) := rfl
theorem LA7 : LAY[7]? = some (.inl (0, 120)) := rfl
theorem LA8 : LAY[8]? = some (.inl (0, 40)) := rfl
theorem LA9 : LAY[9]? = some (.inl (0, 320)) := rfl
theorem LA10 : LAY[10]? = some (.inl (1, 40)) := rfl
theorem LA11 : LAY[11]? = some (.inl (1, 40)) := rfl
theorem LYX4 : LAY[12]? = some (.inr (4, FSX4)) := rfl
theorem LA13 : LAY[13]? = some (.inl (0, 20)) := rfl
theorem LA14 : LAY[14]? = some (.inl (0, 20)) := rfl
theorem LA15 : LAY[15]? = some (.inl (0, 20)) := rfl
theorem LA16 : LAY[16]? = some (.inl (0, 20)) := rfl
theorem LA17 : LAY[17]? = some (.inl (0, 20)) := rfl
theorem LA18 : LAY[18]? = some (.inl (0, 20)) := rfl
theorem LA19 : LAY[19]? = some (.inl (0, 20)) := rfl
theorem LA20 : LAY[20]? = some (.inl (0, 20)) := rfl
theorem LA21 : LAY[21]? = some (.inl (1, 20)) := rfl
theorem LYX0 : LAY[22]? = some (.inr (0, FSX0)) := rfl
theorem LA23 : LAY[23]? = some (.inl (0, 3)) := rfl
theorem LA24 : LAY[24]? = some (.inl (0, 3)) := rfl
theorem LA25 : LAY[25]? = some (.inl (0, 3)) := rfl
theorem LYX2 : LAY[26]? = some (.inr (2, FSX2)) := rfl
theorem LA27 : LAY[27]? = some (.inl (0, 40)) := rfl
theorem LA28 : LAY[28]? = some (.inl (0, 40)) := rfl
theorem LA29 : LAY[29]? = some (.inl (0, 40)) := rfl
theorem LA30 : LAY[30]? = some (.inl (0, 8)) := rfl
theorem LA31 : LAY[31]? = some (.inl (0, 7)) := rfl
theorem LA32 : LAY[32]? = some (.inl (0, 160)) := rfl
theorem LYX6 : LAY[33]? = some (.inr (6, FSX6)) := rfl
theorem LA34 : LAY[34]? = some (.inl (0, 8)) := rfl
theorem LA35 : LAY[35]? = some (.inl (0, 192)) := rfl
theorem LA36 : LAY[36]? = some (.inl (0, 192)) := rfl
theorem LA37 : LAY[37]? = some (.inl (0, 192)) := rfl
theorem LA38 : LAY[38]? = some (.inl (0, 8)) := rfl
theorem LA39 : LAY[39]? = some (.inl (0, 40)) := rfl
theorem LA40 : LAY[40]? = some (.inl (0, 40)) := rfl
theorem LA41 : LAY[41]? = some (.inl (0, 40)) := rfl
theorem LA42 : LAY[42]? = some (.inl (0, 40)) := rfl
theorem LA43 : LAY[43]? = some (.inl (0, 40)) := rfl
theorem LA44 : LAY[44]? = some (.inl (0, 40)) := rfl
theorem LA45 : LAY[45]? = some (.inl (0, 40)) := rfl
theorem LA46 : LAY[46]? = some (.inl (0, 40)) := rfl
theorem LA47 : LAY[47]? = some (.inl (0, 320)) := rfl
theorem LA48 : LAY[48]? = some (.inl (1, 40)) := rfl
theorem LA49 : LAY[49]? = some (.inl (1, 40)) := rfl
theorem LA50 : LAY[50]? = some (.inl (0, 20)) := rfl
theorem LA51 : LAY[51]? = some (.inl (0, 20)) := rfl
theorem LA52 : LAY[52]? = some (.inl (0, 20)) := rfl
theorem LA53 : LAY[53]? = some (.inl (0, 20)) := rfl
theorem LA54 : LAY[54]? = some (.inl (0, 20)) := rfl
theorem LA55 : LAY[55]? = some (.inl (0, 20)) := rfl
theorem LA56 : LAY[56]? = some (.inl (0, 20)) := rfl
theorem LA57 : LAY[57]? = some (.inl (1, 20)) := rfl
theorem LA58 : LAY[58]? = some (.inl (0, 7)) := rfl
theorem LA59 : LAY[59]? = some (.inl (1, 20)) := rfl
theorem gX0_9 {sc : Option (Nat × (Nat → Int32))} {cc : ByteArray} {nL fr lo pc q : Nat} {L : List (Option Value)} {st : List Value} {σ : St} {E : Option Int32 → St → Prop} (hd : decode cc pc = .ok (.getfield 9, 3)) (hq : pc + 3 = q) (K : Rn LAY sc RX0 cc nL fr lo q L (.ref 23 :: st) σ E) : Rn LAY sc RX0 cc nL fr lo pc L (.ref 22 :: st) σ E := r_getR hd hq fX0_9 LYX0 rfl K
theorem gX0_15 {sc : Option (Nat × (Nat → Int32))} {cc : ByteArray} {nL fr lo pc q : Nat} {L : List (Option Value)} {st : List Value} {σ : St} {E : Option Int32 → St → Prop} (hd : decode cc pc = .ok (.getfield 15, 3)) (hq : pc + 3 = q) (K : Rn LAY sc RX0 cc nL fr lo q L (.ref 24 :: st) σ E) : Rn LAY sc RX0 cc nL fr lo pc L (.ref 22 :: st) σ E := r_getR hd hq fX0_15 LYX0 rfl K
theorem gX0_18 {sc : Option (Nat × (Nat → Int32))} {cc : ByteArray} {nL fr lo pc q : Nat} {L : List (Option Value)} {st : List Value} {σ : St} {E : Option Int32 → St → Prop} (hd : decode cc pc = .ok (.getfield 18, 3)) (hq : pc + 3 = q) (K : Rn LAY sc RX0 cc nL fr lo q L (.ref 25 :: st) σ E) : Rn LAY sc RX0 cc nL fr lo pc L (.ref 22 :: st) σ E := r_getR hd hq fX0_18 LYX0 rfl K
theorem gX0_21 {sc : Option (Nat × (Nat → Int32))} {cc : ByteArray} {nL fr lo pc q : Nat} {L : List (Option Value)} {st : List Value} {σ : St} {E : Option Int32 → St → Prop} (hd : decode cc pc = .ok (.getfield 21, 3)) (hq : pc + 3 = q) (K : Rn LAY sc RX0 cc nL fr lo q L (.int (σ 22 3) :: st) σ E) : Rn LAY sc RX0 cc nL fr lo pc L (.ref 22 :: st) σ E := r_getI hd hq fX0_21 LYX0 rfl K
theorem pX0_21 {sc : Option (Nat × (Nat → Int32))} {cc : ByteArray} {nL fr lo pc q : Nat} {L : List (Option Value)} {st : List Value} {σ : St} {E : Option Int32 → St → Prop} {x : Int32} (hd : decode cc pc = .ok (.putfield 21, 3)) (hq : pc + 3 = q) (K : Rn LAY sc RX0 cc nL fr lo q L (st) (va_up σ 22 (upd (σ 22) 3 x)) E) : Rn LAY sc RX0 cc nL fr lo pc L (.int x :: .ref 22 :: st) σ E := r_putI hd hq fX0_21 LYX0 rfl K
theorem gX0_25 {sc : Option (Nat × (Nat → Int32))} {cc : ByteArray} {nL fr lo pc q : Nat} {L : List (Option Value)} {st : List Value} {σ : St} {E : Option Int32 → St → Prop} (hd : decode cc pc = .ok (.getfield 25, 3)) (hq : pc + 3 = q) (K : Rn LAY sc RX0 cc nL fr lo q L (.int (σ 22 4) :: st) σ E) : Rn LAY sc RX0 cc nL fr lo pc L (.ref 22 :: st) σ E := r_getI hd hq fX0_25 LYX0 rfl K
theorem pX0_25 {sc : Option (Nat × (Nat → Int32))} {cc : ByteArray} {nL fr lo pc q : Nat} {L : List (Option Value)} {st : List Value} {σ : St} {E : Option Int32 → St → Prop} {x : Int32} (hd : decode cc pc = .ok (.putfield 25, 3)) (hq : pc + 3 = q) (K : Rn LAY sc RX0 cc nL fr lo q L (st) (va_up σ 22 (upd (σ 22) 4 x)) E) : Rn LAY sc RX0 cc nL fr lo pc L (.int x :: .ref 22 :: st) σ E := r_putI hd hq fX0_25 LYX0 rfl K
theorem gX0_28 {sc : Option (Nat × (Nat → Int32))} {cc : ByteArray} {nL fr lo pc q : Nat} {L : List (Option Value)} {st : List Value} {σ : St} {E : Option Int32 → St → Prop} (hd : decode cc pc = .ok (.getfield 28, 3)) (hq : pc + 3 = q) (K : Rn LAY sc RX0 cc nL fr lo q L (.ref 6 :: st) σ E) : Rn LAY sc RX0 cc nL fr lo pc L (.ref 4 :: st) σ E := r_getR hd hq fX0_28 LYX1 rfl K
theorem gX0_33 {sc : Option (Nat × (Nat → Int32))} {cc : ByteArray} {nL fr lo pc q : Nat} {L : List (Option Value)} {st : List Value} {σ : St} {E : Option Int32 → St → Prop} (hd : decode cc pc = .ok (.getfield 33, 3)) (hq : pc + 3 = q) (K : Rn LAY sc RX0 cc nL fr lo q L (.ref 7 :: st) σ E) : Rn LAY sc RX0 cc nL fr lo pc L (.ref 4 :: st) σ E := r_getR hd hq fX0_33 LYX1 rfl K
theorem gX1_9 {sc : Option (Nat × (Nat → Int32))} {cc : ByteArray} {nL fr lo pc q : Nat} {L : List (Option Value)} {st : List Value} {σ : St} {E : Option Int32 → St → Prop} (hd : decode cc pc = .ok (.getfield 9, 3)) (hq : pc + 3 = q) (K : Rn LAY sc RX1 cc nL fr lo q L (.int (σ 4 0) :: st) σ E) : Rn LAY sc RX1 cc nL fr lo pc L (.ref 4 :: st) σ E := r_getI hd hq fX1_9 LYX1 rfl K
theorem pX1_9 {sc : Option (Nat × (Nat → Int32))} {cc : ByteArray} {nL fr lo pc q : Nat} {L : List (Option Value)} {st : List Value} {σ : St} {E : Option Int32 → St → Prop} {x : Int32} (hd : decode cc pc = .ok (.putfield 9, 3)) (hq : pc + 3 = q) (K : Rn LAY sc RX1 cc nL fr lo q L (st) (va_up σ 4 (upd (σ 4) 0 x)) E) : Rn LAY sc RX1 cc nL fr lo pc L (.int x :: .ref 4 :: st) σ E := r_putI hd hq fX1_9 LYX1 rfl K
theorem gX1_15 {sc : Option (Nat × (Nat → Int32))} {cc : ByteArray} {nL fr lo pc q : Nat} {L : List (Option Value)} {st : List Value} {σ : St} {E : Option Int32 → St → Prop} (hd : decode cc pc = .ok (.getfield 15, 3)) (hq : pc + 3 = q) (K : Rn LAY sc RX1 cc nL fr lo q L (.ref 5 :: st) σ E) : Rn LAY sc RX1 cc nL fr lo pc L (.ref 4 :: st) σ E := r_getR hd hq fX1_15 LYX1 rfl K
theorem gX1_19 {sc : Option (Nat × (Nat → Int32))} {cc : ByteArray} {nL fr lo pc q : Nat} {L : List (Option Value)} {st : List Value} {σ : St} {E : Option Int32 → St → Prop} (hd : decode cc pc = .ok (.getfield 19, 3)) (hq : pc + 3 = q) (K : Rn LAY sc RX1 cc nL fr lo q L (.ref 6 :: st) σ E) : Rn LAY sc RX1 cc nL fr lo pc L (.ref 4 :: st) σ E := r_getR hd hq fX1_19 LYX1 rfl K
theorem gX1_22 {sc : Option (Nat × (Nat → Int32))} {cc : ByteArray} {nL fr lo pc q : Nat} {L : List (Option Value)} {st : List Value} {σ : St} {E : Option Int32 → St → Prop} (hd : decode cc pc = .ok (.getfield 22, 3)) (hq : pc + 3 = q) (K : Rn LAY sc RX1 cc nL fr lo q L (.ref 7 :: st) σ E) : Rn LAY sc RX1 cc nL fr lo pc L (.ref 4 :: st) σ E := r_getR hd hq fX1_22 LYX1 rfl K
theorem gX1_25 {sc : Option (Nat × (Nat → Int32))} {cc : ByteArray} {nL fr lo pc q : Nat} {L : List (Option Value)} {st : List Value} {σ : St} {E : Option Int32 → St → Prop} (hd : decode cc pc = .ok (.getfield 25, 3)) (hq : pc + 3 = q) (K : Rn LAY sc RX1 cc nL fr lo q L (.ref 8 :: st) σ E) : Rn LAY sc RX1 cc nL fr lo pc L (.ref 4 :: st) σ E := r_getR hd hq fX1_25 LYX1 rfl K
theorem gX1_28 {sc : Option (Nat × (Nat → Int32))} {cc : ByteArray} {nL fr lo pc q : Nat} {L : List (Option Value)} {st : List Value} {σ : St} {E : Option Int32 → St → Prop} (hd : decode cc pc = .ok (.getfield 28, 3)) (hq : pc + 3 = q) (K : Rn LAY sc RX1 cc nL fr lo q L (.ref 9 :: st) σ E) : Rn LAY sc RX1 cc nL fr lo pc L (.ref 4 :: st) σ E := r_getR hd hq fX1_28 LYX1 rfl K
theorem gX1_31 {sc : Option (Nat × (Nat → Int32))} {cc : ByteArray} {nL fr lo pc q : Nat} {L : List (Option Value)} {st : List Value} {σ : St} {E : Option Int32 → St → Prop} (hd : decode cc pc = .ok (.getfield 31, 3)) (hq : pc + 3 = q) (K : Rn LAY sc RX1 cc nL fr lo q L (.ref 10 :: st) σ E) : Rn LAY sc RX1 cc nL fr lo pc L (.ref 4 :: st) σ E := r_getR hd hq fX1_31 LYX1 rfl K
theorem gX1_35 {sc : Option (Nat × (Nat → Int32))} {cc : ByteArray} {nL fr lo pc q : Nat} {L : List (Option Value)} {st : List Value} {σ : St} {E : Option Int32 → St → Prop} (hd : decode cc pc = .ok (.getfield 35, 3)) (hq : pc + 3 = q) (K : Rn LAY sc RX1 cc nL fr lo q L (.ref 11 :: st) σ E) : Rn LAY sc RX1 cc nL fr lo pc L (.ref 4 :: st) σ E := r_getR hd hq fX1_35 LYX1 rfl K
theorem gX2_9 {sc : Option (Nat × (Nat → Int32))} {cc : ByteArray} {nL fr lo pc q : Nat} {L : List (Option Value)} {st : List Value} {σ : St} {E : Option Int32 → St → Prop} (hd : decode cc pc = .ok (.getfield 9, 3)) (hq : pc + 3 = q) (K : Rn LAY sc RX2 cc nL fr lo q L (.int (σ 26 0) :: st) σ E) : Rn LAY sc RX2 cc nL fr lo pc L (.ref 26 :: st) σ E := r_getI hd hq fX2_9 LYX2 rfl K
theorem pX2_9 {sc : Option (Nat × (Nat → Int32))} {cc : ByteArray} {nL fr lo pc q : Nat} {L : List (Option Value)} {st : List Value} {σ : St} {E : Option Int32 → St → Prop} {x : Int32} (hd : decode cc pc = .ok (.putfield 9, 3)) (hq : pc + 3 = q) (K : Rn LAY sc RX2 cc nL fr lo q L (st) (va_up σ 26 (upd (σ 26) 0 x)) E) : Rn LAY sc RX2 cc nL fr lo pc L (.int x :: .ref 26 :: st) σ E := r_putI hd hq fX2_9 LYX2 rfl K
theorem gX2_15 {sc : Option (Nat × (Nat → Int32))} {cc : ByteArray} {nL fr lo pc q : Nat} {L : List (Option Value)} {st : List Value} {σ : St} {E : Option Int32 → St → Prop} (hd : decode cc pc = .ok (.getfield 15, 3)) (hq : pc + 3 = q) (K : Rn LAY sc RX2 cc nL fr lo q L (.ref 27 :: st) σ E) : Rn LAY sc RX2 cc nL fr lo pc L (.ref 26 :: st) σ E := r_getR hd hq fX2_15 LYX2 rfl K
theorem gX2_19 {sc : Option (Nat × (Nat → Int32))} {cc : ByteArray} {nL fr lo pc q : Nat} {L : List (Option Value)} {st : List Value} {σ : St} {E : Option Int32 → St → Prop} (hd : decode cc pc = .ok (.getfield 19, 3)) (hq : pc + 3 = q) (K : Rn LAY sc RX2 cc nL fr lo q L (.ref 28 :: st) σ E) : Rn LAY sc RX2 cc nL fr lo pc L (.ref 26 :: st) σ E := r_getR hd hq fX2_19 LYX2 rfl K
theorem gX2_22 {sc : Option (Nat × (Nat → Int32))} {cc : ByteArray} {nL fr lo pc q : Nat} {L : List (Option Value)} {st : List Value} {σ : St} {E : Option Int32 → St → Prop} (hd : decode cc pc = .ok (.getfield 22, 3)) (hq : pc + 3 = q) (K : Rn LAY sc RX2 cc nL fr lo q L (.ref 29 :: st) σ E) : Rn LAY sc RX2 cc nL fr lo pc L (.ref 26 :: st) σ E := r_getR hd hq fX2_22 LYX2 rfl K
theorem gX2_25 {sc : Option (Nat × (Nat → Int32))} {cc : ByteArray} {nL fr lo pc q : Nat} {L : List (Option Value)} {st : List Value} {σ : St} {E : Option Int32 → St → Prop} (hd : decode cc pc = .ok (.getfield 25, 3)) (hq : pc + 3 = q) (K : Rn LAY sc RX2 cc nL fr lo q L (.int (σ 4 0) :: st) σ E) : Rn LAY sc RX2 cc nL fr lo pc L (.ref 4 :: st) σ E := r_getI hd hq fX2_25 LYX1 rfl K
theorem pX2_25 {sc : Option (Nat × (Nat → Int32))} {cc : ByteArray} {nL fr lo pc q : Nat} {L : List (Option Value)} {st : List Value} {σ : St} {E : Option Int32 → St → Prop} {x : Int32} (hd : decode cc pc = .ok (.putfield 25, 3)) (hq : pc + 3 = q) (K : Rn LAY sc RX2 cc nL fr lo q L (st) (va_up σ 4 (upd (σ 4) 0 x)) E) : Rn LAY sc RX2 cc nL fr lo pc L (.int x :: .ref 4 :: st) σ E := r_putI hd hq fX2_25 LYX1 rfl K
theorem gX2_28 {sc : Option (Nat × (Nat → Int32))} {cc : ByteArray} {nL fr lo pc q : Nat} {L : List (Option Value)} {st : List Value} {σ : St} {E : Option Int32 → St → Prop} (hd : decode cc pc = .ok (.getfield 28, 3)) (hq : pc + 3 = q) (K : Rn LAY sc RX2 cc nL fr lo q L (.ref 9 :: st) σ E) : Rn LAY sc RX2 cc nL fr lo pc L (.ref 4 :: st) σ E := r_getR hd hq fX2_28 LYX1 rfl K
theorem gX2_35 {sc : Option (Nat × (Nat → Int32))} {cc : ByteArray} {nL fr lo pc q : Nat} {L : List (Option Value)} {st : List Value} {σ : St} {E : Option Int32 → St → Prop} (hd : decode cc pc = .ok (.getfield 35, 3)) (hq : pc + 3 = q) (K : Rn LAY sc RX2 cc nL fr lo q L (.ref 10 :: st) σ E) : Rn LAY sc RX2 cc nL fr lo pc L (.ref 4 :: st) σ E := r_getR hd hq fX2_35 LYX1 rfl K
theorem gX2_45 {sc : Option (Nat × (Nat → Int32))} {cc : ByteArray} {nL fr lo pc q : Nat} {L : List (Option Value)} {st : List Value} {σ : St} {E : Option Int32 → St → Prop} (hd : decode cc pc = .ok (.getfield 45, 3)) (hq : pc + 3 = q) (K : Rn LAY sc RX2 cc nL fr lo q L (.int (σ 22 3) :: st) σ E) : Rn LAY sc RX2 cc nL fr lo pc L (.ref 22 :: st) σ E := r_getI hd hq fX2_45 LYX0 rfl K
theorem pX2_45 {sc : Option (Nat × (Nat → Int32))} {cc : ByteArray} {nL fr lo pc q : Nat} {L : List (Option Value)} {st : List Value} {σ : St} {E : Option Int32 → St → Prop} {x : Int32} (hd : decode cc pc = .ok (.putfield 45, 3)) (hq : pc + 3 = q) (K : Rn LAY sc RX2 cc nL fr lo q L (st) (va_up σ 22 (upd (σ 22) 3 x)) E) : Rn LAY sc RX2 cc nL fr lo pc L (.int x :: .ref 22 :: st) σ E := r_putI hd hq fX2_45 LYX0 rfl K
theorem gX2_48 {sc : Option (Nat × (Nat → Int32))} {cc : ByteArray} {nL fr lo pc q : Nat} {L : List (Option Value)} {st : List Value} {σ : St} {E : Option Int32 → St → Prop} (hd : decode cc pc = .ok (.getfield 48, 3)) (hq : pc + 3 = q) (K : Rn LAY sc RX2 cc nL fr lo q L (.int (σ 22 4) :: st) σ E) : Rn LAY sc RX2 cc nL fr lo pc L (.ref 22 :: st) σ E := r_getI hd hq fX2_48 LYX0 rfl K
theorem pX2_48 {sc : Option (Nat × (Nat → Int32))} {cc : ByteArray} {nL fr lo pc q : Nat} {L : List (Option Value)} {st : List Value} {σ : St} {E : Option Int32 → St → Prop} {x : Int32} (hd : decode cc pc = .ok (.putfield 48, 3)) (hq : pc + 3 = q) (K : Rn LAY sc RX2 cc nL fr lo q L (st) (va_up σ 22 (upd (σ 22) 4 x)) E) : Rn LAY sc RX2 cc nL fr lo pc L (.int x :: .ref 22 :: st) σ E := r_putI hd hq fX2_48 LYX0 rfl K
theorem gX3_9 {sc : Option (Nat × (Nat → Int32))} {cc : ByteArray} {nL fr lo pc q : Nat} {L : List (Option Value)} {st : List Value} {σ : St} {E : Option Int32 → St → Prop} (hd : decode cc pc = .ok (.getfield 9, 3)) (hq : pc + 3 = q) (K : Rn LAY sc RX3 cc nL fr lo q L (.ref 2 :: st) σ E) : Rn LAY sc RX3 cc nL fr lo pc L (.ref 1 :: st) σ E := r_getR hd hq fX3_9 LYX3 rfl K
theorem gX3_15 {sc : Option (Nat × (Nat → Int32))} {cc : ByteArray} {nL fr lo pc q : Nat} {L : List (Option Value)} {st : List Value} {σ : St} {E : Option Int32 → St → Prop} (hd : decode cc pc = .ok (.getfield 15, 3)) (hq : pc + 3 = q) (K : Rn LAY sc RX3 cc nL fr lo q L (.ref 3 :: st) σ E) : Rn LAY sc RX3 cc nL fr lo pc L (.ref 1 :: st) σ E := r_getR hd hq fX3_15 LYX3 rfl K
theorem gX3_22 {sc : Option (Nat × (Nat → Int32))} {cc : ByteArray} {nL fr lo pc q : Nat} {L : List (Option Value)} {st : List Value} {σ : St} {E : Option Int32 → St → Prop} (hd : decode cc pc = .ok (.getfield 22, 3)) (hq : pc + 3 = q) (K : Rn LAY sc RX3 cc nL fr lo q L (.ref 23 :: st) σ E) : Rn LAY sc RX3 cc nL fr lo pc L (.ref 22 :: st) σ E := r_getR hd hq fX3_22 LYX0 rfl K
theorem gX4_9 {sc : Option (Nat × (Nat → Int32))} {cc : ByteArray} {nL fr lo pc q : Nat} {L : List (Option Value)} {st : List Value} {σ : St} {E : Option Int32 → St → Prop} (hd : decode cc pc = .ok (.getfield 9, 3)) (hq : pc + 3 = q) (K : Rn LAY sc RX4 cc nL fr lo q L (.int (σ 12 0) :: st) σ E) : Rn LAY sc RX4 cc nL fr lo pc L (.ref 12 :: st) σ E := r_getI hd hq fX4_9 LYX4 rfl K
theorem pX4_9 {sc : Option (Nat × (Nat → Int32))} {cc : ByteArray} {nL fr lo pc q : Nat} {L : List (Option Value)} {st : List Value} {σ : St} {E : Option Int32 → St → Prop} {x : Int32} (hd : decode cc pc = .ok (.putfield 9, 3)) (hq : pc + 3 = q) (K : Rn LAY sc RX4 cc nL fr lo q L (st) (va_up σ 12 (upd (σ 12) 0 x)) E) : Rn LAY sc RX4 cc nL fr lo pc L (.int x :: .ref 12 :: st) σ E := r_putI hd hq fX4_9 LYX4 rfl K
theorem gX4_15 {sc : Option (Nat × (Nat → Int32))} {cc : ByteArray} {nL fr lo pc q : Nat} {L : List (Option Value)} {st : List Value} {σ : St} {E : Option Int32 → St → Prop} (hd : decode cc pc = .ok (.getfield 15, 3)) (hq : pc + 3 = q) (K : Rn LAY sc RX4 cc nL fr lo q L (.ref 13 :: st) σ E) : Rn LAY sc RX4 cc nL fr lo pc L (.ref 12 :: st) σ E := r_getR hd hq fX4_15 LYX4 rfl K
theorem gX4_19 {sc : Option (Nat × (Nat → Int32))} {cc : ByteArray} {nL fr lo pc q : Nat} {L : List (Option Value)} {st : List Value} {σ : St} {E : Option Int32 → St → Prop} (hd : decode cc pc = .ok (.getfield 19, 3)) (hq : pc + 3 = q) (K : Rn LAY sc RX4 cc nL fr lo q L (.ref 14 :: st) σ E) : Rn LAY sc RX4 cc nL fr lo pc L (.ref 12 :: st) σ E := r_getR hd hq fX4_19 LYX4 rfl K
theorem gX4_22 {sc : Option (Nat × (Nat → Int32))} {cc : ByteArray} {nL fr lo pc q : Nat} {L : List (Option Value)} {st : List Value} {σ : St} {E : Option Int32 → St → Prop} (hd : decode cc pc = .ok (.getfield 22, 3)) (hq : pc + 3 = q) (K : Rn LAY sc RX4 cc nL fr lo q L (.ref 15 :: st) σ E) : Rn LAY sc RX4 cc nL fr lo pc L (.ref 12 :: st) σ E := r_getR hd hq fX4_22 LYX4 rfl K
theorem gX4_25 {sc : Option (Nat × (Nat → Int32))} {cc : ByteArray} {nL fr lo pc q : Nat} {L : List (Option Value)} {st : List Value} {σ : St} {E : Option Int32 → St → Prop} (hd : decode cc pc = .ok (.getfield 25, 3)) (hq : pc + 3 = q) (K : Rn LAY sc RX4 cc nL fr lo q L (.ref 16 :: st) σ E) : Rn LAY sc RX4 cc nL fr lo pc L (.ref 12 :: st) σ E := r_getR hd hq fX4_25 LYX4 rfl K
theorem gX4_28 {sc : Option (Nat × (Nat → Int32))} {cc : ByteArray} {nL fr lo pc q : Nat} {L : List (Option Value)} {st : List Value} {σ : St} {E : Option Int32 → St → Prop} (hd : decode cc pc = .ok (.getfield 28, 3)) (hq : pc + 3 = q) (K : Rn LAY sc RX4 cc nL fr lo q L (.ref 17 :: st) σ E) : Rn LAY sc RX4 cc nL fr lo pc L (.ref 12 :: st) σ E := r_getR hd hq fX4_28 LYX4 rfl K
theorem gX4_31 {sc : Option (Nat × (Nat → Int32))} {cc : ByteArray} {nL fr lo pc q : Nat} {L : List (Option Value)} {st : List Value} {σ : St} {E : Option Int32 → St → Prop} (hd : decode cc pc = .ok (.getfield 31, 3)) (hq : pc + 3 = q) (K : Rn LAY sc RX4 cc nL fr lo q L (.ref 18 :: st) σ E) : Rn LAY sc RX4 cc nL fr lo pc L (.ref 12 :: st) σ E := r_getR hd hq fX4_31 LYX4 rfl K
theorem gX4_34 {sc : Option (Nat × (Nat → Int32))} {cc : ByteArray} {nL fr lo pc q : Nat} {L : List (Option Value)} {st : List Value} {σ : St} {E : Option Int32 → St → Prop} (hd : decode cc pc = .ok (.getfield 34, 3)) (hq : pc + 3 = q) (K : Rn LAY sc RX4 cc nL fr lo q L (.ref 19 :: st) σ E) : Rn LAY sc RX4 cc nL fr lo pc L (.ref 12 :: st) σ E := r_getR hd hq fX4_34 LYX4 rfl K
theorem gX4_37 {sc : Option (Nat × (Nat → Int32))} {cc : ByteArray} {nL fr lo pc q : Nat} {L : List (Option Value)} {st : List Value} {σ : St} {E : Option Int32 → St → Prop} (hd : decode cc pc = .ok (.getfield 37, 3)) (hq : pc + 3 = q) (K : Rn LAY sc RX4 cc nL fr lo q L (.ref 20 :: st) σ E) : Rn LAY sc RX4 cc nL fr lo pc L (.ref 12 :: st) σ E := r_getR hd hq fX4_37 LYX4 rfl K
theorem gX4_40 {sc : Option (Nat × (Nat → Int32))} {cc : ByteArray} {nL fr lo pc q : Nat} {L : List (Option Value)} {st : List Value} {σ : St} {E : Option Int32 → St → Prop} (hd : decode cc pc = .ok (.getfield 40, 3)) (hq : pc + 3 = q) (K : Rn LAY sc RX4 cc nL fr lo q L (.ref 21 :: st) σ E) : Rn LAY sc RX4 cc nL fr lo pc L (.ref 12 :: st) σ E := r_getR hd hq fX4_40 LYX4 rfl K
theorem gX4_55 {sc : Option (Nat × (Nat → Int32))} {cc : ByteArray} {nL fr lo pc q : Nat} {L : List (Option Value)} {st : List Value} {σ : St} {E : Option Int32 → St → Prop} (hd : decode cc pc = .ok (.getfield 55, 3)) (hq : pc + 3 = q) (K : Rn LAY sc RX4 cc nL fr lo q L (.ref 23 :: st) σ E) : Rn LAY sc RX4 cc nL fr lo pc L (.ref 22 :: st) σ E := r_getR hd hq fX4_55 LYX0 rfl K
theorem gX5_10 {sc : Option (Nat × (Nat → Int32))} {cc : ByteArray} {nL fr lo pc q : Nat} {L : List (Option Value)} {st : List Value} {σ : St} {E : Option Int32 → St → Prop} (hd : decode cc pc = .ok (.getfield 10, 3)) (hq : pc + 3 = q) (K : Rn LAY sc RX5 cc nL fr lo q L (.ref 1 :: st) σ E) : Rn LAY sc RX5 cc nL fr lo pc L (.ref 0 :: st) σ E := r_getR hd hq fX5_10 LYX5 rfl K
theorem gX5_19 {sc : Option (Nat × (Nat → Int32))} {cc : ByteArray} {nL fr lo pc q : Nat} {L : List (Option Value)} {st : List Value} {σ : St} {E : Option Int32 → St → Prop} (hd : decode cc pc = .ok (.getfield 19, 3)) (hq : pc + 3 = q) (K : Rn LAY sc RX5 cc nL fr lo q L (.ref 4 :: st) σ E) : Rn LAY sc RX5 cc nL fr lo pc L (.ref 0 :: st) σ E := r_getR hd hq fX5_19 LYX5 rfl K
theorem gX5_26 {sc : Option (Nat × (Nat → Int32))} {cc : ByteArray} {nL fr lo pc q : Nat} {L : List (Option Value)} {st : List Value} {σ : St} {E : Option Int32 → St → Prop} (hd : decode cc pc = .ok (.getfield 26, 3)) (hq : pc + 3 = q) (K : Rn LAY sc RX5 cc nL fr lo q L (.ref 12 :: st) σ E) : Rn LAY sc RX5 cc nL fr lo pc L (.ref 0 :: st) σ E := r_getR hd hq fX5_26 LYX5 rfl K
theorem gX5_33 {sc : Option (Nat × (Nat → Int32))} {cc : ByteArray} {nL fr lo pc q : Nat} {L : List (Option Value)} {st : List Value} {σ : St} {E : Option Int32 → St → Prop} (hd : decode cc pc = .ok (.getfield 33, 3)) (hq : pc + 3 = q) (K : Rn LAY sc RX5 cc nL fr lo q L (.ref 22 :: st) σ E) : Rn LAY sc RX5 cc nL fr lo pc L (.ref 0 :: st) σ E := r_getR hd hq fX5_33 LYX5 rfl K
theorem gX5_40 {sc : Option (Nat × (Nat → Int32))} {cc : ByteArray} {nL fr lo pc q : Nat} {L : List (Option Value)} {st : List Value} {σ : St} {E : Option Int32 → St → Prop} (hd : decode cc pc = .ok (.getfield 40, 3)) (hq : pc + 3 = q) (K : Rn LAY sc RX5 cc nL fr lo q L (.ref 26 :: st) σ E) : Rn LAY sc RX5 cc nL fr lo pc L (.ref 0 :: st) σ E := r_getR hd hq fX5_40 LYX5 rfl K
theorem gX5_44 {sc : Option (Nat × (Nat → Int32))} {cc : ByteArray} {nL fr lo pc q : Nat} {L : List (Option Value)} {st : List Value} {σ : St} {E : Option Int32 → St → Prop} (hd : decode cc pc = .ok (.getfield 44, 3)) (hq : pc + 3 = q) (K : Rn LAY sc RX5 cc nL fr lo q L (.ref 30 :: st) σ E) : Rn LAY sc RX5 cc nL fr lo pc L (.ref 0 :: st) σ E := r_getR hd hq fX5_44 LYX5 rfl K
theorem gX5_48 {sc : Option (Nat × (Nat → Int32))} {cc : ByteArray} {nL fr lo pc q : Nat} {L : List (Option Value)} {st : List Value} {σ : St} {E : Option Int32 → St → Prop} (hd : decode cc pc = .ok (.getfield 48, 3)) (hq : pc + 3 = q) (K : Rn LAY sc RX5 cc nL fr lo q L (.ref 31 :: st) σ E) : Rn LAY sc RX5 cc nL fr lo pc L (.ref 0 :: st) σ E := r_getR hd hq fX5_48 LYX5 rfl K
theorem gX5_51 {sc : Option (Nat × (Nat → Int32))} {cc : ByteArray} {nL fr lo pc q : Nat} {L : List (Option Value)} {st : List Value} {σ : St} {E : Option Int32 → St → Prop} (hd : decode cc pc = .ok (.getfield 51, 3)) (hq : pc + 3 = q) (K : Rn LAY sc RX5 cc nL fr lo q L (.ref 32 :: st) σ E) : Rn LAY sc RX5 cc nL fr lo pc L (.ref 0 :: st) σ E := r_getR hd hq fX5_51 LYX5 rfl K
theorem gX5_54 {sc : Option (Nat × (Nat → Int32))} {cc : ByteArray} {nL fr lo pc q : Nat} {L : List (Option Value)} {st : List Value} {σ : St} {E : Option Int32 → St → Prop} (hd : decode cc pc = .ok (.getfield 54, 3)) (hq : pc + 3 = q) (K : Rn LAY sc RX5 cc nL fr lo q L (.int (σ 0 8) :: st) σ E) : Rn LAY sc RX5 cc nL fr lo pc L (.ref 0 :: st) σ E := r_getI hd hq fX5_54 LYX5 rfl K
theorem pX5_54 {sc : Option (Nat × (Nat → Int32))} {cc : ByteArray} {nL fr lo pc q : Nat} {L : List (Option Value)} {st : List Value} {σ : St} {E : Option Int32 → St → Prop} {x : Int32} (hd : decode cc pc = .ok (.putfield 54, 3)) (hq : pc + 3 = q) (K : Rn LAY sc RX5 cc nL fr lo q L (st) (va_up σ 0 (upd (σ 0) 8 x)) E) : Rn LAY sc RX5 cc nL fr lo pc L (.int x :: .ref 0 :: st) σ E := r_putI hd hq fX5_54 LYX5 rfl K
theorem gX5_58 {sc : Option (Nat × (Nat → Int32))} {cc : ByteArray} {nL fr lo pc q : Nat} {L : List (Option Value)} {st : List Value} {σ : St} {E : Option Int32 → St → Prop} (hd : decode cc pc = .ok (.getfield 58, 3)) (hq : pc + 3 = q) (K : Rn LAY sc RX5 cc nL fr lo q L (.int (σ 0 9) :: st) σ E) : Rn LAY sc RX5 cc nL fr lo pc L (.ref 0 :: st) σ E := r_getI hd hq fX5_58 LYX5 rfl K
theorem pX5_58 {sc : Option (Nat × (Nat → Int32))} {cc : ByteArray} {nL fr lo pc q : Nat} {L : List (Option Value)} {st : List Value} {σ : St} {E : Option Int32 → St → Prop} {x : Int32} (hd : decode cc pc = .ok (.putfield 58, 3)) (hq : pc + 3 = q) (K : Rn LAY sc RX5 cc nL fr lo q L (st) (va_up σ 0 (upd (σ 0) 9 x)) E) : Rn LAY sc RX5 cc nL fr lo pc L (.int x :: .ref 0 :: st) σ E := r_putI hd hq fX5_58 LYX5 rfl K
theorem gX5_94 {sc : Option (Nat × (Nat → Int32))} {cc : ByteArray} {nL fr lo pc q : Nat} {L : List (Option Value)} {st : List Value} {σ : St} {E : Option Int32 → St → Prop} (hd : decode cc pc = .ok (.getfield 94, 3)) (hq : pc + 3 = q) (K : Rn LAY sc RX5 cc nL fr lo q L (.ref 9 :: st) σ E) : Rn LAY sc RX5 cc nL fr lo pc L (.ref 4 :: st) σ E := r_getR hd hq fX5_94 LYX1 rfl K
theorem gX5_100 {sc : Option (Nat × (Nat → Int32))} {cc : ByteArray} {nL fr lo pc q : Nat} {L : List (Option Value)} {st : List Value} {σ : St} {E : Option Int32 → St → Prop} (hd : decode cc pc = .ok (.getfield 100, 3)) (hq : pc + 3 = q) (K : Rn LAY sc RX5 cc nL fr lo q L (.ref 8 :: st) σ E) : Rn LAY sc RX5 cc nL fr lo pc L (.ref 4 :: st) σ E := r_getR hd hq fX5_100 LYX1 rfl K
theorem gX5_103 {sc : Option (Nat × (Nat → Int32))} {cc : ByteArray} {nL fr lo pc q : Nat} {L : List (Option Value)} {st : List Value} {σ : St} {E : Option Int32 → St → Prop} (hd : decode cc pc = .ok (.getfield 103, 3)) (hq : pc + 3 = q) (K : Rn LAY sc RX5 cc nL fr lo q L (.ref 11 :: st) σ E) : Rn LAY sc RX5 cc nL fr lo pc L (.ref 4 :: st) σ E := r_getR hd hq fX5_103 LYX1 rfl K
theorem gX5_117 {sc : Option (Nat × (Nat → Int32))} {cc : ByteArray} {nL fr lo pc q : Nat} {L : List (Option Value)} {st : List Value} {σ : St} {E : Option Int32 → St → Prop} (hd : decode cc pc = .ok (.getfield 117, 3)) (hq : pc + 3 = q) (K : Rn LAY sc RX5 cc nL fr lo q L (.ref 10 :: st) σ E) : Rn LAY sc RX5 cc nL fr lo pc L (.ref 4 :: st) σ E := r_getR hd hq fX5_117 LYX1 rfl K
theorem gX5_160 {sc : Option (Nat × (Nat → Int32))} {cc : ByteArray} {nL fr lo pc q : Nat} {L : List (Option Value)} {st : List Value} {σ : St} {E : Option Int32 → St → Prop} (hd : decode cc pc = .ok (.getfield 160, 3)) (hq : pc + 3 = q) (K : Rn LAY sc RX5 cc nL fr lo q L (.ref 2 :: st) σ E) : Rn LAY sc RX5 cc nL fr lo pc L (.ref 1 :: st) σ E := r_getR hd hq fX5_160 LYX3 rfl K
theorem gX5_184 {sc : Option (Nat × (Nat → Int32))} {cc : ByteArray} {nL fr lo pc q : Nat} {L : List (Option Value)} {st : List Value} {σ : St} {E : Option Int32 → St → Prop} (hd : decode cc pc = .ok (.getfield 184, 3)) (hq : pc + 3 = q) (K : Rn LAY sc RX5 cc nL fr lo q L (.ref 21 :: st) σ E) : Rn LAY sc RX5 cc nL fr lo pc L (.ref 12 :: st) σ E := r_getR hd hq fX5_184 LYX4 rfl K
theorem gX5_187 {sc : Option (Nat × (Nat → Int32))} {cc : ByteArray} {nL fr lo pc q : Nat} {L : List (Option Value)} {st : List Value} {σ : St} {E : Option Int32 → St → Prop} (hd : decode cc pc = .ok (.getfield 187, 3)) (hq : pc + 3 = q) (K : Rn LAY sc RX5 cc nL fr lo q L (.ref 5 :: st) σ E) : Rn LAY sc RX5 cc nL fr lo pc L (.ref 4 :: st) σ E := r_getR hd hq fX5_187 LYX1 rfl K
theorem gX5_190 {sc : Option (Nat × (Nat → Int32))} {cc : ByteArray} {nL fr lo pc q : Nat} {L : List (Option Value)} {st : List Value} {σ : St} {E : Option Int32 → St → Prop} (hd : decode cc pc = .ok (.getfield 190, 3)) (hq : pc + 3 = q) (K : Rn LAY sc RX5 cc nL fr lo q L (.ref 13 :: st) σ E) : Rn LAY sc RX5 cc nL fr lo pc L (.ref 12 :: st) σ E := r_getR hd hq fX5_190 LYX4 rfl K
theorem gX5_196 {sc : Option (Nat × (Nat → Int32))} {cc : ByteArray} {nL fr lo pc q : Nat} {L : List (Option Value)} {st : List Value} {σ : St} {E : Option Int32 → St → Prop} (hd : decode cc pc = .ok (.getfield 196, 3)) (hq : pc + 3 = q) (K : Rn LAY sc RX5 cc nL fr lo q L (.ref 20 :: st) σ E) : Rn LAY sc RX5 cc nL fr lo pc L (.ref 12 :: st) σ E := r_getR hd hq fX5_196 LYX4 rfl K
theorem gX5_205 {sc : Option (Nat × (Nat → Int32))} {cc : ByteArray} {nL fr lo pc q : Nat} {L : List (Option Value)} {st : List Value} {σ : St} {E : Option Int32 → St → Prop} (hd : decode cc pc = .ok (.getfield 205, 3)) (hq : pc + 3 = q) (K : Rn LAY sc RX5 cc nL fr lo q L (.int (σ 4 0) :: st) σ E) : Rn LAY sc RX5 cc nL fr lo pc L (.ref 4 :: st) σ E := r_getI hd hq fX5_205 LYX1 rfl K
theorem pX5_205 {sc : Option (Nat × (Nat → Int32))} {cc : ByteArray} {nL fr lo pc q : Nat} {L : List (Option Value)} {st : List Value} {σ : St} {E : Option Int32 → St → Prop} {x : Int32} (hd : decode cc pc = .ok (.putfield 205, 3)) (hq : pc + 3 = q) (K : Rn LAY sc RX5 cc nL fr lo q L (st) (va_up σ 4 (upd (σ 4) 0 x)) E) : Rn LAY sc RX5 cc nL fr lo pc L (.int x :: .ref 4 :: st) σ E := r_putI hd hq fX5_205 LYX1 rfl K
theorem gX5_208 {sc : Option (Nat × (Nat → Int32))} {cc : ByteArray} {nL fr lo pc q : Nat} {L : List (Option Value)} {st : List Value} {σ : St} {E : Option Int32 → St → Prop} (hd : decode cc pc = .ok (.getfield 208, 3)) (hq : pc + 3 = q) (K : Rn LAY sc RX5 cc nL fr lo q L (.int (σ 12 0) :: st) σ E) : Rn LAY sc RX5 cc nL fr lo pc L (.ref 12 :: st) σ E := r_getI hd hq fX5_208 LYX4 rfl K
theorem pX5_208 {sc : Option (Nat × (Nat → Int32))} {cc : ByteArray} {nL fr lo pc q : Nat} {L : List (Option Value)} {st : List Value} {σ : St} {E : Option Int32 → St → Prop} {x : Int32} (hd : decode cc pc = .ok (.putfield 208, 3)) (hq : pc + 3 = q) (K : Rn LAY sc RX5 cc nL fr lo q L (st) (va_up σ 12 (upd (σ 12) 0 x)) E) : Rn LAY sc RX5 cc nL fr lo pc L (.int x :: .ref 12 :: st) σ E := r_putI hd hq fX5_208 LYX4 rfl K
theorem gX5_231 {sc : Option (Nat × (Nat → Int32))} {cc : ByteArray} {nL fr lo pc q : Nat} {L : List (Option Value)} {st : List Value} {σ : St} {E : Option Int32 → St → Prop} (hd : decode cc pc = .ok (.getfield 231, 3)) (hq : pc + 3 = q) (K : Rn LAY sc RX5 cc nL fr lo q L (.int (σ 26 0) :: st) σ E) : Rn LAY sc RX5 cc nL fr lo pc L (.ref 26 :: st) σ E := r_getI hd hq fX5_231 LYX2 rfl K
theorem pX5_231 {sc : Option (Nat × (Nat → Int32))} {cc : ByteArray} {nL fr lo pc q : Nat} {L : List (Option Value)} {st : List Value} {σ : St} {E : Option Int32 → St → Prop} {x : Int32} (hd : decode cc pc = .ok (.putfield 231, 3)) (hq : pc + 3 = q) (K : Rn LAY sc RX5 cc nL fr lo q L (st) (va_up σ 26 (upd (σ 26) 0 x)) E) : Rn LAY sc RX5 cc nL fr lo pc L (.int x :: .ref 26 :: st) σ E := r_putI hd hq fX5_231 LYX2 rfl K
theorem gX6_7 {sc : Option (Nat × (Nat → Int32))} {cc : ByteArray} {nL fr lo pc q : Nat} {L : List (Option Value)} {st : List Value} {σ : St} {E : Option Int32 → St → Prop} (hd : decode cc pc = .ok (.getfield 7, 3)) (hq : pc + 3 = q) (K : Rn LAY sc RX6 cc nL fr lo q L (.ref 34 :: st) σ E) : Rn LAY sc RX6 cc nL fr lo pc L (.ref 33 :: st) σ E := r_getR hd hq fX6_7 LYX6 rfl K
theorem gX6_13 {sc : Option (Nat × (Nat → Int32))} {cc : ByteArray} {nL fr lo pc q : Nat} {L : List (Option Value)} {st : List Value} {σ : St} {E : Option Int32 → St → Prop} (hd : decode cc pc = .ok (.getfield 13, 3)) (hq : pc + 3 = q) (K : Rn LAY sc RX6 cc nL fr lo q L (.ref 35 :: st) σ E) : Rn LAY sc RX6 cc nL fr lo pc L (.ref 33 :: st) σ E := r_getR hd hq fX6_13 LYX6 rfl K
theorem gX6_16 {sc : Option (Nat × (Nat → Int32))} {cc : ByteArray} {nL fr lo pc q : Nat} {L : List (Option Value)} {st : List Value} {σ : St} {E : Option Int32 → St → Prop} (hd : decode cc pc = .ok (.getfield 16, 3)) (hq : pc + 3 = q) (K : Rn LAY sc RX6 cc nL fr lo q L (.ref 36 :: st) σ E) : Rn LAY sc RX6 cc nL fr lo pc L (.ref 33 :: st) σ E := r_getR hd hq fX6_16 LYX6 rfl K
theorem gX6_19 {sc : Option (Nat × (Nat → Int32))} {cc : ByteArray} {nL fr lo pc q : Nat} {L : List (Option Value)} {st : List Value} {σ : St} {E : Option Int32 → St → Prop} (hd : decode cc pc = .ok (.getfield 19, 3)) (hq : pc + 3 = q) (K : Rn LAY sc RX6 cc nL fr lo q L (.ref 37 :: st) σ E) : Rn LAY sc RX6 cc nL fr lo pc L (.ref 33 :: st) σ E := r_getR hd hq fX6_19 LYX6 rfl K
theorem gX6_22 {sc : Option (Nat × (Nat → Int32))} {cc : ByteArray} {nL fr lo pc q : Nat} {L : List (Option Value)} {st : List Value} {σ : St} {E : Option Int32 → St → Prop} (hd : decode cc pc = .ok (.getfield 22, 3)) (hq : pc + 3 = q) (K : Rn LAY sc RX6 cc nL fr lo q L (.ref 38 :: st) σ E) : Rn LAY sc RX6 cc nL fr lo pc L (.ref 33 :: st) σ E := r_getR hd hq fX6_22 LYX6 rfl K
theorem gX6_25 {sc : Option (Nat × (Nat → Int32))} {cc : ByteArray} {nL fr lo pc q : Nat} {L : List (Option Value)} {st : List Value} {σ : St} {E : Option Int32 → St → Prop} (hd : decode cc pc = .ok (.getfield 25, 3)) (hq : pc + 3 = q) (K : Rn LAY sc RX6 cc nL fr lo q L (.int (σ 33 5) :: st) σ E) : Rn LAY sc RX6 cc nL fr lo pc L (.ref 33 :: st) σ E := r_getI hd hq fX6_25 LYX6 rfl K
theorem pX6_25 {sc : Option (Nat × (Nat → Int32))} {cc : ByteArray} {nL fr lo pc q : Nat} {L : List (Option Value)} {st : List Value} {σ : St} {E : Option Int32 → St → Prop} {x : Int32} (hd : decode cc pc = .ok (.putfield 25, 3)) (hq : pc + 3 = q) (K : Rn LAY sc RX6 cc nL fr lo q L (st) (va_up σ 33 (upd (σ 33) 5 x)) E) : Rn LAY sc RX6 cc nL fr lo pc L (.int x :: .ref 33 :: st) σ E := r_putI hd hq fX6_25 LYX6 rfl K
theorem gX6_29 {sc : Option (Nat × (Nat → Int32))} {cc : ByteArray} {nL fr lo pc q : Nat} {L : List (Option Value)} {st : List Value} {σ : St} {E : Option Int32 → St → Prop} (hd : decode cc pc = .ok (.getfield 29, 3)) (hq : pc + 3 = q) (K : Rn LAY sc RX6 cc nL fr lo q L (.ref 39 :: st) σ E) : Rn LAY sc RX6 cc nL fr lo pc L (.ref 33 :: st) σ E := r_getR hd hq fX6_29 LYX6 rfl K
theorem gX6_32 {sc : Option (Nat × (Nat → Int32))} {cc : ByteArray} {nL fr lo pc q : Nat} {L : List (Option Value)} {st : List Value} {σ : St} {E : Option Int32 → St → Prop} (hd : decode cc pc = .ok (.getfield 32, 3)) (hq : pc + 3 = q) (K : Rn LAY sc RX6 cc nL fr lo q L (.ref 40 :: st) σ E) : Rn LAY sc RX6 cc nL fr lo pc L (.ref 33 :: st) σ E := r_getR hd hq fX6_32 LYX6 rfl K
theorem gX6_35 {sc : Option (Nat × (Nat → Int32))} {cc : ByteArray} {nL fr lo pc q : Nat} {L : List (Option Value)} {st : List Value} {σ : St} {E : Option Int32 → St → Prop} (hd : decode cc pc = .ok (.getfield 35, 3)) (hq : pc + 3 = q) (K : Rn LAY sc RX6 cc nL fr lo q L (.ref 41 :: st) σ E) : Rn LAY sc RX6 cc nL fr lo pc L (.ref 33 :: st) σ E := r_getR hd hq fX6_35 LYX6 rfl K
theorem gX6_38 {sc : Option (Nat × (Nat → Int32))} {cc : ByteArray} {nL fr lo pc q : Nat} {L : List (Option Value)} {st : List Value} {σ : St} {E : Option Int32 → St → Prop} (hd : decode cc pc = .ok (.getfield 38, 3)) (hq : pc + 3 = q) (K : Rn LAY sc RX6 cc nL fr lo q L (.ref 42 :: st) σ E) : Rn LAY sc RX6 cc nL fr lo pc L (.ref 33 :: st) σ E := r_getR hd hq fX6_38 LYX6 rfl K
theorem gX6_41 {sc : Option (Nat × (Nat → Int32))} {cc : ByteArray} {nL fr lo pc q : Nat} {L : List (Option Value)} {st : List Value} {σ : St} {E : Option Int32 → St → Prop} (hd : decode cc pc = .ok (.getfield 41, 3)) (hq : pc + 3 = q) (K : Rn LAY sc RX6 cc nL fr lo q L (.ref 43 :: st) σ E) : Rn LAY sc RX6 cc nL fr lo pc L (.ref 33 :: st) σ E := r_getR hd hq fX6_41 LYX6 rfl K
theorem gX6_44 {sc : Option (Nat × (Nat → Int32))} {cc : ByteArray} {nL fr lo pc q : Nat} {L : List (Option Value)} {st : List Value} {σ : St} {E : Option Int32 → St → Prop} (hd : decode cc pc = .ok (.getfield 44, 3)) (hq : pc + 3 = q) (K : Rn LAY sc RX6 cc nL fr lo q L (.ref 44 :: st) σ E) : Rn LAY sc RX6 cc nL fr lo pc L (.ref 33 :: st) σ E := r_getR hd hq fX6_44 LYX6 rfl K
theorem gX6_47 {sc : Option (Nat × (Nat → Int32))} {cc : ByteArray} {nL fr lo pc q : Nat} {L : List (Option Value)} {st : List Value} {σ : St} {E : Option Int32 → St → Prop} (hd : decode cc pc = .ok (.getfield 47, 3)) (hq : pc + 3 = q) (K : Rn LAY sc RX6 cc nL fr lo q L (.ref 45 :: st) σ E) : Rn LAY sc RX6 cc nL fr lo pc L (.ref 33 :: st) σ E := r_getR hd hq fX6_47 LYX6 rfl K
theorem gX6_50 {sc : Option (Nat × (Nat → Int32))} {cc : ByteArray} {nL fr lo pc q : Nat} {L : List (Option Value)} {st : List Value} {σ : St} {E : Option Int32 → St → Prop} (hd : decode cc pc = .ok (.getfield 50, 3)) (hq : pc + 3 = q) (K : Rn LAY sc RX6 cc nL fr lo q L (.ref 46 :: st) σ E) : Rn LAY sc RX6 cc nL fr lo pc L (.ref 33 :: st) σ E := r_getR hd hq fX6_50 LYX6 rfl K
theorem gX6_53 {sc : Option (Nat × (Nat → Int32))} {cc : ByteArray} {nL fr lo pc q : Nat} {L : List (Option Value)} {st : List Value} {σ : St} {E : Option Int32 → St → Prop} (hd : decode cc pc = .ok (.getfield 53, 3)) (hq : pc + 3 = q) (K : Rn LAY sc RX6 cc nL fr lo q L (.ref 47 :: st) σ E) : Rn LAY sc RX6 cc nL fr lo pc L (.ref 33 :: st) σ E := r_getR hd hq fX6_53 LYX6 rfl K
theorem gX6_56 {sc : Option (Nat × (Nat → Int32))} {cc : ByteArray} {nL fr lo pc q : Nat} {L : List (Option Value)} {st : List Value} {σ : St} {E : Option Int32 → St → Prop} (hd : decode cc pc = .ok (.getfield 56, 3)) (hq : pc + 3 = q) (K : Rn LAY sc RX6 cc nL fr lo q L (.ref 48 :: st) σ E) : Rn LAY sc RX6 cc nL fr lo pc L (.ref 33 :: st) σ E := r_getR hd hq fX6_56 LYX6 rfl K
theorem gX6_60 {sc : Option (Nat × (Nat → Int32))} {cc : ByteArray} {nL fr lo pc q : Nat} {L : List (Option Value)} {st : List Value} {σ : St} {E : Option Int32 → St → Prop} (hd : decode cc pc = .ok (.getfield 60, 3)) (hq : pc + 3 = q) (K : Rn LAY sc RX6 cc nL fr lo q L (.ref 49 :: st) σ E) : Rn LAY sc RX6 cc nL fr lo pc L (.ref 33 :: st) σ E := r_getR hd hq fX6_60 LYX6 rfl K
theorem gX6_63 {sc : Option (Nat × (Nat → Int32))} {cc : ByteArray} {nL fr lo pc q : Nat} {L : List (Option Value)} {st : List Value} {σ : St} {E : Option Int32 → St → Prop} (hd : decode cc pc = .ok (.getfield 63, 3)) (hq : pc + 3 = q) (K : Rn LAY sc RX6 cc nL fr lo q L (.ref 50 :: st) σ E) : Rn LAY sc RX6 cc nL fr lo pc L (.ref 33 :: st) σ E := r_getR hd hq fX6_63 LYX6 rfl K
theorem gX6_66 {sc : Option (Nat × (Nat → Int32))} {cc : ByteArray} {nL fr lo pc q : Nat} {L : List (Option Value)} {st : List Value} {σ : St} {E : Option Int32 → St → Prop} (hd : decode cc pc = .ok (.getfield 66, 3)) (hq : pc + 3 = q) (K : Rn LAY sc RX6 cc nL fr lo q L (.ref 51 :: st) σ E) : Rn LAY sc RX6 cc nL fr lo pc L (.ref 33 :: st) σ E := r_getR hd hq fX6_66 LYX6 rfl K
theorem gX6_69 {sc : Option (Nat × (Nat → Int32))} {cc : ByteArray} {nL fr lo pc q : Nat} {L : List (Option Value)} {st : List Value} {σ : St} {E : Option Int32 → St → Prop} (hd : decode cc pc = .ok (.getfield 69, 3)) (hq : pc + 3 = q) (K : Rn LAY sc RX6 cc nL fr lo q L (.ref 52 :: st) σ E) : Rn LAY sc RX6 cc nL fr lo pc L (.ref 33 :: st) σ E := r_getR hd hq fX6_69 LYX6 rfl K
theorem gX6_72 {sc : Option (Nat × (Nat → Int32))} {cc : ByteArray} {nL fr lo pc q : Nat} {L : List (Option Value)} {st : List Value} {σ : St} {E : Option Int32 → St → Prop} (hd : decode cc pc = .ok (.getfield 72, 3)) (hq : pc + 3 = q) (K : Rn LAY sc RX6 cc nL fr lo q L (.ref 53 :: st) σ E) : Rn LAY sc RX6 cc nL fr lo pc L (.ref 33 :: st) σ E := r_getR hd hq fX6_72 LYX6 rfl K
theorem gX6_75 {sc : Option (Nat × (Nat → Int32))} {cc : ByteArray} {nL fr lo pc q : Nat} {L : List (Option Value)} {st : List Value} {σ : St} {E : Option Int32 → St → Prop} (hd : decode cc pc = .ok (.getfield 75, 3)) (hq : pc + 3 = q) (K : Rn LAY sc RX6 cc nL fr lo q L (.ref 54 :: st) σ E) : Rn LAY sc RX6 cc nL fr lo pc L (.ref 33 :: st) σ E := r_getR hd hq fX6_75 LYX6 rfl K
theorem gX6_78 {sc : Option (Nat × (Nat → Int32))} {cc : ByteArray} {nL fr lo pc q : Nat} {L : List (Option Value)} {st : List Value} {σ : St} {E : Option Int32 → St → Prop} (hd : decode cc pc = .ok (.getfield 78, 3)) (hq : pc + 3 = q) (K : Rn LAY sc RX6 cc nL fr lo q L (.ref 55 :: st) σ E) : Rn LAY sc RX6 cc nL fr lo pc L (.ref 33 :: st) σ E := r_getR hd hq fX6_78 LYX6 rfl K
theorem gX6_81 {sc : Option (Nat × (Nat → Int32))} {cc : ByteArray} {nL fr lo pc q : Nat} {L : List (Option Value)} {st : List Value} {σ : St} {E : Option Int32 → St → Prop} (hd : decode cc pc = .ok (.getfield 81, 3)) (hq : pc + 3 = q) (K : Rn LAY sc RX6 cc nL fr lo q L (.ref 56 :: st) σ E) : Rn LAY sc RX6 cc nL fr lo pc L (.ref 33 :: st) σ E := r_getR hd hq fX6_81 LYX6 rfl K
theorem gX6_84 {sc : Option (Nat × (Nat → Int32))} {cc : ByteArray} {nL fr lo pc q : Nat} {L : List (Option Value)} {st : List Value} {σ : St} {E : Option Int32 → St → Prop} (hd : decode cc pc = .ok (.getfield 84, 3)) (hq : pc + 3 = q) (K : Rn LAY sc RX6 cc nL fr lo q L (.ref 57 :: st) σ E) : Rn LAY sc RX6 cc nL fr lo pc L (.ref 33 :: st) σ E := r_getR hd hq fX6_84 LYX6 rfl K
theorem gX6_87 {sc : Option (Nat × (Nat → Int32))} {cc : ByteArray} {nL fr lo pc q : Nat} {L : List (Option Value)} {st : List Value} {σ : St} {E : Option Int32 → St → Prop} (hd : decode cc pc = .ok (.getfield 87, 3)) (hq : pc + 3 = q) (K : Rn LAY sc RX6 cc nL fr lo q L (.ref 58 :: st) σ E) : Rn LAY sc RX6 cc nL fr lo pc L (.ref 33 :: st) σ E := r_getR hd hq fX6_87 LYX6 rfl K
theorem gX6_90 {sc : Option (Nat × (Nat → Int32))} {cc : ByteArray} {nL fr lo pc q : Nat} {L : List (Option Value)} {st : List Value} {σ : St} {E : Option Int32 → St → Prop} (hd : decode cc pc = .ok (.getfield 90, 3)) (hq : pc + 3 = q) (K : Rn LAY sc RX6 cc nL fr lo q L (.int (σ 33 29) :: st) σ E) : Rn LAY sc RX6 cc nL fr lo pc L (.ref 33 :: st) σ E := r_getI hd hq fX6_90 LYX6 rfl K
theorem pX6_90 {sc : Option (Nat × (Nat → Int32))} {cc : ByteArray} {nL fr lo pc q : Nat} {L : List (Option Value)} {st : List Value} {σ : St} {E : Option Int32 → St → Prop} {x : Int32} (hd : decode cc pc = .ok (.putfield 90, 3)) (hq : pc + 3 = q) (K : Rn LAY sc RX6 cc nL fr lo q L (st) (va_up σ 33 (upd (σ 33) 29 x)) E) : Rn LAY sc RX6 cc nL fr lo pc L (.int x :: .ref 33 :: st) σ E := r_putI hd hq fX6_90 LYX6 rfl K
theorem gX6_93 {sc : Option (Nat × (Nat → Int32))} {cc : ByteArray} {nL fr lo pc q : Nat} {L : List (Option Value)} {st : List Value} {σ : St} {E : Option Int32 → St → Prop} (hd : decode cc pc = .ok (.getfield 93, 3)) (hq : pc + 3 = q) (K : Rn LAY sc RX6 cc nL fr lo q L (.ref 59 :: st) σ E) : Rn LAY sc RX6 cc nL fr lo pc L (.ref 33 :: st) σ E := r_getR hd hq fX6_93 LYX6 rfl K
theorem gX6_97 {sc : Option (Nat × (Nat → Int32))} {cc : ByteArray} {nL fr lo pc q : Nat} {L : List (Option Value)} {st : List Value} {σ : St} {E : Option Int32 → St → Prop} (hd : decode cc pc = .ok (.getfield 97, 3)) (hq : pc + 3 = q) (K : Rn LAY sc RX6 cc nL fr lo q L (.int (σ 33 7) :: st) σ E) : Rn LAY sc RX6 cc nL fr lo pc L (.ref 33 :: st) σ E := r_getI hd hq fX6_97 LYX6 rfl K
theorem pX6_97 {sc : Option (Nat × (Nat → Int32))} {cc : ByteArray} {nL fr lo pc q : Nat} {L : List (Option Value)} {st : List Value} {σ : St} {E : Option Int32 → St → Prop} {x : Int32} (hd : decode cc pc = .ok (.putfield 97, 3)) (hq : pc + 3 = q) (K : Rn LAY sc RX6 cc nL fr lo q L (st) (va_up σ 33 (upd (σ 33) 7 x)) E) : Rn LAY sc RX6 cc nL fr lo pc L (.int x :: .ref 33 :: st) σ E := r_putI hd hq fX6_97 LYX6 rfl K
theorem gX6_104 {sc : Option (Nat × (Nat → Int32))} {cc : ByteArray} {nL fr lo pc q : Nat} {L : List (Option Value)} {st : List Value} {σ : St} {E : Option Int32 → St → Prop} (hd : decode cc pc = .ok (.getfield 104, 3)) (hq : pc + 3 = q) (K : Rn LAY sc RX6 cc nL fr lo q L (.int (σ 33 19) :: st) σ E) : Rn LAY sc RX6 cc nL fr lo pc L (.ref 33 :: st) σ E := r_getI hd hq fX6_104 LYX6 rfl K
theorem pX6_104 {sc : Option (Nat × (Nat → Int32))} {cc : ByteArray} {nL fr lo pc q : Nat} {L : List (Option Value)} {st : List Value} {σ : St} {E : Option Int32 → St → Prop} {x : Int32} (hd : decode cc pc = .ok (.putfield 104, 3)) (hq : pc + 3 = q) (K : Rn LAY sc RX6 cc nL fr lo q L (st) (va_up σ 33 (upd (σ 33) 19 x)) E) : Rn LAY sc RX6 cc nL fr lo pc L (.int x :: .ref 33 :: st) σ E := r_putI hd hq fX6_104 LYX6 rfl K
theorem gX6_121 {sc : Option (Nat × (Nat → Int32))} {cc : ByteArray} {nL fr lo pc q : Nat} {L : List (Option Value)} {st : List Value} {σ : St} {E : Option Int32 → St → Prop} (hd : decode cc pc = .ok (.getfield 121, 3)) (hq : pc + 3 = q) (K : Rn LAY sc RX6 cc nL fr lo q L (.int (σ 33 30) :: st) σ E) : Rn LAY sc RX6 cc nL fr lo pc L (.ref 33 :: st) σ E := r_getI hd hq fX6_121 LYX6 rfl K
theorem pX6_121 {sc : Option (Nat × (Nat → Int32))} {cc : ByteArray} {nL fr lo pc q : Nat} {L : List (Option Value)} {st : List Value} {σ : St} {E : Option Int32 → St → Prop} {x : Int32} (hd : decode cc pc = .ok (.putfield 121, 3)) (hq : pc + 3 = q) (K : Rn LAY sc RX6 cc nL fr lo q L (st) (va_up σ 33 (upd (σ 33) 30 x)) E) : Rn LAY sc RX6 cc nL fr lo pc L (.int x :: .ref 33 :: st) σ E := r_putI hd hq fX6_121 LYX6 rfl K
theorem gX6_124 {sc : Option (Nat × (Nat → Int32))} {cc : ByteArray} {nL fr lo pc q : Nat} {L : List (Option Value)} {st : List Value} {σ : St} {E : Option Int32 → St → Prop} (hd : decode cc pc = .ok (.getfield 124, 3)) (hq : pc + 3 = q) (K : Rn LAY sc RX6 cc nL fr lo q L (.int (σ 33 36) :: st) σ E) : Rn LAY sc RX6 cc nL fr lo pc L (.ref 33 :: st) σ E := r_getI hd hq fX6_124 LYX6 rfl K
theorem pX6_124 {sc : Option (Nat × (Nat → Int32))} {cc : ByteArray} {nL fr lo pc q : Nat} {L : List (Option Value)} {st : List Value} {σ : St} {E : Option Int32 → St → Prop} {x : Int32} (hd : decode cc pc = .ok (.putfield 124, 3)) (hq : pc + 3 = q) (K : Rn LAY sc RX6 cc nL fr lo q L (st) (va_up σ 33 (upd (σ 33) 36 x)) E) : Rn LAY sc RX6 cc nL fr lo pc L (.int x :: .ref 33 :: st) σ E := r_putI hd hq fX6_124 LYX6 rfl K
theorem gX6_127 {sc : Option (Nat × (Nat → Int32))} {cc : ByteArray} {nL fr lo pc q : Nat} {L : List (Option Value)} {st : List Value} {σ : St} {E : Option Int32 → St → Prop} (hd : decode cc pc = .ok (.getfield 127, 3)) (hq : pc + 3 = q) (K : Rn LAY sc RX6 cc nL fr lo q L (.int (σ 33 37) :: st) σ E) : Rn LAY sc RX6 cc nL fr lo pc L (.ref 33 :: st) σ E := r_getI hd hq fX6_127 LYX6 rfl K
theorem pX6_127 {sc : Option (Nat × (Nat → Int32))} {cc : ByteArray} {nL fr lo pc q : Nat} {L : List (Option Value)} {st : List Value} {σ : St} {E : Option Int32 → St → Prop} {x : Int32} (hd : decode cc pc = .ok (.putfield 127, 3)) (hq : pc + 3 = q) (K : Rn LAY sc RX6 cc nL fr lo q L (st) (va_up σ 33 (upd (σ 33) 37 x)) E) : Rn LAY sc RX6 cc nL fr lo pc L (.int x :: .ref 33 :: st) σ E := r_putI hd hq fX6_127 LYX6 rfl K
theorem gX6_130 {sc : Option (Nat × (Nat → Int32))} {cc : ByteArray} {nL fr lo pc q : Nat} {L : List (Option Value)} {st : List Value} {σ : St} {E : Option Int32 → St → Prop} (hd : decode cc pc = .ok (.getfield 130, 3)) (hq : pc + 3 = q) (K : Rn LAY sc RX6 cc nL fr lo q L (.int (σ 33 38) :: st) σ E) : Rn LAY sc RX6 cc nL fr lo pc L (.ref 33 :: st) σ E := r_getI hd hq fX6_130 LYX6 rfl K
theorem pX6_130 {sc : Option (Nat × (Nat → Int32))} {cc : ByteArray} {nL fr lo pc q : Nat} {L : List (Option Value)} {st : List Value} {σ : St} {E : Option Int32 → St → Prop} {x : Int32} (hd : decode cc pc = .ok (.putfield 130, 3)) (hq : pc + 3 = q) (K : Rn LAY sc RX6 cc nL fr lo q L (st) (va_up σ 33 (upd (σ 33) 38 x)) E) : Rn LAY sc RX6 cc nL fr lo pc L (.int x :: .ref 33 :: st) σ E := r_putI hd hq fX6_130 LYX6 rfl K
theorem gX6_133 {sc : Option (Nat × (Nat → Int32))} {cc : ByteArray} {nL fr lo pc q : Nat} {L : List (Option Value)} {st : List Value} {σ : St} {E : Option Int32 → St → Prop} (hd : decode cc pc = .ok (.getfield 133, 3)) (hq : pc + 3 = q) (K : Rn LAY sc RX6 cc nL fr lo q L (.int (σ 33 39) :: st) σ E) : Rn LAY sc RX6 cc nL fr lo pc L (.ref 33 :: st) σ E := r_getI hd hq fX6_133 LYX6 rfl K
theorem pX6_133 {sc : Option (Nat × (Nat → Int32))} {cc : ByteArray} {nL fr lo pc q : Nat} {L : List (Option Value)} {st : List Value} {σ : St} {E : Option Int32 → St → Prop} {x : Int32} (hd : decode cc pc = .ok (.putfield 133, 3)) (hq : pc + 3 = q) (K : Rn LAY sc RX6 cc nL fr lo q L (st) (va_up σ 33 (upd (σ 33) 39 x)) E) : Rn LAY sc RX6 cc nL fr lo pc L (.int x :: .ref 33 :: st) σ E := r_putI hd hq fX6_133 LYX6 rfl K
theorem gX6_136 {sc : Option (Nat × (Nat → Int32))} {cc : ByteArray} {nL fr lo pc q : Nat} {L : List (Option Value)} {st : List Value} {σ : St} {E : Option Int32 → St → Prop} (hd : decode cc pc = .ok (.getfield 136, 3)) (hq : pc + 3 = q) (K : Rn LAY sc RX6 cc nL fr lo q L (.int (σ 33 40) :: st) σ E) : Rn LAY sc RX6 cc nL fr lo pc L (.ref 33 :: st) σ E := r_getI hd hq fX6_136 LYX6 rfl K
theorem pX6_136 {sc : Option (Nat × (Nat → Int32))} {cc : ByteArray} {nL fr lo pc q : Nat} {L : List (Option Value)} {st : List Value} {σ : St} {E : Option Int32 → St → Prop} {x : Int32} (hd : decode cc pc = .ok (.putfield 136, 3)) (hq : pc + 3 = q) (K : Rn LAY sc RX6 cc nL fr lo q L (st) (va_up σ 33 (upd (σ 33) 40 x)) E) : Rn LAY sc RX6 cc nL fr lo pc L (.int x :: .ref 33 :: st) σ E := r_putI hd hq fX6_136 LYX6 rfl K
theorem gX6_139 {sc : Option (Nat × (Nat → Int32))} {cc : ByteArray} {nL fr lo pc q : Nat} {L : List (Option Value)} {st : List Value} {σ : St} {E : Option Int32 → St → Prop} (hd : decode cc pc = .ok (.getfield 139, 3)) (hq : pc + 3 = q) (K : Rn LAY sc RX6 cc nL fr lo q L (.int (σ 33 41) :: st) σ E) : Rn LAY sc RX6 cc nL fr lo pc L (.ref 33 :: st) σ E := r_getI hd hq fX6_139 LYX6 rfl K
theorem pX6_139 {sc : Option (Nat × (Nat → Int32))} {cc : ByteArray} {nL fr lo pc q : Nat} {L : List (Option Value)} {st : List Value} {σ : St} {E : Option Int32 → St → Prop} {x : Int32} (hd : decode cc pc = .ok (.putfield 139, 3)) (hq : pc + 3 = q) (K : Rn LAY sc RX6 cc nL fr lo q L (st) (va_up σ 33 (upd (σ 33) 41 x)) E) : Rn LAY sc RX6 cc nL fr lo pc L (.int x :: .ref 33 :: st) σ E := r_putI hd hq fX6_139 LYX6 rfl K
theorem gX6_142 {sc : Option (Nat × (Nat → Int32))} {cc : ByteArray} {nL fr lo pc q : Nat} {L : List (Option Value)} {st : List Value} {σ : St} {E : Option Int32 → St → Prop} (hd : decode cc pc = .ok (.getfield 142, 3)) (hq : pc + 3 = q) (K : Rn LAY sc RX6 cc nL fr lo q L (.int (σ 33 35) :: st) σ E) : Rn LAY sc RX6 cc nL fr lo pc L (.ref 33 :: st) σ E := r_getZ hd hq fX6_142 LYX6 rfl K
theorem pX6_142 {sc : Option (Nat × (Nat → Int32))} {cc : ByteArray} {nL fr lo pc q : Nat} {L : List (Option Value)} {st : List Value} {σ : St} {E : Option Int32 → St → Prop} {x : Int32} (hd : decode cc pc = .ok (.putfield 142, 3)) (hq : pc + 3 = q) (hx : x = 0 ∨ x = 1) (K : Rn LAY sc RX6 cc nL fr lo q L (st) (va_up σ 33 (upd (σ 33) 35 x)) E) : Rn LAY sc RX6 cc nL fr lo pc L (.int x :: .ref 33 :: st) σ E := r_putZ hd hq fX6_142 LYX6 rfl hx K
theorem gX6_146 {sc : Option (Nat × (Nat → Int32))} {cc : ByteArray} {nL fr lo pc q : Nat} {L : List (Option Value)} {st : List Value} {σ : St} {E : Option Int32 → St → Prop} (hd : decode cc pc = .ok (.getfield 146, 3)) (hq : pc + 3 = q) (K : Rn LAY sc RX6 cc nL fr lo q L (.int (σ 33 32) :: st) σ E) : Rn LAY sc RX6 cc nL fr lo pc L (.ref 33 :: st) σ E := r_getI hd hq fX6_146 LYX6 rfl K
theorem pX6_146 {sc : Option (Nat × (Nat → Int32))} {cc : ByteArray} {nL fr lo pc q : Nat} {L : List (Option Value)} {st : List Value} {σ : St} {E : Option Int32 → St → Prop} {x : Int32} (hd : decode cc pc = .ok (.putfield 146, 3)) (hq : pc + 3 = q) (K : Rn LAY sc RX6 cc nL fr lo q L (st) (va_up σ 33 (upd (σ 33) 32 x)) E) : Rn LAY sc RX6 cc nL fr lo pc L (.int x :: .ref 33 :: st) σ E := r_putI hd hq fX6_146 LYX6 rfl K
theorem gX6_149 {sc : Option (Nat × (Nat → Int32))} {cc : ByteArray} {nL fr lo pc q : Nat} {L : List (Option Value)} {st : List Value} {σ : St} {E : Option Int32 → St → Prop} (hd : decode cc pc = .ok (.getfield 149, 3)) (hq : pc + 3 = q) (K : Rn LAY sc RX6 cc nL fr lo q L (.int (σ 33 31) :: st) σ E) : Rn LAY sc RX6 cc nL fr lo pc L (.ref 33 :: st) σ E := r_getI hd hq fX6_149 LYX6 rfl K
theorem pX6_149 {sc : Option (Nat × (Nat → Int32))} {cc : ByteArray} {nL fr lo pc q : Nat} {L : List (Option Value)} {st : List Value} {σ : St} {E : Option Int32 → St → Prop} {x : Int32} (hd : decode cc pc = .ok (.putfield 149, 3)) (hq : pc + 3 = q) (K : Rn LAY sc RX6 cc nL fr lo q L (st) (va_up σ 33 (upd (σ 33) 31 x)) E) : Rn LAY sc RX6 cc nL fr lo pc L (.int x :: .ref 33 :: st) σ E := r_putI hd hq fX6_149 LYX6 rfl K
theorem gX6_152 {sc : Option (Nat × (Nat → Int32))} {cc : ByteArray} {nL fr lo pc q : Nat} {L : List (Option Value)} {st : List Value} {σ : St} {E : Option Int32 → St → Prop} (hd : decode cc pc = .ok (.getfield 152, 3)) (hq : pc + 3 = q) (K : Rn LAY sc RX6 cc nL fr lo q L (.int (σ 33 34) :: st) σ E) : Rn LAY sc RX6 cc nL fr lo pc L (.ref 33 :: st) σ E := r_getI hd hq fX6_152 LYX6 rfl K
theorem pX6_152 {sc : Option (Nat × (Nat → Int32))} {cc : ByteArray} {nL fr lo pc q : Nat} {L : List (Option Value)} {st : List Value} {σ : St} {E : Option Int32 → St → Prop} {x : Int32} (hd : decode cc pc = .ok (.putfield 152, 3)) (hq : pc + 3 = q) (K : Rn LAY sc RX6 cc nL fr lo q L (st) (va_up σ 33 (upd (σ 33) 34 x)) E) : Rn LAY sc RX6 cc nL fr lo pc L (.int x :: .ref 33 :: st) σ E := r_putI hd hq fX6_152 LYX6 rfl K
theorem gX6_155 {sc : Option (Nat × (Nat → Int32))} {cc : ByteArray} {nL fr lo pc q : Nat} {L : List (Option Value)} {st : List Value} {σ : St} {E : Option Int32 → St → Prop} (hd : decode cc pc = .ok (.getfield 155, 3)) (hq : pc + 3 = q) (K : Rn LAY sc RX6 cc nL fr lo q L (.int (σ 33 33) :: st) σ E) : Rn LAY sc RX6 cc nL fr lo pc L (.ref 33 :: st) σ E := r_getI hd hq fX6_155 LYX6 rfl K
theorem pX6_155 {sc : Option (Nat × (Nat → Int32))} {cc : ByteArray} {nL fr lo pc q : Nat} {L : List (Option Value)} {st : List Value} {σ : St} {E : Option Int32 → St → Prop} {x : Int32} (hd : decode cc pc = .ok (.putfield 155, 3)) (hq : pc + 3 = q) (K : Rn LAY sc RX6 cc nL fr lo q L (st) (va_up σ 33 (upd (σ 33) 33 x)) E) : Rn LAY sc RX6 cc nL fr lo pc L (.int x :: .ref 33 :: st) σ E := r_putI hd hq fX6_155 LYX6 rfl K
theorem gX6_222 {sc : Option (Nat × (Nat → Int32))} {cc : ByteArray} {nL fr lo pc q : Nat} {L : List (Option Value)} {st : List Value} {σ : St} {E : Option Int32 → St → Prop} (hd : decode cc pc = .ok (.getfield 222, 3)) (hq : pc + 3 = q) (K : Rn LAY sc RX6 cc nL fr lo q L (.int (σ 33 6) :: st) σ E) : Rn LAY sc RX6 cc nL fr lo pc L (.ref 33 :: st) σ E := r_getI hd hq fX6_222 LYX6 rfl K
theorem pX6_222 {sc : Option (Nat × (Nat → Int32))} {cc : ByteArray} {nL fr lo pc q : Nat} {L : List (Option Value)} {st : List Value} {σ : St} {E : Option Int32 → St → Prop} {x : Int32} (hd : decode cc pc = .ok (.putfield 222, 3)) (hq : pc + 3 = q) (K : Rn LAY sc RX6 cc nL fr lo q L (st) (va_up σ 33 (upd (σ 33) 6 x)) E) : Rn LAY sc RX6 cc nL fr lo pc L (.int x :: .ref 33 :: st) σ E := r_putI hd hq fX6_222 LYX6 rfl K
/-! ===== ends of methods, and calls by their ends ===== -/
def EI (P : Int32 → St → Prop) : Option Int32 → St → Prop := fun r τ => ∃ v, r = some v ∧ P v τ
def EV (P : St → Prop) : Option Int32 → St → Prop := fun r τ => r = none ∧ P τ
theorem EI.ok {P : Int32 → St → Prop} : ∀ r τ, EI P r τ → retOk (some .int) r := by
  rintro r τ ⟨v, rfl, -⟩
  trivial
theorem EV.ok {P : St → Prop} : ∀ r τ, EV P r τ → retOk none r := by
  rintro r τ ⟨rfl, -⟩
  trivial
theorem EI.okZ {P : Int32 → St → Prop} (h : ∀ v τ, P v τ → v = 0 ∨ v = 1) : ∀ r τ, EI P r τ → retOk (some .boolean) r := by
  rintro r τ ⟨v, rfl, hv⟩
  exact h v τ hv
section CALLI
variable {sc : Option (Nat × (Nat → Int32))} {own : String} {cc : ByteArray} {nL fr lo pc q : Nat} {L : List (Option Value)} {st : List Value} {σ : St} {E : Option Int32 → St → Prop}
theorem r_retI {P : Int32 → St → Prop} {x : Int32} {ly : List LyE} (hd : decode cc pc = .ok (.ireturn, 1)) (h : P x σ) : Rn ly sc own cc nL fr lo pc L [.int x] σ (EI P) := r_ret hd ⟨x, rfl, h⟩
theorem r_retV {P : St → Prop} {ly : List LyE} (hd : decode cc pc = .ok (.return_, 1)) (h : P σ) : Rn ly sc own cc nL fr lo pc L [] σ (EV P) := r_void hd ⟨rfl, h⟩
theorem r_cI0 {y : MethodName} {cc' : ByteArray} {nL' fr' lo' idx k ci : Nat} {ret : Option FieldType} {fs : List (Nat × Nat)} {T : u_T} {N : Nat} {P : Int32 → St → Prop} (cw : CwV own idx y cc' nL' ret 0) (hd : decode cc pc = .ok (.invokevirtual idx, 3)) (hq : pc + 3 = q) (hly : LAY[k]? = some (.inr (ci, fs))) (hcl : vwCl[ci]? = some (y.cls, T, N)) (hst : st.length ≤ 8) (hf : fr' + 1 ≤ fr) (hl : 8 + (nL' + 11) + lo' ≤ lo) (hM : Cl LAY y cc' nL' ret fr' lo' (.ref k :: []) σ (EI P)) (K : ∀ v τ, P v τ → Rn LAY sc own cc nL fr lo q L (.int v :: st) τ E) : Rn LAY sc own cc nL fr lo pc L (.ref k :: st) σ E := r_callV0 hM cw hd hq hly hcl hst hf hl (by
  rintro r τ ⟨v, rfl, h⟩
  exact K v τ h)
theorem r_cV0 {y : MethodName} {cc' : ByteArray} {nL' fr' lo' idx k ci : Nat} {ret : Option FieldType} {fs : List (Nat × Nat)} {T : u_T} {N : Nat} {P : St → Prop} (cw : CwV own idx y cc' nL' ret 0) (hd : decode cc pc = .ok (.invokevirtual idx, 3)) (hq : pc + 3 = q) (hly : LAY[k]? = some (.inr (ci, fs))) (hcl : vwCl[ci]? = some (y.cls, T, N)) (hst : st.length ≤ 8) (hf : fr' + 1 ≤ fr) (hl : 8 + (nL' + 11) + lo' ≤ lo) (hM : Cl LAY y cc' nL' ret fr' lo' (.ref k :: []) σ (EV P)) (K : ∀ τ, P τ → Rn LAY sc own cc nL fr lo q L st τ E) : Rn LAY sc own cc nL fr lo pc L (.ref k :: st) σ E := r_callV0 hM cw hd hq hly hcl hst hf hl (by
  rintro r τ ⟨rfl, h⟩
  exact K τ h)
theorem r_cI1 {y : MethodName} {cc' : ByteArray} {nL' fr' lo' idx k ci : Nat} {ret : Option FieldType} {v1 : Value} {fs : List (Nat × Nat)} {T : u_T} {N : Nat} {P : Int32 → St → Prop} (cw : CwV own idx y cc' nL' ret 1) (hd : decode cc pc = .ok (.invokevirtual idx, 3)) (hq : pc + 3 = q) (hly : LAY[k]? = some (.inr (ci, fs))) (hcl : vwCl[ci]? = some (y.cls, T, N)) (hst : st.length ≤ 8) (hf : fr' + 1 ≤ fr) (hl : 8 + (nL' + 11) + lo' ≤ lo) (hM : Cl LAY y cc' nL' ret fr' lo' (.ref k :: [v1]) σ (EI P)) (K : ∀ v τ, P v τ → Rn LAY sc own cc nL fr lo q L (.int v :: st) τ E) : Rn LAY sc own cc nL fr lo pc L (v1 :: .ref k :: st) σ E := r_callV1 hM cw hd hq hly hcl hst hf hl (by
  rintro r τ ⟨v, rfl, h⟩
  exact K v τ h)
theorem r_cV1 {y : MethodName} {cc' : ByteArray} {nL' fr' lo' idx k ci : Nat} {ret : Option FieldType} {v1 : Value} {fs : List (Nat × Nat)} {T : u_T} {N : Nat} {P : St → Prop} (cw : CwV own idx y cc' nL' ret 1) (hd : decode cc pc = .ok (.invokevirtual idx, 3)) (hq : pc + 3 = q) (hly : LAY[k]? = some (.inr (ci, fs))) (hcl : vwCl[ci]? = some (y.cls, T, N)) (hst : st.length ≤ 8) (hf : fr' + 1 ≤ fr) (hl : 8 + (nL' + 11) + lo' ≤ lo) (hM : Cl LAY y cc' nL' ret fr' lo' (.ref k :: [v1]) σ (EV P)) (K : ∀ τ, P τ → Rn LAY sc own cc nL fr lo q L st τ E) : Rn LAY sc own cc nL fr lo pc L (v1 :: .ref k :: st) σ E := r_callV1 hM cw hd hq hly hcl hst hf hl (by
  rintro r τ ⟨rfl, h⟩
  exact K τ h)
theorem r_sI1 {y : MethodName} {cc' : ByteArray} {nL' fr' lo' idx : Nat} {ret : Option FieldType} {v1 : Value}  {P : Int32 → St → Prop} (cw : CwS own idx y cc' nL' ret 1) (hd : decode cc pc = .ok (.invokestatic idx, 3)) (hq : pc + 3 = q) (hst : st.length ≤ 8) (hf : fr' + 1 ≤ fr) (hl : 8 + (nL' + 11) + lo' ≤ lo) (hM : Cl LAY y cc' nL' ret fr' lo' [v1] σ (EI P)) (K : ∀ v τ, P v τ → Rn LAY sc own cc nL fr lo q L (.int v :: st) τ E) : Rn LAY sc own cc nL fr lo pc L (v1 :: st) σ E := r_callS1 hM cw hd hq hst hf hl (by
  rintro r τ ⟨v, rfl, h⟩
  exact K v τ h)
theorem r_sV1 {y : MethodName} {cc' : ByteArray} {nL' fr' lo' idx : Nat} {ret : Option FieldType} {v1 : Value}  {P : St → Prop} (cw : CwS own idx y cc' nL' ret 1) (hd : decode cc pc = .ok (.invokestatic idx, 3)) (hq : pc + 3 = q) (hst : st.length ≤ 8) (hf : fr' + 1 ≤ fr) (hl : 8 + (nL' + 11) + lo' ≤ lo) (hM : Cl LAY y cc' nL' ret fr' lo' [v1] σ (EV P)) (K : ∀ τ, P τ → Rn LAY sc own cc nL fr lo q L st τ E) : Rn LAY sc own cc nL fr lo pc L (v1 :: st) σ E := r_callS1 hM cw hd hq hst hf hl (by
  rintro r τ ⟨rfl, h⟩
  exact K τ h)
theorem r_cI2 {y : MethodName} {cc' : ByteArray} {nL' fr' lo' idx k ci : Nat} {ret : Option FieldType} {v1 v2 : Value} {fs : List (Nat × Nat)} {T : u_T} {N : Nat} {P : Int32 → St → Prop} (cw : CwV own idx y cc' nL' ret 2) (hd : decode cc pc = .ok (.invokevirtual idx, 3)) (hq : pc + 3 = q) (hly : LAY[k]? = some (.inr (ci, fs))) (hcl : vwCl[ci]? = some (y.cls, T, N)) (hst : st.length ≤ 8) (hf : fr' + 1 ≤ fr) (hl : 8 + (nL' + 11) + lo' ≤ lo) (hM : Cl LAY y cc' nL' ret fr' lo' (.ref k :: [v1, v2]) σ (EI P)) (K : ∀ v τ, P v τ → Rn LAY sc own cc nL fr lo q L (.int v :: st) τ E) : Rn LAY sc own cc nL fr lo pc L (v2 :: v1 :: .ref k :: st) σ E := r_callV2 hM cw hd hq hly hcl hst hf hl (by
  rintro r τ ⟨v, rfl, h⟩
  exact K v τ h)
theorem r_cV2 {y : MethodName} {cc' : ByteArray} {nL' fr' lo' idx k ci : Nat} {ret : Option FieldType} {v1 v2 : Value} {fs : List (Nat × Nat)} {T : u_T} {N : Nat} {P : St → Prop} (cw : CwV own idx y cc' nL' ret 2) (hd : decode cc pc = .ok (.invokevirtual idx, 3)) (hq : pc + 3 = q) (hly : LAY[k]? = some (.inr (ci, fs))) (hcl : vwCl[ci]? = some (y.cls, T, N)) (hst : st.length ≤ 8) (hf : fr' + 1 ≤ fr) (hl : 8 + (nL' + 11) + lo' ≤ lo) (hM : Cl LAY y cc' nL' ret fr' lo' (.ref k :: [v1, v2]) σ (EV P)) (K : ∀ τ, P τ → Rn LAY sc own cc nL fr lo q L st τ E) : Rn LAY sc own cc nL fr lo pc L (v2 :: v1 :: .ref k :: st) σ E := r_callV2 hM cw hd hq hly hcl hst hf hl (by
  rintro r τ ⟨rfl, h⟩
  exact K τ h)
theorem r_sI2 {y : MethodName} {cc' : ByteArray} {nL' fr' lo' idx : Nat} {ret : Option FieldType} {v1 v2 : Value}  {P : Int32 → St → Prop} (cw : CwS own idx y cc' nL' ret 2) (hd : decode cc pc = .ok (.invokestatic idx, 3)) (hq : pc + 3 = q) (hst : st.length ≤ 8) (hf : fr' + 1 ≤ fr) (hl : 8 + (nL' + 11) + lo' ≤ lo) (hM : Cl LAY y cc' nL' ret fr' lo' [v1, v2] σ (EI P)) (K : ∀ v τ, P v τ → Rn LAY sc own cc nL fr lo q L (.int v :: st) τ E) : Rn LAY sc own cc nL fr lo pc L (v2 :: v1 :: st) σ E := r_callS2 hM cw hd hq hst hf hl (by
  rintro r τ ⟨v, rfl, h⟩
  exact K v τ h)
theorem r_sV2 {y : MethodName} {cc' : ByteArray} {nL' fr' lo' idx : Nat} {ret : Option FieldType} {v1 v2 : Value}  {P : St → Prop} (cw : CwS own idx y cc' nL' ret 2) (hd : decode cc pc = .ok (.invokestatic idx, 3)) (hq : pc + 3 = q) (hst : st.length ≤ 8) (hf : fr' + 1 ≤ fr) (hl : 8 + (nL' + 11) + lo' ≤ lo) (hM : Cl LAY y cc' nL' ret fr' lo' [v1, v2] σ (EV P)) (K : ∀ τ, P τ → Rn LAY sc own cc nL fr lo q L st τ E) : Rn LAY sc own cc nL fr lo pc L (v2 :: v1 :: st) σ E := r_callS2 hM cw hd hq hst hf hl (by
  rintro r τ ⟨rfl, h⟩
  exact K τ h)
theorem r_cI3 {y : MethodName} {cc' : ByteArray} {nL' fr' lo' idx k ci : Nat} {ret : Option FieldType} {v1 v2 v3 : Value} {fs : List (Nat × Nat)} {T : u_T} {N : Nat} {P : Int32 → St → Prop} (cw : CwV own idx y cc' nL' ret 3) (hd : decode cc pc = .ok (.invokevirtual idx, 3)) (hq : pc + 3 = q) (hly : LAY[k]? = some (.inr (ci, fs))) (hcl : vwCl[ci]? = some (y.cls, T, N)) (hst : st.length ≤ 8) (hf : fr' + 1 ≤ fr) (hl : 8 + (nL' + 11) + lo' ≤ lo) (hM : Cl LAY y cc' nL' ret fr' lo' (.ref k :: [v1, v2, v3]) σ (EI P)) (K : ∀ v τ, P v τ → Rn LAY sc own cc nL fr lo q L (.int v :: st) τ E) : Rn LAY sc own cc nL fr lo pc L (v3 :: v2 :: v1 :: .ref k :: st) σ E := r_callV3 hM cw hd hq hly hcl hst hf hl (by
  rintro r τ ⟨v, rfl, h⟩
  exact K v τ h)
theorem r_cV3 {y : MethodName} {cc' : ByteArray} {nL' fr' lo' idx k ci : Nat} {ret : Option FieldType} {v1 v2 v3 : Value} {fs : List (Nat × Nat)} {T : u_T} {N : Nat} {P : St → Prop} (cw : CwV own idx y cc' nL' ret 3) (hd : decode cc pc = .ok (.invokevirtual idx, 3)) (hq : pc + 3 = q) (hly : LAY[k]? = some (.inr (ci, fs))) (hcl : vwCl[ci]? = some (y.cls, T, N)) (hst : st.length ≤ 8) (hf : fr' + 1 ≤ fr) (hl : 8 + (nL' + 11) + lo' ≤ lo) (hM : Cl LAY y cc' nL' ret fr' lo' (.ref k :: [v1, v2, v3]) σ (EV P)) (K : ∀ τ, P τ → Rn LAY sc own cc nL fr lo q L st τ E) : Rn LAY sc own cc nL fr lo pc L (v3 :: v2 :: v1 :: .ref k :: st) σ E := r_callV3 hM cw hd hq hly hcl hst hf hl (by
  rintro r τ ⟨rfl, h⟩
  exact K τ h)
theorem r_sI3 {y : MethodName} {cc' : ByteArray} {nL' fr' lo' idx : Nat} {ret : Option FieldType} {v1 v2 v3 : Value}  {P : Int32 → St → Prop} (cw : CwS own idx y cc' nL' ret 3) (hd : decode cc pc = .ok (.invokestatic idx, 3)) (hq : pc + 3 = q) (hst : st.length ≤ 8) (hf : fr' + 1 ≤ fr) (hl : 8 + (nL' + 11) + lo' ≤ lo) (hM : Cl LAY y cc' nL' ret fr' lo' [v1, v2, v3] σ (EI P)) (K : ∀ v τ, P v τ → Rn LAY sc own cc nL fr lo q L (.int v :: st) τ E) : Rn LAY sc own cc nL fr lo pc L (v3 :: v2 :: v1 :: st) σ E := r_callS3 hM cw hd hq hst hf hl (by
  rintro r τ ⟨v, rfl, h⟩
  exact K v τ h)
theorem r_sV3 {y : MethodName} {cc' : ByteArray} {nL' fr' lo' idx : Nat} {ret : Option FieldType} {v1 v2 v3 : Value}  {P : St → Prop} (cw : CwS own idx y cc' nL' ret 3) (hd : decode cc pc = .ok (.invokestatic idx, 3)) (hq : pc + 3 = q) (hst : st.length ≤ 8) (hf : fr' + 1 ≤ fr) (hl : 8 + (nL' + 11) + lo' ≤ lo) (hM : Cl LAY y cc' nL' ret fr' lo' [v1, v2, v3] σ (EV P)) (K : ∀ τ, P τ → Rn LAY sc own cc nL fr lo q L st τ E) : Rn LAY sc own cc nL fr lo pc L (v3 :: v2 :: v1 :: st) σ E := r_callS3 hM cw hd hq hst hf hl (by
  rintro r τ ⟨rfl, h⟩
  exact K τ h)
theorem r_cI4 {y : MethodName} {cc' : ByteArray} {nL' fr' lo' idx k ci : Nat} {ret : Option FieldType} {v1 v2 v3 v4 : Value} {fs : List (Nat × Nat)} {T : u_T} {N : Nat} {P : Int32 → St → Prop} (cw : CwV own idx y cc' nL' ret 4) (hd : decode cc pc = .ok (.invokevirtual idx, 3)) (hq : pc + 3 = q) (hly : LAY[k]? = some (.inr (ci, fs))) (hcl : vwCl[ci]? = some (y.cls, T, N)) (hst : st.length ≤ 8) (hf : fr' + 1 ≤ fr) (hl : 8 + (nL' + 11) + lo' ≤ lo) (hM : Cl LAY y cc' nL' ret fr' lo' (.ref k :: [v1, v2, v3, v4]) σ (EI P)) (K : ∀ v τ, P v τ → Rn LAY sc own cc nL fr lo q L (.int v :: st) τ E) : Rn LAY sc own cc nL fr lo pc L (v4 :: v3 :: v2 :: v1 :: .ref k :: st) σ E := r_callV4 hM cw hd hq hly hcl hst hf hl (by
  rintro r τ ⟨v, rfl, h⟩
  exact K v τ h)
theorem r_cV4 {y : MethodName} {cc' : ByteArray} {nL' fr' lo' idx k ci : Nat} {ret : Option FieldType} {v1 v2 v3 v4 : Value} {fs : List (Nat × Nat)} {T : u_T} {N : Nat} {P : St → Prop} (cw : CwV own idx y cc' nL' ret 4) (hd : decode cc pc = .ok (.invokevirtual idx, 3)) (hq : pc + 3 = q) (hly : LAY[k]? = some (.inr (ci, fs))) (hcl : vwCl[ci]? = some (y.cls, T, N)) (hst : st.length ≤ 8) (hf : fr' + 1 ≤ fr) (hl : 8 + (nL' + 11) + lo' ≤ lo) (hM : Cl LAY y cc' nL' ret fr' lo' (.ref k :: [v1, v2, v3, v4]) σ (EV P)) (K : ∀ τ, P τ → Rn LAY sc own cc nL fr lo q L st τ E) : Rn LAY sc own cc nL fr lo pc L (v4 :: v3 :: v2 :: v1 :: .ref k :: st) σ E := r_callV4 hM cw hd hq hly hcl hst hf hl (by
  rintro r τ ⟨rfl, h⟩
  exact K τ h)
theorem r_cI5 {y : MethodName} {cc' : ByteArray} {nL' fr' lo' idx k ci : Nat} {ret : Option FieldType} {v1 v2 v3 v4 v5 : Value} {fs : List (Nat × Nat)} {T : u_T} {N : Nat} {P : Int32 → St → Prop} (cw : CwV own idx y cc' nL' ret 5) (hd : decode cc pc = .ok (.invokevirtual idx, 3)) (hq : pc + 3 = q) (hly : LAY[k]? = some (.inr (ci, fs))) (hcl : vwCl[ci]? = some (y.cls, T, N)) (hst : st.length ≤ 8) (hf : fr' + 1 ≤ fr) (hl : 8 + (nL' + 11) + lo' ≤ lo) (hM : Cl LAY y cc' nL' ret fr' lo' (.ref k :: [v1, v2, v3, v4, v5]) σ (EI P)) (K : ∀ v τ, P v τ → Rn LAY sc own cc nL fr lo q L (.int v :: st) τ E) : Rn LAY sc own cc nL fr lo pc L (v5 :: v4 :: v3 :: v2 :: v1 :: .ref k :: st) σ E := r_callV5 hM cw hd hq hly hcl hst hf hl (by
  rintro r τ ⟨v, rfl, h⟩
  exact K v τ h)
theorem r_cV5 {y : MethodName} {cc' : ByteArray} {nL' fr' lo' idx k ci : Nat} {ret : Option FieldType} {v1 v2 v3 v4 v5 : Value} {fs : List (Nat × Nat)} {T : u_T} {N : Nat} {P : St → Prop} (cw : CwV own idx y cc' nL' ret 5) (hd : decode cc pc = .ok (.invokevirtual idx, 3)) (hq : pc + 3 = q) (hly : LAY[k]? = some (.inr (ci, fs))) (hcl : vwCl[ci]? = some (y.cls, T, N)) (hst : st.length ≤ 8) (hf : fr' + 1 ≤ fr) (hl : 8 + (nL' + 11) + lo' ≤ lo) (hM : Cl LAY y cc' nL' ret fr' lo' (.ref k :: [v1, v2, v3, v4, v5]) σ (EV P)) (K : ∀ τ, P τ → Rn LAY sc own cc nL fr lo q L st τ E) : Rn LAY sc own cc nL fr lo pc L (v5 :: v4 :: v3 :: v2 :: v1 :: .ref k :: st) σ E := r_callV5 hM cw hd hq hly hcl hst hf hl (by
  rintro r τ ⟨rfl, h⟩
  exact K τ h)
theorem r_cI6 {y : MethodName} {cc' : ByteArray} {nL' fr' lo' idx k ci : Nat} {ret : Option FieldType} {v1 v2 v3 v4 v5 v6 : Value} {fs : List (Nat × Nat)} {T : u_T} {N : Nat} {P : Int32 → St → Prop} (cw : CwV own idx y cc' nL' ret 6) (hd : decode cc pc = .ok (.invokevirtual idx, 3)) (hq : pc + 3 = q) (hly : LAY[k]? = some (.inr (ci, fs))) (hcl : vwCl[ci]? = some (y.cls, T, N)) (hst : st.length ≤ 8) (hf : fr' + 1 ≤ fr) (hl : 8 + (nL' + 11) + lo' ≤ lo) (hM : Cl LAY y cc' nL' ret fr' lo' (.ref k :: [v1, v2, v3, v4, v5, v6]) σ (EI P)) (K : ∀ v τ, P v τ → Rn LAY sc own cc nL fr lo q L (.int v :: st) τ E) : Rn LAY sc own cc nL fr lo pc L (v6 :: v5 :: v4 :: v3 :: v2 :: v1 :: .ref k :: st) σ E := r_callV6 hM cw hd hq hly hcl hst hf hl (by
  rintro r τ ⟨v, rfl, h⟩
  exact K v τ h)
theorem r_cV6 {y : MethodName} {cc' : ByteArray} {nL' fr' lo' idx k ci : Nat} {ret : Option FieldType} {v1 v2 v3 v4 v5 v6 : Value} {fs : List (Nat × Nat)} {T : u_T} {N : Nat} {P : St → Prop} (cw : CwV own idx y cc' nL' ret 6) (hd : decode cc pc = .ok (.invokevirtual idx, 3)) (hq : pc + 3 = q) (hly : LAY[k]? = some (.inr (ci, fs))) (hcl : vwCl[ci]? = some (y.cls, T, N)) (hst : st.length ≤ 8) (hf : fr' + 1 ≤ fr) (hl : 8 + (nL' + 11) + lo' ≤ lo) (hM : Cl LAY y cc' nL' ret fr' lo' (.ref k :: [v1, v2, v3, v4, v5, v6]) σ (EV P)) (K : ∀ τ, P τ → Rn LAY sc own cc nL fr lo q L st τ E) : Rn LAY sc own cc nL fr lo pc L (v6 :: v5 :: v4 :: v3 :: v2 :: v1 :: .ref k :: st) σ E := r_callV6 hM cw hd hq hly hcl hst hf hl (by
  rintro r τ ⟨rfl, h⟩
  exact K τ h)
theorem r_cI7 {y : MethodName} {cc' : ByteArray} {nL' fr' lo' idx k ci : Nat} {ret : Option FieldType} {v1 v2 v3 v4 v5 v6 v7 : Value} {fs : List (Nat × Nat)} {T : u_T} {N : Nat} {P : Int32 → St → Prop} (cw : CwV own idx y cc' nL' ret 7) (hd : decode cc pc = .ok (.invokevirtual idx, 3)) (hq : pc + 3 = q) (hly : LAY[k]? = some (.inr (ci, fs))) (hcl : vwCl[ci]? = some (y.cls, T, N)) (hst : st.length ≤ 8) (hf : fr' + 1 ≤ fr) (hl : 8 + (nL' + 11) + lo' ≤ lo) (hM : Cl LAY y cc' nL' ret fr' lo' (.ref k :: [v1, v2, v3, v4, v5, v6, v7]) σ (EI P)) (K : ∀ v τ, P v τ → Rn LAY sc own cc nL fr lo q L (.int v :: st) τ E) : Rn LAY sc own cc nL fr lo pc L (v7 :: v6 :: v5 :: v4 :: v3 :: v2 :: v1 :: .ref k :: st) σ E := r_callV7 hM cw hd hq hly hcl hst hf hl (by
  rintro r τ ⟨v, rfl, h⟩
  exact K v τ h)
theorem r_cV7 {y : MethodName} {cc' : ByteArray} {nL' fr' lo' idx k ci : Nat} {ret : Option FieldType} {v1 v2 v3 v4 v5 v6 v7 : Value} {fs : List (Nat × Nat)} {T : u_T} {N : Nat} {P : St → Prop} (cw : CwV own idx y cc' nL' ret 7) (hd : decode cc pc = .ok (.invokevirtual idx, 3)) (hq : pc + 3 = q) (hly : LAY[k]? = some (.inr (ci, fs))) (hcl : vwCl[ci]? = some (y.cls, T, N)) (hst : st.length ≤ 8) (hf : fr' + 1 ≤ fr) (hl : 8 + (nL' + 11) + lo' ≤ lo) (hM : Cl LAY y cc' nL' ret fr' lo' (.ref k :: [v1, v2, v3, v4, v5, v6, v7]) σ (EV P)) (K : ∀ τ, P τ → Rn LAY sc own cc nL fr lo q L st τ E) : Rn LAY sc own cc nL fr lo pc L (v7 :: v6 :: v5 :: v4 :: v3 :: v2 :: v1 :: .ref k :: st) σ E := r_callV7 hM cw hd hq hly hcl hst hf hl (by
  rintro r τ ⟨rfl, h⟩
  exact K τ h)
theorem r_nI1 {y : MethodName} {cc' : ByteArray} {nL' fr' lo' idx : Nat} {ret : Option FieldType} {v1 : Value} {P : Int32 → St → Prop} (cw : CwN own idx y cc' nL' ret 1) (hstat : Cond.static y ∈ lw_big) (hd : decode cc pc = .ok (.invokestatic idx, 3)) (hq : pc + 3 = q) (hst : st.length ≤ 8) (hf : fr' + 1 ≤ fr) (hl : 8 + (nL' + 11) + lo' ≤ lo) (hM : Cl LAY y cc' nL' ret fr' lo' [v1] σ (EI P)) (K : ∀ v τ, P v τ → Rn LAY sc own cc nL fr lo q L (.int v :: st) τ E) : Rn LAY sc own cc nL fr lo pc L (v1 :: st) σ E := r_callSN (As := [v1]) hM cw hstat hd hq rfl hst hf hl (by
  rintro r τ ⟨v, rfl, h⟩
  exact K v τ h)
end CALLI
section DIVS
variable {ly : List LyE} {sc : Option (Nat × (Nat → Int32))} {own : String} {cc : ByteArray} {nL fr lo pc q : Nat} {L : List (Option Value)} {st : List Value} {σ : St} {E : Option Int32 → St → Prop}
theorem r_idivN {x y : Nat} (hd : decode cc pc = .ok (.idiv, 1)) (hq : pc + 1 = q) (hx : x < 2 ^ 31) (h0 : 0 < y) (hy : y < 2 ^ 31) (K : Rn ly sc own cc nL fr lo q L (.int (nI (x / y)) :: st) σ E) : Rn ly sc own cc nL fr lo pc L (.int (nI y) :: .int (nI x) :: st) σ E := by
  rw [← pk_div hx h0 hy] at K
  exact r_idiv hd hq (nI_ne0 h0 hy) K
theorem r_iremN {x y : Nat} (hd : decode cc pc = .ok (.irem, 1)) (hq : pc + 1 = q) (hx : x < 2 ^ 31) (h0 : 0 < y) (hy : y < 2 ^ 31) (K : Rn ly sc own cc nL fr lo q L (.int (nI (x % y)) :: st) σ E) : Rn ly sc own cc nL fr lo pc L (.int (nI y) :: .int (nI x) :: st) σ E := by
  rw [← pk_rem hx h0 hy] at K
  exact r_irem hd hq (nI_ne0 h0 hy) K
end DIVS
end
section
/-! ===== the state without scratch; its numbers ===== -/
/-- cells and fields that only one call uses -/
def scr (k i : Nat) : Bool := match k with
  | 33 => Nat.ble 31 i && Nat.ble i 41
  | 22 => Nat.ble 3 i
  | 23 => true
  | 24 => true
  | 25 => true
  | 26 => true
  | 27 => true
  | 28 => true
  | 29 => true
  | 32 => true
  | _ => false
def vw (σ : St) : St := fun k i => bif scr k i then 0 else σ k i
theorem vw_at {σ V : St} (h : vw σ = V) {k i : Nat} (hs : scr k i = false) : σ k i = V k i := by
  rw [← h]
  simp [vw, hs]
theorem vw_row {σ V : St} (h : vw σ = V) {k : Nat} (hs : ∀ i, scr k i = false) : σ k = V k := by
  funext i
  exact vw_at h (hs i)
theorem vw_ext {σ τ : St} (h : ∀ k i, scr k i = false → τ k i = σ k i) : vw τ = vw σ := by
  funext k i
  unfold vw
  cases hs : scr k i with
  | true => rfl
  | false => exact h k i hs
theorem vw_put {σ : St} {k j : Nat} {x : Int32} (h : scr k j = true) : vw (va_up σ k (upd (σ k) j x)) = vw σ := by
  apply vw_ext
  intro a b hs
  unfold va_up upd
  by_cases ha : a = k
  · subst ha
    by_cases hb : b = j
    · subst hb
      rw [h] at hs
      cases hs
    · simp [hb]
  · simp [ha]
theorem u2 (σ : St) (k j : Nat) (x : Int32) (a b : Nat) : va_up σ k (upd (σ k) j x) a b = if a = k ∧ b = j then x else σ a b := by
  unfold va_up upd
  by_cases ha : a = k
  · subst ha
    by_cases hb : b = j <;> simp [hb]
  · simp [ha]
def nv (V : St) (k i : Nat) : Nat := (V k i).toNatClampNeg
theorem nv_lt (V : St) (k i : Nat) : nv V k i < 2147483648 := by
  unfold nv
  have h := Int32.toInt_lt (V k i)
  have e : (V k i).toNatClampNeg = (V k i).toInt.toNat := rfl
  omega
def nneg (k i : Nat) : Bool := match k with
  | 0 => Nat.ble 8 i
  | 2 => true
  | 4 => true
  | 5 => true
  | 6 => true
  | 7 => true
  | 8 => true
  | 9 => true
  | 10 => true
  | 11 => true
  | 12 => true
  | 13 => true
  | 14 => true
  | 15 => true
  | 16 => true
  | 17 => true
  | 18 => true
  | 19 => true
  | 21 => true
  | 30 => true
  | 33 => Nat.ble i 28 || Nat.beq i 30
  | 34 => true
  | 37 => true
  | 38 => true
  | 39 => true
  | 40 => true
  | 41 => true
  | 42 => true
  | 43 => true
  | 44 => true
  | 45 => true
  | 46 => true
  | 47 => true
  | 48 => true
  | 49 => true
  | 50 => true
  | 51 => true
  | 52 => true
  | 53 => true
  | 54 => true
  | 55 => true
  | 57 => true
  | 59 => true
  | _ => false
def ub (k i : Nat) : Nat := match k with
  | 0 => if i = 8 then 8 else 60
  | 2 => 24
  | 34 => 24
  | 4 => 40
  | 5 => 3
  | 39 => 3
  | 9 => 8
  | 47 => 8
  | 10 => 1
  | 11 => 1
  | 48 => 1
  | 49 => 1
  | 21 => 1
  | 57 => 1
  | 59 => 1
  | 12 => 20
  | 13 => 3
  | 50 => 3
  | 14 => 1
  | 30 => 24
  | 38 => 24
  | 37 => 50
  | 33 => if i = 5 then 8 else if i = 6 then 60 else if i = 7 then 40 else if i = 19 then 20 else 200
  | _ => 200
def InvN (V : St) : Prop := ∀ k i, nneg k i = true → V k i = nI (nv V k i) ∧ nv V k i ≤ ub k i
theorem bd {V : St} (hI : InvN V) (k i n : Nat) (h : nneg k i = true) (e : ub k i = n) : nv V k i ≤ n := e ▸ (hI k i h).2
section ROWSN
variable {ly : List LyE} {sc : Option (Nat × (Nat → Int32))} {own : String} {cc : ByteArray} {nL fr lo pc q : Nat} {L : List (Option Value)} {st : List Value} {σ V : St} {E : Option Int32 → St → Prop}
theorem r_icmp_eqN {x y : Nat} {off : Int} {t : Nat} (hd : decode cc pc = .ok (.if_icmp .eq off, 3)) (ht : (pc : Int) + off = (t : Int)) (hq : pc + 3 = q) (hx : x < 2 ^ 31) (hy : y < 2 ^ 31) (Kt : x = y → Rn ly sc own cc nL fr lo t L st σ E) (Kf : ¬ x = y → Rn ly sc own cc nL fr lo q L st σ E) : Rn ly sc own cc nL fr lo pc L (.int (nI y) :: .int (nI x) :: st) σ E := r_icmp_eq hd ht hq (fun h => Kt ((nI_eq hx hy).mp h)) (fun h => Kf (fun e => h ((nI_eq hx hy).mpr e)))
theorem r_icmp_ltN {x y : Nat} {off : Int} {t : Nat} (hd : decode cc pc = .ok (.if_icmp .lt off, 3)) (ht : (pc : Int) + off = (t : Int)) (hq : pc + 3 = q) (hx : x < 2 ^ 31) (hy : y < 2 ^ 31) (Kt : x < y → Rn ly sc own cc nL fr lo t L st σ E) (Kf : ¬ x < y → Rn ly sc own cc nL fr lo q L st σ E) : Rn ly sc own cc nL fr lo pc L (.int (nI y) :: .int (nI x) :: st) σ E := r_icmp_lt hd ht hq (fun h => Kt ((nI_ltI hx hy).mp h)) (fun h => Kf (fun e => h ((nI_ltI hx hy).mpr e)))
theorem r_icmp_leN {x y : Nat} {off : Int} {t : Nat} (hd : decode cc pc = .ok (.if_icmp .le off, 3)) (ht : (pc : Int) + off = (t : Int)) (hq : pc + 3 = q) (hx : x < 2 ^ 31) (hy : y < 2 ^ 31) (Kt : x ≤ y → Rn ly sc own cc nL fr lo t L st σ E) (Kf : ¬ x ≤ y → Rn ly sc own cc nL fr lo q L st σ E) : Rn ly sc own cc nL fr lo pc L (.int (nI y) :: .int (nI x) :: st) σ E := r_icmp_le hd ht hq (fun h => Kt ((nI_leI hx hy).mp h)) (fun h => Kf (fun e => h ((nI_leI hx hy).mpr e)))
theorem r_icmp_neN {x y : Nat} {off : Int} {t : Nat} (hd : decode cc pc = .ok (.if_icmp .ne off, 3)) (ht : (pc : Int) + off = (t : Int)) (hq : pc + 3 = q) (hx : x < 2 ^ 31) (hy : y < 2 ^ 31) (Kt : ¬ x = y → Rn ly sc own cc nL fr lo t L st σ E) (Kf : x = y → Rn ly sc own cc nL fr lo q L st σ E) : Rn ly sc own cc nL fr lo pc L (.int (nI y) :: .int (nI x) :: st) σ E := r_icmp_ne hd ht hq (fun h => Kt (fun e => h ((nI_eq hx hy).mpr e))) (fun h => Kf ((nI_eq hx hy).mp h))
theorem r_icmp_geN {x y : Nat} {off : Int} {t : Nat} (hd : decode cc pc = .ok (.if_icmp .ge off, 3)) (ht : (pc : Int) + off = (t : Int)) (hq : pc + 3 = q) (hx : x < 2 ^ 31) (hy : y < 2 ^ 31) (Kt : y ≤ x → Rn ly sc own cc nL fr lo t L st σ E) (Kf : ¬ y ≤ x → Rn ly sc own cc nL fr lo q L st σ E) : Rn ly sc own cc nL fr lo pc L (.int (nI y) :: .int (nI x) :: st) σ E := r_icmp_ge hd ht hq (fun h => Kt ((nI_leI hy hx).mp h)) (fun h => Kf (fun e => h ((nI_leI hy hx).mpr e)))
theorem r_icmp_gtN {x y : Nat} {off : Int} {t : Nat} (hd : decode cc pc = .ok (.if_icmp .gt off, 3)) (ht : (pc : Int) + off = (t : Int)) (hq : pc + 3 = q) (hx : x < 2 ^ 31) (hy : y < 2 ^ 31) (Kt : y < x → Rn ly sc own cc nL fr lo t L st σ E) (Kf : ¬ y < x → Rn ly sc own cc nL fr lo q L st σ E) : Rn ly sc own cc nL fr lo pc L (.int (nI y) :: .int (nI x) :: st) σ E := r_icmp_gt hd ht hq (fun h => Kt ((nI_ltI hy hx).mp h)) (fun h => Kf (fun e => h ((nI_ltI hy hx).mpr e)))
theorem nI_z {x : Nat} (hx : x < 2 ^ 31) : nI x = 0 ↔ x = 0 := by
  rw [← nI_0, nI_eq hx (by decide)]
theorem r_if_eqN {x : Nat} {off : Int} {t : Nat} (hd : decode cc pc = .ok (.ifCond .eq off, 3)) (ht : (pc : Int) + off = (t : Int)) (hq : pc + 3 = q) (hx : x < 2 ^ 31) (Kt : x = 0 → Rn ly sc own cc nL fr lo t L st σ E) (Kf : ¬ x = 0 → Rn ly sc own cc nL fr lo q L st σ E) : Rn ly sc own cc nL fr lo pc L (.int (nI x) :: st) σ E := r_if_eq hd ht hq (fun h => Kt ((nI_z hx).mp h)) (fun h => Kf (fun e => h ((nI_z hx).mpr e)))
theorem r_if_neN {x : Nat} {off : Int} {t : Nat} (hd : decode cc pc = .ok (.ifCond .ne off, 3)) (ht : (pc : Int) + off = (t : Int)) (hq : pc + 3 = q) (hx : x < 2 ^ 31) (Kt : ¬ x = 0 → Rn ly sc own cc nL fr lo t L st σ E) (Kf : x = 0 → Rn ly sc own cc nL fr lo q L st σ E) : Rn ly sc own cc nL fr lo pc L (.int (nI x) :: st) σ E := r_if_ne hd ht hq (fun h => Kt (fun e => h ((nI_z hx).mpr e))) (fun h => Kf ((nI_z hx).mp h))
theorem r_if_leN {x : Nat} {off : Int} {t : Nat} (hd : decode cc pc = .ok (.ifCond .le off, 3)) (ht : (pc : Int) + off = (t : Int)) (hq : pc + 3 = q) (hx : x < 2 ^ 31) (Kt : x = 0 → Rn ly sc own cc nL fr lo t L st σ E) (Kf : ¬ x = 0 → Rn ly sc own cc nL fr lo q L st σ E) : Rn ly sc own cc nL fr lo pc L (.int (nI x) :: st) σ E := r_if_le hd ht hq (fun h => Kt (by
    have := (nI_leI hx (by decide)).mp (by rw [nI_0]; exact h : nI x ≤ nI 0)
    omega)) (fun h => Kf (fun e => h (by rw [e]; decide)))
theorem r_if_gtN {x : Nat} {off : Int} {t : Nat} (hd : decode cc pc = .ok (.ifCond .gt off, 3)) (ht : (pc : Int) + off = (t : Int)) (hq : pc + 3 = q) (hx : x < 2 ^ 31) (Kt : ¬ x = 0 → Rn ly sc own cc nL fr lo t L st σ E) (Kf : x = 0 → Rn ly sc own cc nL fr lo q L st σ E) : Rn ly sc own cc nL fr lo pc L (.int (nI x) :: st) σ E := r_if_gt hd ht hq (fun h => Kt (fun e => by rw [e] at h; exact absurd h (by decide))) (fun h => Kf (by
    by_cases e : x = 0
    · exact e
    · exact absurd (by rw [← nI_0]; exact (nI_ltI (by decide) hx).mpr (Nat.pos_of_ne_zero e) : 0 < nI x) h))
theorem r_if_ltN {x : Nat} {off : Int} {t : Nat} (hd : decode cc pc = .ok (.ifCond .lt off, 3)) (ht : (pc : Int) + off = (t : Int)) (hq : pc + 3 = q) (hx : x < 2 ^ 31) (Kf : Rn ly sc own cc nL fr lo q L st σ E) : Rn ly sc own cc nL fr lo pc L (.int (nI x) :: st) σ E := r_if_lt hd ht hq (fun h => absurd h (nI_pos hx)) (fun _ => Kf)
theorem r_if_geN {x : Nat} {off : Int} {t : Nat} (hd : decode cc pc = .ok (.ifCond .ge off, 3)) (ht : (pc : Int) + off = (t : Int)) (hq : pc + 3 = q) (hx : x < 2 ^ 31) (Kt : Rn ly sc own cc nL fr lo t L st σ E) : Rn ly sc own cc nL fr lo pc L (.int (nI x) :: st) σ E := r_if_ge hd ht hq (fun _ => Kt) (fun h => absurd (nI_pos' hx) h)
/-- loads of what lasts -/
theorem r_ialdV {k j n : Nat} (hV : vw σ = V) (hI : InvN V) (hd : decode cc pc = .ok (.iaload, 1)) (hq : pc + 1 = q) (hly : ly[k]? = some (.inl (0, n))) (hs : scr k j = false) (hg : nneg k j = true) (hn : n < 2 ^ 31) (hj : j < n) (K : Rn ly sc own cc nL fr lo q L (.int (nI (nv V k j)) :: st) σ E) : Rn ly sc own cc nL fr lo pc L (.int (nI j) :: .ref k :: st) σ E := by
  refine r_iald hd hq hly hj hn ?_
  rw [vw_at hV hs, (hI k j hg).1]
  exact K
theorem r_zaldV {k j n : Nat} (hV : vw σ = V) (hI : InvN V) (hd : decode cc pc = .ok (.baload, 1)) (hq : pc + 1 = q) (hly : ly[k]? = some (.inl (1, n))) (hs : scr k j = false) (hg : nneg k j = true) (hn : n < 2 ^ 31) (hj : j < n) (K : Rn ly sc own cc nL fr lo q L (.int (nI (nv V k j)) :: st) σ E) : Rn ly sc own cc nL fr lo pc L (.int (nI j) :: .ref k :: st) σ E := by
  refine r_zald hd hq hly hj hn ?_
  rw [vw_at hV hs, (hI k j hg).1]
  exact K
theorem r_ialdW {k j n : Nat} (hV : vw σ = V) (hd : decode cc pc = .ok (.iaload, 1)) (hq : pc + 1 = q) (hly : ly[k]? = some (.inl (0, n))) (hs : scr k j = false) (hn : n < 2 ^ 31) (hj : j < n) (K : Rn ly sc own cc nL fr lo q L (.int (V k j) :: st) σ E) : Rn ly sc own cc nL fr lo pc L (.int (nI j) :: .ref k :: st) σ E := by
  refine r_iald hd hq hly hj hn ?_
  rw [vw_at hV hs]
  exact K
/-- stores to scratch -/
theorem r_iastS {k j n : Nat} {x : Int32} (hV : vw σ = V) (hd : decode cc pc = .ok (.iastore, 1)) (hq : pc + 1 = q) (hly : ly[k]? = some (.inl (0, n))) (hs : scr k j = true) (hj : j < n) (hn : n < 2 ^ 31) (K : ∀ τ, τ = va_up σ k (upd (σ k) j x) → vw τ = V → Rn ly sc own cc nL fr lo q L st τ E) : Rn ly sc own cc nL fr lo pc L (.int x :: .int (nI j) :: .ref k :: st) σ E := r_iast hd hq hly hj hn (K _ rfl (by rw [vw_put hs]; exact hV))
theorem r_zastS {k j n : Nat} {x : Int32} (hV : vw σ = V) (hd : decode cc pc = .ok (.bastore, 1)) (hq : pc + 1 = q) (hly : ly[k]? = some (.inl (1, n))) (hs : scr k j = true) (hj : j < n) (hn : n < 2 ^ 31) (hx : x = 0 ∨ x = 1) (K : ∀ τ, τ = va_up σ k (upd (σ k) j x) → vw τ = V → Rn ly sc own cc nL fr lo q L st τ E) : Rn ly sc own cc nL fr lo pc L (.int x :: .int (nI j) :: .ref k :: st) σ E := r_zast hd hq hly hj hn hx (K _ rfl (by rw [vw_put hs]; exact hV))
/-- a number on the stack, by another word -/
theorem r_as {x y : Int32} (e : x = y) (K : Rn ly sc own cc nL fr lo pc L (.int y :: st) σ E) : Rn ly sc own cc nL fr lo pc L (.int x :: st) σ E := e ▸ K
end ROWSN
theorem psX0_21 {sc : Option (Nat × (Nat → Int32))} {cc : ByteArray} {nL fr lo pc q : Nat} {L : List (Option Value)} {st : List Value} {σ V : St} {E : Option Int32 → St → Prop} {x : Int32} (hV : vw σ = V) (hd : decode cc pc = .ok (.putfield 21, 3)) (hq : pc + 3 = q) (K : ∀ τ, τ = va_up σ 22 (upd (σ 22) 3 x) → vw τ = V → Rn LAY sc RX0 cc nL fr lo q L (st) τ E) : Rn LAY sc RX0 cc nL fr lo pc L (.int x :: .ref 22 :: st) σ E := pX0_21 hd hq (K _ rfl (by rw [vw_put rfl]; exact hV))
theorem psX0_25 {sc : Option (Nat × (Nat → Int32))} {cc : ByteArray} {nL fr lo pc q : Nat} {L : List (Option Value)} {st : List Value} {σ V : St} {E : Option Int32 → St → Prop} {x : Int32} (hV : vw σ = V) (hd : decode cc pc = .ok (.putfield 25, 3)) (hq : pc + 3 = q) (K : ∀ τ, τ = va_up σ 22 (upd (σ 22) 4 x) → vw τ = V → Rn LAY sc RX0 cc nL fr lo q L (st) τ E) : Rn LAY sc RX0 cc nL fr lo pc L (.int x :: .ref 22 :: st) σ E := pX0_25 hd hq (K _ rfl (by rw [vw_put rfl]; exact hV))
theorem gvX1_9 {sc : Option (Nat × (Nat → Int32))} {cc : ByteArray} {nL fr lo pc q : Nat} {L : List (Option Value)} {st : List Value} {σ V : St} {E : Option Int32 → St → Prop} (hV : vw σ = V) (hI : InvN V) (hd : decode cc pc = .ok (.getfield 9, 3)) (hq : pc + 3 = q) (K : Rn LAY sc RX1 cc nL fr lo q L (.int (nI (nv V 4 0)) :: st) σ E) : Rn LAY sc RX1 cc nL fr lo pc L (.ref 4 :: st) σ E := by
  refine gX1_9 hd hq ?_
  rw [vw_at hV rfl, (hI 4 0 rfl).1]
  exact K
theorem psX2_9 {sc : Option (Nat × (Nat → Int32))} {cc : ByteArray} {nL fr lo pc q : Nat} {L : List (Option Value)} {st : List Value} {σ V : St} {E : Option Int32 → St → Prop} {x : Int32} (hV : vw σ = V) (hd : decode cc pc = .ok (.putfield 9, 3)) (hq : pc + 3 = q) (K : ∀ τ, τ = va_up σ 26 (upd (σ 26) 0 x) → vw τ = V → Rn LAY sc RX2 cc nL fr lo q L (st) τ E) : Rn LAY sc RX2 cc nL fr lo pc L (.int x :: .ref 26 :: st) σ E := pX2_9 hd hq (K _ rfl (by rw [vw_put rfl]; exact hV))
theorem gvX2_25 {sc : Option (Nat × (Nat → Int32))} {cc : ByteArray} {nL fr lo pc q : Nat} {L : List (Option Value)} {st : List Value} {σ V : St} {E : Option Int32 → St → Prop} (hV : vw σ = V) (hI : InvN V) (hd : decode cc pc = .ok (.getfield 25, 3)) (hq : pc + 3 = q) (K : Rn LAY sc RX2 cc nL fr lo q L (.int (nI (nv V 4 0)) :: st) σ E) : Rn LAY sc RX2 cc nL fr lo pc L (.ref 4 :: st) σ E := by
  refine gX2_25 hd hq ?_
  rw [vw_at hV rfl, (hI 4 0 rfl).1]
  exact K
theorem psX2_45 {sc : Option (Nat × (Nat → Int32))} {cc : ByteArray} {nL fr lo pc q : Nat} {L : List (Option Value)} {st : List Value} {σ V : St} {E : Option Int32 → St → Prop} {x : Int32} (hV : vw σ = V) (hd : decode cc pc = .ok (.putfield 45, 3)) (hq : pc + 3 = q) (K : ∀ τ, τ = va_up σ 22 (upd (σ 22) 3 x) → vw τ = V → Rn LAY sc RX2 cc nL fr lo q L (st) τ E) : Rn LAY sc RX2 cc nL fr lo pc L (.int x :: .ref 22 :: st) σ E := pX2_45 hd hq (K _ rfl (by rw [vw_put rfl]; exact hV))
theorem psX2_48 {sc : Option (Nat × (Nat → Int32))} {cc : ByteArray} {nL fr lo pc q : Nat} {L : List (Option Value)} {st : List Value} {σ V : St} {E : Option Int32 → St → Prop} {x : Int32} (hV : vw σ = V) (hd : decode cc pc = .ok (.putfield 48, 3)) (hq : pc + 3 = q) (K : ∀ τ, τ = va_up σ 22 (upd (σ 22) 4 x) → vw τ = V → Rn LAY sc RX2 cc nL fr lo q L (st) τ E) : Rn LAY sc RX2 cc nL fr lo pc L (.int x :: .ref 22 :: st) σ E := pX2_48 hd hq (K _ rfl (by rw [vw_put rfl]; exact hV))
theorem gvX4_9 {sc : Option (Nat × (Nat → Int32))} {cc : ByteArray} {nL fr lo pc q : Nat} {L : List (Option Value)} {st : List Value} {σ V : St} {E : Option Int32 → St → Prop} (hV : vw σ = V) (hI : InvN V) (hd : decode cc pc = .ok (.getfield 9, 3)) (hq : pc + 3 = q) (K : Rn LAY sc RX4 cc nL fr lo q L (.int (nI (nv V 12 0)) :: st) σ E) : Rn LAY sc RX4 cc nL fr lo pc L (.ref 12 :: st) σ E := by
  refine gX4_9 hd hq ?_
  rw [vw_at hV rfl, (hI 12 0 rfl).1]
  exact K
theorem gvX5_54 {sc : Option (Nat × (Nat → Int32))} {cc : ByteArray} {nL fr lo pc q : Nat} {L : List (Option Value)} {st : List Value} {σ V : St} {E : Option Int32 → St → Prop} (hV : vw σ = V) (hI : InvN V) (hd : decode cc pc = .ok (.getfield 54, 3)) (hq : pc + 3 = q) (K : Rn LAY sc RX5 cc nL fr lo q L (.int (nI (nv V 0 8)) :: st) σ E) : Rn LAY sc RX5 cc nL fr lo pc L (.ref 0 :: st) σ E := by
  refine gX5_54 hd hq ?_
  rw [vw_at hV rfl, (hI 0 8 rfl).1]
  exact K
theorem gvX5_58 {sc : Option (Nat × (Nat → Int32))} {cc : ByteArray} {nL fr lo pc q : Nat} {L : List (Option Value)} {st : List Value} {σ V : St} {E : Option Int32 → St → Prop} (hV : vw σ = V) (hI : InvN V) (hd : decode cc pc = .ok (.getfield 58, 3)) (hq : pc + 3 = q) (K : Rn LAY sc RX5 cc nL fr lo q L (.int (nI (nv V 0 9)) :: st) σ E) : Rn LAY sc RX5 cc nL fr lo pc L (.ref 0 :: st) σ E := by
  refine gX5_58 hd hq ?_
  rw [vw_at hV rfl, (hI 0 9 rfl).1]
  exact K
theorem gvX5_205 {sc : Option (Nat × (Nat → Int32))} {cc : ByteArray} {nL fr lo pc q : Nat} {L : List (Option Value)} {st : List Value} {σ V : St} {E : Option Int32 → St → Prop} (hV : vw σ = V) (hI : InvN V) (hd : decode cc pc = .ok (.getfield 205, 3)) (hq : pc + 3 = q) (K : Rn LAY sc RX5 cc nL fr lo q L (.int (nI (nv V 4 0)) :: st) σ E) : Rn LAY sc RX5 cc nL fr lo pc L (.ref 4 :: st) σ E := by
  refine gX5_205 hd hq ?_
  rw [vw_at hV rfl, (hI 4 0 rfl).1]
  exact K
theorem gvX5_208 {sc : Option (Nat × (Nat → Int32))} {cc : ByteArray} {nL fr lo pc q : Nat} {L : List (Option Value)} {st : List Value} {σ V : St} {E : Option Int32 → St → Prop} (hV : vw σ = V) (hI : InvN V) (hd : decode cc pc = .ok (.getfield 208, 3)) (hq : pc + 3 = q) (K : Rn LAY sc RX5 cc nL fr lo q L (.int (nI (nv V 12 0)) :: st) σ E) : Rn LAY sc RX5 cc nL fr lo pc L (.ref 12 :: st) σ E := by
  refine gX5_208 hd hq ?_
  rw [vw_at hV rfl, (hI 12 0 rfl).1]
  exact K
theorem psX5_231 {sc : Option (Nat × (Nat → Int32))} {cc : ByteArray} {nL fr lo pc q : Nat} {L : List (Option Value)} {st : List Value} {σ V : St} {E : Option Int32 → St → Prop} {x : Int32} (hV : vw σ = V) (hd : decode cc pc = .ok (.putfield 231, 3)) (hq : pc + 3 = q) (K : ∀ τ, τ = va_up σ 26 (upd (σ 26) 0 x) → vw τ = V → Rn LAY sc RX5 cc nL fr lo q L (st) τ E) : Rn LAY sc RX5 cc nL fr lo pc L (.int x :: .ref 26 :: st) σ E := pX5_231 hd hq (K _ rfl (by rw [vw_put rfl]; exact hV))
theorem gvX6_25 {sc : Option (Nat × (Nat → Int32))} {cc : ByteArray} {nL fr lo pc q : Nat} {L : List (Option Value)} {st : List Value} {σ V : St} {E : Option Int32 → St → Prop} (hV : vw σ = V) (hI : InvN V) (hd : decode cc pc = .ok (.getfield 25, 3)) (hq : pc + 3 = q) (K : Rn LAY sc RX6 cc nL fr lo q L (.int (nI (nv V 33 5)) :: st) σ E) : Rn LAY sc RX6 cc nL fr lo pc L (.ref 33 :: st) σ E := by
  refine gX6_25 hd hq ?_
  rw [vw_at hV rfl, (hI 33 5 rfl).1]
  exact K
theorem gwX6_90 {sc : Option (Nat × (Nat → Int32))} {cc : ByteArray} {nL fr lo pc q : Nat} {L : List (Option Value)} {st : List Value} {σ V : St} {E : Option Int32 → St → Prop} (hV : vw σ = V) (hd : decode cc pc = .ok (.getfield 90, 3)) (hq : pc + 3 = q) (K : Rn LAY sc RX6 cc nL fr lo q L (.int (V 33 29) :: st) σ E) : Rn LAY sc RX6 cc nL fr lo pc L (.ref 33 :: st) σ E := by
  refine gX6_90 hd hq ?_
  rw [vw_at hV rfl]
  exact K
theorem gvX6_97 {sc : Option (Nat × (Nat → Int32))} {cc : ByteArray} {nL fr lo pc q : Nat} {L : List (Option Value)} {st : List Value} {σ V : St} {E : Option Int32 → St → Prop} (hV : vw σ = V) (hI : InvN V) (hd : decode cc pc = .ok (.getfield 97, 3)) (hq : pc + 3 = q) (K : Rn LAY sc RX6 cc nL fr lo q L (.int (nI (nv V 33 7)) :: st) σ E) : Rn LAY sc RX6 cc nL fr lo pc L (.ref 33 :: st) σ E := by
  refine gX6_97 hd hq ?_
  rw [vw_at hV rfl, (hI 33 7 rfl).1]
  exact K
theorem gvX6_104 {sc : Option (Nat × (Nat → Int32))} {cc : ByteArray} {nL fr lo pc q : Nat} {L : List (Option Value)} {st : List Value} {σ V : St} {E : Option Int32 → St → Prop} (hV : vw σ = V) (hI : InvN V) (hd : decode cc pc = .ok (.getfield 104, 3)) (hq : pc + 3 = q) (K : Rn LAY sc RX6 cc nL fr lo q L (.int (nI (nv V 33 19)) :: st) σ E) : Rn LAY sc RX6 cc nL fr lo pc L (.ref 33 :: st) σ E := by
  refine gX6_104 hd hq ?_
  rw [vw_at hV rfl, (hI 33 19 rfl).1]
  exact K
theorem gvX6_121 {sc : Option (Nat × (Nat → Int32))} {cc : ByteArray} {nL fr lo pc q : Nat} {L : List (Option Value)} {st : List Value} {σ V : St} {E : Option Int32 → St → Prop} (hV : vw σ = V) (hI : InvN V) (hd : decode cc pc = .ok (.getfield 121, 3)) (hq : pc + 3 = q) (K : Rn LAY sc RX6 cc nL fr lo q L (.int (nI (nv V 33 30)) :: st) σ E) : Rn LAY sc RX6 cc nL fr lo pc L (.ref 33 :: st) σ E := by
  refine gX6_121 hd hq ?_
  rw [vw_at hV rfl, (hI 33 30 rfl).1]
  exact K
theorem psX6_124 {sc : Option (Nat × (Nat → Int32))} {cc : ByteArray} {nL fr lo pc q : Nat} {L : List (Option Value)} {st : List Value} {σ V : St} {E : Option Int32 → St → Prop} {x : Int32} (hV : vw σ = V) (hd : decode cc pc = .ok (.putfield 124, 3)) (hq : pc + 3 = q) (K : ∀ τ, τ = va_up σ 33 (upd (σ 33) 36 x) → vw τ = V → Rn LAY sc RX6 cc nL fr lo q L (st) τ E) : Rn LAY sc RX6 cc nL fr lo pc L (.int x :: .ref 33 :: st) σ E := pX6_124 hd hq (K _ rfl (by rw [vw_put rfl]; exact hV))
theorem psX6_127 {sc : Option (Nat × (Nat → Int32))} {cc : ByteArray} {nL fr lo pc q : Nat} {L : List (Option Value)} {st : List Value} {σ V : St} {E : Option Int32 → St → Prop} {x : Int32} (hV : vw σ = V) (hd : decode cc pc = .ok (.putfield 127, 3)) (hq : pc + 3 = q) (K : ∀ τ, τ = va_up σ 33 (upd (σ 33) 37 x) → vw τ = V → Rn LAY sc RX6 cc nL fr lo q L (st) τ E) : Rn LAY sc RX6 cc nL fr lo pc L (.int x :: .ref 33 :: st) σ E := pX6_127 hd hq (K _ rfl (by rw [vw_put rfl]; exact hV))
theorem psX6_130 {sc : Option (Nat × (Nat → Int32))} {cc : ByteArray} {nL fr lo pc q : Nat} {L : List (Option Value)} {st : List Value} {σ V : St} {E : Option Int32 → St → Prop} {x : Int32} (hV : vw σ = V) (hd : decode cc pc = .ok (.putfield 130, 3)) (hq : pc + 3 = q) (K : ∀ τ, τ = va_up σ 33 (upd (σ 33) 38 x) → vw τ = V → Rn LAY sc RX6 cc nL fr lo q L (st) τ E) : Rn LAY sc RX6 cc nL fr lo pc L (.int x :: .ref 33 :: st) σ E := pX6_130 hd hq (K _ rfl (by rw [vw_put rfl]; exact hV))
theorem psX6_133 {sc : Option (Nat × (Nat → Int32))} {cc : ByteArray} {nL fr lo pc q : Nat} {L : List (Option Value)} {st : List Value} {σ V : St} {E : Option Int32 → St → Prop} {x : Int32} (hV : vw σ = V) (hd : decode cc pc = .ok (.putfield 133, 3)) (hq : pc + 3 = q) (K : ∀ τ, τ = va_up σ 33 (upd (σ 33) 39 x) → vw τ = V → Rn LAY sc RX6 cc nL fr lo q L (st) τ E) : Rn LAY sc RX6 cc nL fr lo pc L (.int x :: .ref 33 :: st) σ E := pX6_133 hd hq (K _ rfl (by rw [vw_put rfl]; exact hV))
theorem psX6_136 {sc : Option (Nat × (Nat → Int32))} {cc : ByteArray} {nL fr lo pc q : Nat} {L : List (Option Value)} {st : List Value} {σ V : St} {E : Option Int32 → St → Prop} {x : Int32} (hV : vw σ = V) (hd : decode cc pc = .ok (.putfield 136, 3)) (hq : pc + 3 = q) (K : ∀ τ, τ = va_up σ 33 (upd (σ 33) 40 x) → vw τ = V → Rn LAY sc RX6 cc nL fr lo q L (st) τ E) : Rn LAY sc RX6 cc nL fr lo pc L (.int x :: .ref 33 :: st) σ E := pX6_136 hd hq (K _ rfl (by rw [vw_put rfl]; exact hV))
theorem psX6_139 {sc : Option (Nat × (Nat → Int32))} {cc : ByteArray} {nL fr lo pc q : Nat} {L : List (Option Value)} {st : List Value} {σ V : St} {E : Option Int32 → St → Prop} {x : Int32} (hV : vw σ = V) (hd : decode cc pc = .ok (.putfield 139, 3)) (hq : pc + 3 = q) (K : ∀ τ, τ = va_up σ 33 (upd (σ 33) 41 x) → vw τ = V → Rn LAY sc RX6 cc nL fr lo q L (st) τ E) : Rn LAY sc RX6 cc nL fr lo pc L (.int x :: .ref 33 :: st) σ E := pX6_139 hd hq (K _ rfl (by rw [vw_put rfl]; exact hV))
theorem psX6_142 {sc : Option (Nat × (Nat → Int32))} {cc : ByteArray} {nL fr lo pc q : Nat} {L : List (Option Value)} {st : List Value} {σ V : St} {E : Option Int32 → St → Prop} {x : Int32} (hV : vw σ = V) (hd : decode cc pc = .ok (.putfield 142, 3)) (hq : pc + 3 = q) (hx : x = 0 ∨ x = 1) (K : ∀ τ, τ = va_up σ 33 (upd (σ 33) 35 x) → vw τ = V → Rn LAY sc RX6 cc nL fr lo q L (st) τ E) : Rn LAY sc RX6 cc nL fr lo pc L (.int x :: .ref 33 :: st) σ E := pX6_142 hd hq hx (K _ rfl (by rw [vw_put rfl]; exact hV))
theorem psX6_146 {sc : Option (Nat × (Nat → Int32))} {cc : ByteArray} {nL fr lo pc q : Nat} {L : List (Option Value)} {st : List Value} {σ V : St} {E : Option Int32 → St → Prop} {x : Int32} (hV : vw σ = V) (hd : decode cc pc = .ok (.putfield 146, 3)) (hq : pc + 3 = q) (K : ∀ τ, τ = va_up σ 33 (upd (σ 33) 32 x) → vw τ = V → Rn LAY sc RX6 cc nL fr lo q L (st) τ E) : Rn LAY sc RX6 cc nL fr lo pc L (.int x :: .ref 33 :: st) σ E := pX6_146 hd hq (K _ rfl (by rw [vw_put rfl]; exact hV))
theorem psX6_149 {sc : Option (Nat × (Nat → Int32))} {cc : ByteArray} {nL fr lo pc q : Nat} {L : List (Option Value)} {st : List Value} {σ V : St} {E : Option Int32 → St → Prop} {x : Int32} (hV : vw σ = V) (hd : decode cc pc = .ok (.putfield 149, 3)) (hq : pc + 3 = q) (K : ∀ τ, τ = va_up σ 33 (upd (σ 33) 31 x) → vw τ = V → Rn LAY sc RX6 cc nL fr lo q L (st) τ E) : Rn LAY sc RX6 cc nL fr lo pc L (.int x :: .ref 33 :: st) σ E := pX6_149 hd hq (K _ rfl (by rw [vw_put rfl]; exact hV))
theorem psX6_152 {sc : Option (Nat × (Nat → Int32))} {cc : ByteArray} {nL fr lo pc q : Nat} {L : List (Option Value)} {st : List Value} {σ V : St} {E : Option Int32 → St → Prop} {x : Int32} (hV : vw σ = V) (hd : decode cc pc = .ok (.putfield 152, 3)) (hq : pc + 3 = q) (K : ∀ τ, τ = va_up σ 33 (upd (σ 33) 34 x) → vw τ = V → Rn LAY sc RX6 cc nL fr lo q L (st) τ E) : Rn LAY sc RX6 cc nL fr lo pc L (.int x :: .ref 33 :: st) σ E := pX6_152 hd hq (K _ rfl (by rw [vw_put rfl]; exact hV))
theorem psX6_155 {sc : Option (Nat × (Nat → Int32))} {cc : ByteArray} {nL fr lo pc q : Nat} {L : List (Option Value)} {st : List Value} {σ V : St} {E : Option Int32 → St → Prop} {x : Int32} (hV : vw σ = V) (hd : decode cc pc = .ok (.putfield 155, 3)) (hq : pc + 3 = q) (K : ∀ τ, τ = va_up σ 33 (upd (σ 33) 33 x) → vw τ = V → Rn LAY sc RX6 cc nL fr lo q L (st) τ E) : Rn LAY sc RX6 cc nL fr lo pc L (.int x :: .ref 33 :: st) σ E := pX6_155 hd hq (K _ rfl (by rw [vw_put rfl]; exact hV))
theorem gvX6_222 {sc : Option (Nat × (Nat → Int32))} {cc : ByteArray} {nL fr lo pc q : Nat} {L : List (Option Value)} {st : List Value} {σ V : St} {E : Option Int32 → St → Prop} (hV : vw σ = V) (hI : InvN V) (hd : decode cc pc = .ok (.getfield 222, 3)) (hq : pc + 3 = q) (K : Rn LAY sc RX6 cc nL fr lo q L (.int (nI (nv V 33 6)) :: st) σ E) : Rn LAY sc RX6 cc nL fr lo pc L (.ref 33 :: st) σ E := by
  refine gX6_222 hd hq ?_
  rw [vw_at hV rfl, (hI 33 6 rfl).1]
  exact K
end
section
/-! ===== the reference's small methods ===== -/
def inN (v a b : Int32) : Nat := if v < a then 0 else if b < v then 0 else 1
/-- 1 if x is a number from 0 below n -/
def ix (x : Int32) (n : Nat) : Nat := if 0 ≤ x.toInt ∧ x.toInt < n then 1 else 0
theorem inN_le (v a b : Int32) : inN v a b ≤ 1 := by unfold inN; (repeat' split); all_goals omega
theorem z01 {n : Nat} (h : n ≤ 1) : nI n = 0 ∨ nI n = 1 := by
  rcases (show n = 0 ∨ n = 1 by omega) with rfl | rfl
  · exact Or.inl rfl
  · exact Or.inr rfl
theorem okB {f : Nat} {σ : St} (h : f ≤ 1) : ∀ v τ, (v = nI f ∧ τ = σ) → v = 0 ∨ v = 1 := by
  rintro v τ ⟨rfl, -⟩
  exact z01 h
theorem okQ {f : Nat} {Q : St → Prop} (h : f ≤ 1) : ∀ v τ, (v = nI f ∧ Q τ) → v = 0 ∨ v = 1 := by
  rintro v τ ⟨rfl, -⟩
  exact z01 h
theorem ix_le (x : Int32) (n : Nat) : ix x n ≤ 1 := by unfold ix; split <;> omega
theorem ix_of {x : Int32} {n : Nat} (h : ¬ ix x n = 0) : ∃ j, j < n ∧ x = nI j := by
  unfold ix at h
  split at h
  · rename_i hx
    have hlt : x.toInt.toNat < n := by omega
    refine ⟨x.toInt.toNat, hlt, ?_⟩
    apply Int32.toInt_inj.mp
    have h2 := Int32.toInt_lt x
    rw [nI_toInt (by omega)]
    omega
  · omega
theorem ix_nI {j n : Nat} (h : j < n) (hj : j < 2 ^ 31) : ix (nI j) n = 1 := by
  unfold ix
  rw [nI_toInt hj, if_pos (by omega)]
theorem ix_in (x : Int32) {n : Nat} (hn : n ≤ 1000000) : inN x (nI 0) (nI n - nI 1) = ix x n := by
  unfold inN ix
  have e0 : (nI 0).toInt = 0 := rfl
  have e1 : (nI n - nI 1).toInt = (n : Int) - 1 := by rw [pk_sub_toInt (by omega) (by omega)]; rfl
  simp only [Int32.lt_iff_toInt_lt, e0, e1]
  by_cases h1 : x.toInt < 0
  · rw [if_pos h1, if_neg (by omega)]
  · rw [if_neg h1]
    by_cases h2 : (n : Int) - 1 < x.toInt
    · rw [if_pos h2, if_neg (by omega)]
    · rw [if_neg h2, if_pos (by omega)]
theorem ix_in7 (x : Int32) : inN x (nI 0) (nI 7) = ix x 8 := ix_in x (n := 8) (by omega)
set_option maxRecDepth 100000 in
set_option maxHeartbeats 4000000 in
theorem c_X6_in (σ : St) (v a b : Int32) : Cl LAY yX6_in cX6_in 3 (some .boolean) 0 0 [.int v, .int a, .int b] σ (EI (fun r τ => r = nI (inN v a b) ∧ τ = σ)) := by
  refine Cl.of 0 rfl rfl (EI.okZ (okB (inN_le _ _ _))) ?_
  show Rn LAY none RX6 _ _ _ _ 0 [some (.int v), some (.int a), some (.int b)] [] _ _
  refine r_iload_n (q := 1) dX6_in_0 rfl rfl ?_
  refine r_iload_n (q := 2) dX6_in_1 rfl rfl ?_
  refine r_icmp_lt (t := 14) (q := 5) dX6_in_2 (by decide) rfl (fun c2 => ?_) (fun c2 => ?_)
  · refine r_iconst (q := 15) (v := nI 0) dX6_in_14 rfl (by decide) ?_
    exact r_retI dX6_in_15 ⟨by simp [inN, *], rfl⟩
  · refine r_iload_n (q := 6) dX6_in_5 rfl rfl ?_
    refine r_iload_n (q := 7) dX6_in_6 rfl rfl ?_
    refine r_icmp_gt (t := 14) (q := 10) dX6_in_7 (by decide) rfl (fun c7 => ?_) (fun c7 => ?_)
    · refine r_iconst (q := 15) (v := nI 0) dX6_in_14 rfl (by decide) ?_
      exact r_retI dX6_in_15 ⟨by simp [inN, *], rfl⟩
    · refine r_iconst (q := 11) (v := nI 1) dX6_in_10 rfl (by decide) ?_
      refine r_goto (q := 15) dX6_in_11 (by decide) ?_
      exact r_retI dX6_in_15 ⟨by simp [inN, *], rfl⟩
set_option maxRecDepth 100000 in
set_option maxHeartbeats 4000000 in
theorem c_X6_isBlock (σ V : St) (hV : vw σ = V) (hI : InvN V) (x : Int32) : Cl LAY yX6_isBlock cX6_isBlock 2 (some .boolean) 1 22 [.ref 33, .int x] σ (EI (fun r τ => r = nI (ix x (nv V 33 7)) ∧ τ = σ)) := by
  refine Cl.of 0 rfl rfl (EI.okZ (okB (ix_le _ _))) ?_
  show Rn LAY none RX6 _ _ _ _ 0 [some (.ref 33), some (.int x)] [] _ _
  refine r_iload_n (q := 1) dX6_isBlock_0 rfl rfl ?_
  refine r_iconst (q := 2) (v := nI 0) dX6_isBlock_1 rfl (by decide) ?_
  refine r_aload_n (q := 3) dX6_isBlock_2 rfl rfl ?_
  refine gvX6_97 (q := 6) hV hI dX6_isBlock_3 rfl ?_
  refine r_iconst (q := 7) (v := nI 1) dX6_isBlock_6 rfl (by decide) ?_
  refine r_isub (q := 8) dX6_isBlock_7 rfl ?_
  refine r_sI3 (q := 11) vX6_100 dX6_isBlock_8 rfl (by decide) (by decide) (by decide) (c_X6_in _ _ _ _) ?_
  rintro _ _ ⟨rfl, rfl⟩
  exact r_retI dX6_isBlock_11 ⟨by rw [ix_in _ (by have := bd hI 33 7 40 rfl rfl; omega)], rfl⟩
set_option maxRecDepth 100000 in
set_option maxHeartbeats 4000000 in
theorem c_X6_isWindow (σ V : St) (hV : vw σ = V) (hI : InvN V) (x : Int32) : Cl LAY yX6_isWindow cX6_isWindow 2 (some .boolean) 1 22 [.ref 33, .int x] σ (EI (fun r τ => r = nI (ix x (nv V 33 19)) ∧ τ = σ)) := by
  refine Cl.of 0 rfl rfl (EI.okZ (okB (ix_le _ _))) ?_
  show Rn LAY none RX6 _ _ _ _ 0 [some (.ref 33), some (.int x)] [] _ _
  refine r_iload_n (q := 1) dX6_isWindow_0 rfl rfl ?_
  refine r_iconst (q := 2) (v := nI 0) dX6_isWindow_1 rfl (by decide) ?_
  refine r_aload_n (q := 3) dX6_isWindow_2 rfl rfl ?_
  refine gvX6_104 (q := 6) hV hI dX6_isWindow_3 rfl ?_
  refine r_iconst (q := 7) (v := nI 1) dX6_isWindow_6 rfl (by decide) ?_
  refine r_isub (q := 8) dX6_isWindow_7 rfl ?_
  refine r_sI3 (q := 11) vX6_100 dX6_isWindow_8 rfl (by decide) (by decide) (by decide) (c_X6_in _ _ _ _) ?_
  rintro _ _ ⟨rfl, rfl⟩
  exact r_retI dX6_isWindow_11 ⟨by rw [ix_in _ (by have := bd hI 33 19 20 rfl rfl; omega)], rfl⟩
set_option maxRecDepth 100000 in
set_option maxHeartbeats 4000000 in
theorem c_X6_isDay (σ : St) (x : Int32) : Cl LAY yX6_isDay cX6_isDay 1 (some .boolean) 1 22 [.int x] σ (EI (fun r τ => r = nI (ix x 8) ∧ τ = σ)) := by
  refine Cl.of 0 rfl rfl (EI.okZ (okB (ix_le _ _))) ?_
  show Rn LAY none RX6 _ _ _ _ 0 [some (.int x)] [] _ _
  refine r_iload_n (q := 1) dX6_isDay_0 rfl rfl ?_
  refine r_iconst (q := 2) (v := nI 0) dX6_isDay_1 rfl (by decide) ?_
  refine r_bipush (q := 4) (v := nI 7) dX6_isDay_2 rfl (by decide) ?_
  refine r_sI3 (q := 7) vX6_100 dX6_isDay_4 rfl (by decide) (by decide) (by decide) (c_X6_in _ _ _ _) ?_
  rintro _ _ ⟨rfl, rfl⟩
  exact r_retI dX6_isDay_7 ⟨by rw [ix_in7], rfl⟩
/-- such a MINUTE of such a DAY -/
def isMin (V : St) (d m : Int32) : Nat := if ix d 8 = 0 then 0 else ix m (nv V 34 d.toNatClampNeg)
theorem isMin_le (V : St) (d m : Int32) : isMin V d m ≤ 1 := by
  unfold isMin
  split
  · omega
  · exact ix_le _ _
set_option maxRecDepth 100000 in
set_option maxHeartbeats 4000000 in
theorem c_X6_isMinute (σ V : St) (hV : vw σ = V) (hI : InvN V) (x y : Int32) : Cl LAY yX6_isMinute cX6_isMinute 3 (some .boolean) 2 42 [.ref 33, .int x, .int y] σ (EI (fun r τ => r = nI (isMin V x y) ∧ τ = σ)) := by
  refine Cl.of 0 rfl rfl (EI.okZ (okB (isMin_le _ _ _))) ?_
  show Rn LAY none RX6 _ _ _ _ 0 [some (.ref 33), some (.int x), some (.int y)] [] _ _
  refine r_iload_n (q := 1) dX6_isMinute_0 rfl rfl ?_
  refine r_sI1 (q := 4) vX6_107 dX6_isMinute_1 rfl (by decide) (by decide) (by decide) (c_X6_isDay _ _) ?_
  rintro _ _ ⟨rfl, rfl⟩
  refine r_if_eqN (t := 27) (q := 7) dX6_isMinute_4 (by decide) rfl (by have := ix_le x 8; omega) (fun c4 => ?_) (fun c4 => ?_)
  · refine r_iconst (q := 28) (v := nI 0) dX6_isMinute_27 rfl (by decide) ?_
    exact r_retI dX6_isMinute_28 ⟨by first | (rw [isMin, if_pos c4]; done) | (have h := ix_in y (n := nv V 34 d) (by have := bd hI 34 d 24 rfl rfl; omega); have h2 := ix_le y (nv V 34 d); rw [isMin, if_neg c4, nI_clamp (by omega)]; congr 1; omega), rfl⟩
  · obtain ⟨d, hd, rfl⟩ := ix_of c4
    refine r_iload_n (q := 8) dX6_isMinute_7 rfl rfl ?_
    refine r_iconst (q := 9) (v := nI 0) dX6_isMinute_8 rfl (by decide) ?_
    refine r_aload_n (q := 10) dX6_isMinute_9 rfl rfl ?_
    refine gX6_7 (q := 13) dX6_isMinute_10 rfl ?_
    refine r_iload_n (q := 14) dX6_isMinute_13 rfl rfl ?_
    refine r_ialdV (q := 15) hV hI dX6_isMinute_14 rfl LA34 rfl rfl (by decide) (by omega) ?_
    refine r_iconst (q := 16) (v := nI 1) dX6_isMinute_15 rfl (by decide) ?_
    refine r_isub (q := 17) dX6_isMinute_16 rfl ?_
    refine r_sI3 (q := 20) vX6_100 dX6_isMinute_17 rfl (by decide) (by decide) (by decide) (c_X6_in _ _ _ _) ?_
    rintro _ _ ⟨rfl, rfl⟩
    refine r_if_eqN (t := 27) (q := 23) dX6_isMinute_20 (by decide) rfl (by have h := ix_in y (n := nv V 34 d) (by have := bd hI 34 d 24 rfl rfl; omega); have := ix_le y (nv V 34 d); omega) (fun c20 => ?_) (fun c20 => ?_)
    · refine r_iconst (q := 28) (v := nI 0) dX6_isMinute_27 rfl (by decide) ?_
      exact r_retI dX6_isMinute_28 ⟨by first | (rw [isMin, if_pos c4]; done) | (have h := ix_in y (n := nv V 34 d) (by have := bd hI 34 d 24 rfl rfl; omega); have h2 := ix_le y (nv V 34 d); rw [isMin, if_neg c4, nI_clamp (by omega)]; congr 1; omega), rfl⟩
    · refine r_iconst (q := 24) (v := nI 1) dX6_isMinute_23 rfl (by decide) ?_
      refine r_goto (q := 28) dX6_isMinute_24 (by decide) ?_
      exact r_retI dX6_isMinute_28 ⟨by first | (rw [isMin, if_pos c4]; done) | (have h := ix_in y (n := nv V 34 d) (by have := bd hI 34 d 24 rfl rfl; omega); have h2 := ix_le y (nv V 34 d); rw [isMin, if_neg c4, nI_clamp (by omega)]; congr 1; omega), rfl⟩
/-- how many CELLS a WINDOW has -/
def cls (V : St) (w : Nat) : Nat := (nv V 53 w - nv V 52 w) * (nv V 55 w - nv V 54 w)
/-- what holds of the WINDOWS -/
def InvW (V : St) : Prop := ∀ w, nv V 52 w ≤ nv V 53 w ∧ nv V 54 w ≤ nv V 55 w ∧ cls V w ≤ 64 ∧ (w < nv V 33 19 → nv V 52 w < nv V 53 w ∧ nv V 54 w < nv V 55 w)
set_option maxRecDepth 100000 in
set_option maxHeartbeats 4000000 in
theorem c_X6_cellsOf (σ V : St) (hV : vw σ = V) (hI : InvN V) (hw : InvW V) (w : Nat) (h : w < 20) : Cl LAY yX6_cellsOf cX6_cellsOf 2 (some .int) 0 0 [.ref 33, .int (nI w)] σ (EI (fun r τ => r = nI (cls V w) ∧ τ = σ)) := by
  refine Cl.of 0 rfl rfl EI.ok ?_
  show Rn LAY none RX6 _ _ _ _ 0 [some (.ref 33), some (.int (nI w))] [] _ _
  refine r_aload_n (q := 1) dX6_cellsOf_0 rfl rfl ?_
  refine gX6_72 (q := 4) dX6_cellsOf_1 rfl ?_
  refine r_iload_n (q := 5) dX6_cellsOf_4 rfl rfl ?_
  refine r_ialdV (q := 6) hV hI dX6_cellsOf_5 rfl LA53 rfl rfl (by decide) (by omega) ?_
  refine r_aload_n (q := 7) dX6_cellsOf_6 rfl rfl ?_
  refine gX6_69 (q := 10) dX6_cellsOf_7 rfl ?_
  refine r_iload_n (q := 11) dX6_cellsOf_10 rfl rfl ?_
  refine r_ialdV (q := 12) hV hI dX6_cellsOf_11 rfl LA52 rfl rfl (by decide) (by omega) ?_
  refine r_isubN (q := 13) dX6_cellsOf_12 rfl (hw w).1 ?_
  refine r_aload_n (q := 14) dX6_cellsOf_13 rfl rfl ?_
  refine gX6_78 (q := 17) dX6_cellsOf_14 rfl ?_
  refine r_iload_n (q := 18) dX6_cellsOf_17 rfl rfl ?_
  refine r_ialdV (q := 19) hV hI dX6_cellsOf_18 rfl LA55 rfl rfl (by decide) (by omega) ?_
  refine r_aload_n (q := 20) dX6_cellsOf_19 rfl rfl ?_
  refine gX6_75 (q := 23) dX6_cellsOf_20 rfl ?_
  refine r_iload_n (q := 24) dX6_cellsOf_23 rfl rfl ?_
  refine r_ialdV (q := 25) hV hI dX6_cellsOf_24 rfl LA54 rfl rfl (by decide) (by omega) ?_
  refine r_isubN (q := 26) dX6_cellsOf_25 rfl (hw w).2.1 ?_
  refine r_imulN (q := 27) dX6_cellsOf_26 rfl ?_
  exact r_retI dX6_cellsOf_27 ⟨rfl, rfl⟩
/-- why a BLOCK isn't one that is only PLANNED -/
def lack (V : St) (x : Int32) : Int32 := if ix x (nv V 33 7) = 0 then -1 else if nv V 39 x.toNatClampNeg = 3 then (if nv V 49 x.toNatClampNeg = 0 then (if nv V 48 x.toNatClampNeg = 0 then 0 else -3) else -3) else -2
set_option maxRecDepth 100000 in
set_option maxHeartbeats 4000000 in
theorem c_X6_lackOfPlan (σ V : St) (hV : vw σ = V) (hI : InvN V) (x : Int32) : Cl LAY yX6_lackOfPlan cX6_lackOfPlan 2 (some .int) 2 43 [.ref 33, .int x] σ (EI (fun r τ => r = lack V x ∧ τ = σ)) := by
  refine Cl.of 0 rfl rfl EI.ok ?_
  show Rn LAY none RX6 _ _ _ _ 0 [some (.ref 33), some (.int x)] [] _ _
  refine r_aload_n (q := 1) dX6_lackOfPlan_0 rfl rfl ?_
  refine r_iload_n (q := 2) dX6_lackOfPlan_1 rfl rfl ?_
  refine r_cI1 (q := 5) vX6_115 dX6_lackOfPlan_2 rfl LYX6 rfl (by decide) (by decide) (by decide) (c_X6_isBlock _ V hV hI _) ?_
  rintro _ _ ⟨rfl, rfl⟩
  refine r_if_neN (t := 12) (q := 8) dX6_lackOfPlan_5 (by decide) rfl (by have := ix_le x (nv V 33 7); omega) (fun c5 => ?_) (fun c5 => ?_)
  · have hnb := bd hI 33 7 40 rfl rfl
    obtain ⟨b, hb, rfl⟩ := ix_of c5
    refine r_aload_n (q := 13) dX6_lackOfPlan_12 rfl rfl ?_
    refine gX6_29 (q := 16) dX6_lackOfPlan_13 rfl ?_
    refine r_iload_n (q := 17) dX6_lackOfPlan_16 rfl rfl ?_
    refine r_ialdV (q := 18) hV hI dX6_lackOfPlan_17 rfl LA39 rfl rfl (by decide) (by omega) ?_
    refine r_iconst (q := 19) (v := nI 3) dX6_lackOfPlan_18 rfl (by decide) ?_
    refine r_icmp_eqN (t := 27) (q := 22) dX6_lackOfPlan_19 (by decide) rfl (by have := bd hI 39 b 3 rfl rfl; omega) (by omega) (fun c19 => ?_) (fun c19 => ?_)
    · refine r_aload_n (q := 28) dX6_lackOfPlan_27 rfl rfl ?_
      refine gX6_60 (q := 31) dX6_lackOfPlan_28 rfl ?_
      refine r_iload_n (q := 32) dX6_lackOfPlan_31 rfl rfl ?_
      refine r_zaldV (q := 33) hV hI dX6_lackOfPlan_32 rfl LA49 rfl rfl (by decide) (by omega) ?_
      refine r_if_neN (t := 45) (q := 36) dX6_lackOfPlan_33 (by decide) rfl (by have := bd hI 49 b 1 rfl rfl; omega) (fun c33 => ?_) (fun c33 => ?_)
      · refine r_bipush (q := 47) (v := -3) dX6_lackOfPlan_45 rfl (by decide) ?_
        refine r_goto (q := 51) dX6_lackOfPlan_47 (by decide) ?_
        exact r_retI dX6_lackOfPlan_51 ⟨by first | (rw [lack, if_pos c5]; done) | (rw [lack, if_neg c5, nI_clamp (by omega)]; simp [*]; done) | (rw [lack, if_neg c5, nI_clamp (by omega)]; simp [*]; rfl), rfl⟩
      · refine r_aload_n (q := 37) dX6_lackOfPlan_36 rfl rfl ?_
        refine gX6_56 (q := 40) dX6_lackOfPlan_37 rfl ?_
        refine r_iload_n (q := 41) dX6_lackOfPlan_40 rfl rfl ?_
        refine r_zaldV (q := 42) hV hI dX6_lackOfPlan_41 rfl LA48 rfl rfl (by decide) (by omega) ?_
        refine r_if_eqN (t := 50) (q := 45) dX6_lackOfPlan_42 (by decide) rfl (by have := bd hI 48 b 1 rfl rfl; omega) (fun c42 => ?_) (fun c42 => ?_)
        · refine r_iconst (q := 51) (v := nI 0) dX6_lackOfPlan_50 rfl (by decide) ?_
          exact r_retI dX6_lackOfPlan_51 ⟨by first | (rw [lack, if_pos c5]; done) | (rw [lack, if_neg c5, nI_clamp (by omega)]; simp [*]; done) | (rw [lack, if_neg c5, nI_clamp (by omega)]; simp [*]; rfl), rfl⟩
        · refine r_bipush (q := 47) (v := -3) dX6_lackOfPlan_45 rfl (by decide) ?_
          refine r_goto (q := 51) dX6_lackOfPlan_47 (by decide) ?_
          exact r_retI dX6_lackOfPlan_51 ⟨by first | (rw [lack, if_pos c5]; done) | (rw [lack, if_neg c5, nI_clamp (by omega)]; simp [*]; done) | (rw [lack, if_neg c5, nI_clamp (by omega)]; simp [*]; rfl), rfl⟩
    · refine r_bipush (q := 24) (v := -2) dX6_lackOfPlan_22 rfl (by decide) ?_
      refine r_goto (q := 51) dX6_lackOfPlan_24 (by decide) ?_
      exact r_retI dX6_lackOfPlan_51 ⟨by first | (rw [lack, if_pos c5]; done) | (rw [lack, if_neg c5, nI_clamp (by omega)]; simp [*]; done) | (rw [lack, if_neg c5, nI_clamp (by omega)]; simp [*]; rfl), rfl⟩
  · refine r_iconst (q := 9) (v := -1) dX6_lackOfPlan_8 rfl (by decide) ?_
    refine r_goto (q := 51) dX6_lackOfPlan_9 (by decide) ?_
    exact r_retI dX6_lackOfPlan_51 ⟨by first | (rw [lack, if_pos c5]; done) | (rw [lack, if_neg c5, nI_clamp (by omega)]; simp [*]; done) | (rw [lack, if_neg c5, nI_clamp (by omega)]; simp [*]; rfl), rfl⟩
/-- a BLOCK is there -/
def there (V : St) (b : Nat) : Nat := if nv V 49 b = 0 then (if nv V 39 b = 3 then (if nv V 48 b = 0 then (if nI b = V 33 29 then 1 else 0) else 1) else 1) else 0
theorem there_le (V : St) (b : Nat) : there V b ≤ 1 := by unfold there; (repeat' split); all_goals omega
/-- its TOP, as thought -/
def topT (V : St) (b : Nat) : Nat := if nI b = V 33 29 then nv V 33 30 else nv V 45 b
theorem topT_le {V : St} (hI : InvN V) (b : Nat) : topT V b ≤ 200 := by
  unfold topT
  split
  · exact bd hI 33 30 200 rfl rfl
  · exact bd hI 45 b 200 rfl rfl
set_option maxRecDepth 100000 in
set_option maxHeartbeats 4000000 in
theorem c_X6_isThere (σ V : St) (hV : vw σ = V) (hI : InvN V) (b : Nat) (h : b < 40) : Cl LAY yX6_isThere cX6_isThere 2 (some .boolean) 0 0 [.ref 33, .int (nI b)] σ (EI (fun r τ => r = nI (there V b) ∧ τ = σ)) := by
  refine Cl.of 0 rfl rfl (EI.okZ (okB (there_le _ _))) ?_
  show Rn LAY none RX6 _ _ _ _ 0 [some (.ref 33), some (.int (nI b))] [] _ _
  refine r_aload_n (q := 1) dX6_isThere_0 rfl rfl ?_
  refine gX6_60 (q := 4) dX6_isThere_1 rfl ?_
  refine r_iload_n (q := 5) dX6_isThere_4 rfl rfl ?_
  refine r_zaldV (q := 6) hV hI dX6_isThere_5 rfl LA49 rfl rfl (by decide) (by omega) ?_
  refine r_if_neN (t := 40) (q := 9) dX6_isThere_6 (by decide) rfl (by have := bd hI 49 b 1 rfl rfl; omega) (fun c6 => ?_) (fun c6 => ?_)
  · refine r_iconst (q := 41) (v := nI 0) dX6_isThere_40 rfl (by decide) ?_
    exact r_retI dX6_isThere_41 ⟨(by simp only [there]; (repeat' split); all_goals first | rfl | contradiction | omega | (exfalso; omega)), rfl⟩
  · refine r_aload_n (q := 10) dX6_isThere_9 rfl rfl ?_
    refine gX6_29 (q := 13) dX6_isThere_10 rfl ?_
    refine r_iload_n (q := 14) dX6_isThere_13 rfl rfl ?_
    refine r_ialdV (q := 15) hV hI dX6_isThere_14 rfl LA39 rfl rfl (by decide) (by omega) ?_
    refine r_iconst (q := 16) (v := nI 3) dX6_isThere_15 rfl (by decide) ?_
    refine r_icmp_neN (t := 36) (q := 19) dX6_isThere_16 (by decide) rfl (by have := bd hI 39 b 3 rfl rfl; omega) (by omega) (fun c16 => ?_) (fun c16 => ?_)
    · refine r_iconst (q := 37) (v := nI 1) dX6_isThere_36 rfl (by decide) ?_
      refine r_goto (q := 41) dX6_isThere_37 (by decide) ?_
      exact r_retI dX6_isThere_41 ⟨(by simp only [there]; (repeat' split); all_goals first | rfl | contradiction | omega | (exfalso; omega)), rfl⟩
    · refine r_aload_n (q := 20) dX6_isThere_19 rfl rfl ?_
      refine gX6_56 (q := 23) dX6_isThere_20 rfl ?_
      refine r_iload_n (q := 24) dX6_isThere_23 rfl rfl ?_
      refine r_zaldV (q := 25) hV hI dX6_isThere_24 rfl LA48 rfl rfl (by decide) (by omega) ?_
      refine r_if_neN (t := 36) (q := 28) dX6_isThere_25 (by decide) rfl (by have := bd hI 48 b 1 rfl rfl; omega) (fun c25 => ?_) (fun c25 => ?_)
      · refine r_iconst (q := 37) (v := nI 1) dX6_isThere_36 rfl (by decide) ?_
        refine r_goto (q := 41) dX6_isThere_37 (by decide) ?_
        exact r_retI dX6_isThere_41 ⟨(by simp only [there]; (repeat' split); all_goals first | rfl | contradiction | omega | (exfalso; omega)), rfl⟩
      · refine r_iload_n (q := 29) dX6_isThere_28 rfl rfl ?_
        refine r_aload_n (q := 30) dX6_isThere_29 rfl rfl ?_
        refine gwX6_90 (q := 33) hV dX6_isThere_30 rfl ?_
        refine r_icmp_ne (t := 40) (q := 36) dX6_isThere_33 (by decide) rfl (fun c33 => ?_) (fun c33 => ?_)
        · refine r_iconst (q := 41) (v := nI 0) dX6_isThere_40 rfl (by decide) ?_
          exact r_retI dX6_isThere_41 ⟨(by simp only [there]; (repeat' split); all_goals first | rfl | contradiction | omega | (exfalso; omega)), rfl⟩
        · refine r_iconst (q := 37) (v := nI 1) dX6_isThere_36 rfl (by decide) ?_
          refine r_goto (q := 41) dX6_isThere_37 (by decide) ?_
          exact r_retI dX6_isThere_41 ⟨(by simp only [there]; (repeat' split); all_goals first | rfl | contradiction | omega | (exfalso; omega)), rfl⟩
set_option maxRecDepth 100000 in
set_option maxHeartbeats 4000000 in
theorem c_X6_topOf (σ V : St) (hV : vw σ = V) (hI : InvN V) (b : Nat) (h : b < 40) : Cl LAY yX6_topOf cX6_topOf 2 (some .int) 0 0 [.ref 33, .int (nI b)] σ (EI (fun r τ => r = nI (topT V b) ∧ τ = σ)) := by
  refine Cl.of 0 rfl rfl EI.ok ?_
  show Rn LAY none RX6 _ _ _ _ 0 [some (.ref 33), some (.int (nI b))] [] _ _
  refine r_iload_n (q := 1) dX6_topOf_0 rfl rfl ?_
  refine r_aload_n (q := 2) dX6_topOf_1 rfl rfl ?_
  refine gwX6_90 (q := 5) hV dX6_topOf_2 rfl ?_
  refine r_icmp_ne (t := 15) (q := 8) dX6_topOf_5 (by decide) rfl (fun c5 => ?_) (fun c5 => ?_)
  · refine r_aload_n (q := 16) dX6_topOf_15 rfl rfl ?_
    refine gX6_47 (q := 19) dX6_topOf_16 rfl ?_
    refine r_iload_n (q := 20) dX6_topOf_19 rfl rfl ?_
    refine r_ialdV (q := 21) hV hI dX6_topOf_20 rfl LA45 rfl rfl (by decide) (by omega) ?_
    exact r_retI dX6_topOf_21 ⟨(by simp only [topT]; (repeat' split); all_goals first | rfl | contradiction | omega | (exfalso; omega)), rfl⟩
  · refine r_aload_n (q := 9) dX6_topOf_8 rfl rfl ?_
    refine gvX6_121 (q := 12) hV hI dX6_topOf_9 rfl ?_
    refine r_goto (q := 21) dX6_topOf_12 (by decide) ?_
    exact r_retI dX6_topOf_21 ⟨(by simp only [topT]; (repeat' split); all_goals first | rfl | contradiction | omega | (exfalso; omega)), rfl⟩
/-- the SUN's way at a MINUTE leads to the SIDE of a WINDOW -/
def front (V : St) (w k : Nat) : Nat := if nv V 50 w % 2 = 0 then (if (if nv V 50 w < 2 then V 35 k else V 36 k) ≤ 0 then 0 else 1) else (if 0 ≤ (if nv V 50 w < 2 then V 35 k else V 36 k) then 0 else 1)
theorem front_le (V : St) (w k : Nat) : front V w k ≤ 1 := by
  unfold front
  (repeat' split)
  all_goals omega
set_option maxRecDepth 100000 in
set_option maxHeartbeats 4000000 in
theorem c_X6_isInFront (σ V : St) (hV : vw σ = V) (hI : InvN V) (w k : Nat) (hw : w < 20) (hk : k < 192) : Cl LAY yX6_isInFront cX6_isInFront 4 (some .boolean) 0 0 [.ref 33, .int (nI w), .int (nI k)] σ (EI (fun r τ => r = nI (front V w k) ∧ τ = σ)) := by
  refine Cl.of 1 rfl rfl (EI.okZ (okB (front_le _ _ _))) ?_
  show Rn LAY none RX6 _ _ _ _ 0 [some (.ref 33), some (.int (nI w)), some (.int (nI k)), none] [] _ _
  refine r_aload_n (q := 1) dX6_isInFront_0 rfl rfl ?_
  refine gX6_63 (q := 4) dX6_isInFront_1 rfl ?_
  refine r_iload_n (q := 5) dX6_isInFront_4 rfl rfl ?_
  refine r_ialdV (q := 6) hV hI dX6_isInFront_5 rfl LA50 rfl rfl (by decide) (by omega) ?_
  refine r_iconst (q := 7) (v := nI 2) dX6_isInFront_6 rfl (by decide) ?_
  refine r_icmp_geN (t := 19) (q := 10) dX6_isInFront_7 (by decide) rfl (by have := bd hI 50 w 3 rfl rfl; omega) (by omega) (fun c7 => ?_) (fun c7 => ?_)
  · refine r_aload_n (q := 20) dX6_isInFront_19 rfl rfl ?_
    refine gX6_16 (q := 23) dX6_isInFront_20 rfl ?_
    refine r_iload_n (q := 24) dX6_isInFront_23 rfl rfl ?_
    refine r_ialdW (q := 25) hV dX6_isInFront_24 rfl LA36 rfl (by decide) (by omega) ?_
    refine r_istore_n (q := 26) dX6_isInFront_25 rfl (Nat.le_of_ble_eq_true rfl) ?_
    refine r_aload_n (q := 27) dX6_isInFront_26 rfl rfl ?_
    refine gX6_63 (q := 30) dX6_isInFront_27 rfl ?_
    refine r_iload_n (q := 31) dX6_isInFront_30 rfl rfl ?_
    refine r_ialdV (q := 32) hV hI dX6_isInFront_31 rfl LA50 rfl rfl (by decide) (by omega) ?_
    refine r_iconst (q := 33) (v := nI 2) dX6_isInFront_32 rfl (by decide) ?_
    refine r_iremN (q := 34) dX6_isInFront_33 rfl (by have := bd hI 50 w 3 rfl rfl; omega) (by omega) (by omega) ?_
    refine r_if_neN (t := 49) (q := 37) dX6_isInFront_34 (by decide) rfl (by have := bd hI 50 w 3 rfl rfl; omega) (fun c34 => ?_) (fun c34 => ?_)
    · refine r_iload_n (q := 50) dX6_isInFront_49 rfl rfl ?_
      refine r_if_ge (t := 57) (q := 53) dX6_isInFront_50 (by decide) rfl (fun c50 => ?_) (fun c50 => ?_)
      · refine r_iconst (q := 58) (v := nI 0) dX6_isInFront_57 rfl (by decide) ?_
        exact r_retI dX6_isInFront_58 ⟨(by simp only [front]; (repeat' split); all_goals first | rfl | contradiction | omega | (exfalso; omega)), rfl⟩
      · refine r_iconst (q := 54) (v := nI 1) dX6_isInFront_53 rfl (by decide) ?_
        refine r_goto (q := 58) dX6_isInFront_54 (by decide) ?_
        exact r_retI dX6_isInFront_58 ⟨(by simp only [front]; (repeat' split); all_goals first | rfl | contradiction | omega | (exfalso; omega)), rfl⟩
    · refine r_iload_n (q := 38) dX6_isInFront_37 rfl rfl ?_
      refine r_if_le (t := 45) (q := 41) dX6_isInFront_38 (by decide) rfl (fun c38 => ?_) (fun c38 => ?_)
      · refine r_iconst (q := 46) (v := nI 0) dX6_isInFront_45 rfl (by decide) ?_
        refine r_goto (q := 58) dX6_isInFront_46 (by decide) ?_
        exact r_retI dX6_isInFront_58 ⟨(by simp only [front]; (repeat' split); all_goals first | rfl | contradiction | omega | (exfalso; omega)), rfl⟩
      · refine r_iconst (q := 42) (v := nI 1) dX6_isInFront_41 rfl (by decide) ?_
        refine r_goto (q := 58) dX6_isInFront_42 (by decide) ?_
        exact r_retI dX6_isInFront_58 ⟨(by simp only [front]; (repeat' split); all_goals first | rfl | contradiction | omega | (exfalso; omega)), rfl⟩
  · refine r_aload_n (q := 11) dX6_isInFront_10 rfl rfl ?_
    refine gX6_13 (q := 14) dX6_isInFront_11 rfl ?_
    refine r_iload_n (q := 15) dX6_isInFront_14 rfl rfl ?_
    refine r_ialdW (q := 16) hV dX6_isInFront_15 rfl LA35 rfl (by decide) (by omega) ?_
    refine r_goto (q := 25) dX6_isInFront_16 (by decide) ?_
    refine r_istore_n (q := 26) dX6_isInFront_25 rfl (Nat.le_of_ble_eq_true rfl) ?_
    refine r_aload_n (q := 27) dX6_isInFront_26 rfl rfl ?_
    refine gX6_63 (q := 30) dX6_isInFront_27 rfl ?_
    refine r_iload_n (q := 31) dX6_isInFront_30 rfl rfl ?_
    refine r_ialdV (q := 32) hV hI dX6_isInFront_31 rfl LA50 rfl rfl (by decide) (by omega) ?_
    refine r_iconst (q := 33) (v := nI 2) dX6_isInFront_32 rfl (by decide) ?_
    refine r_iremN (q := 34) dX6_isInFront_33 rfl (by have := bd hI 50 w 3 rfl rfl; omega) (by omega) (by omega) ?_
    refine r_if_neN (t := 49) (q := 37) dX6_isInFront_34 (by decide) rfl (by have := bd hI 50 w 3 rfl rfl; omega) (fun c34 => ?_) (fun c34 => ?_)
    · refine r_iload_n (q := 50) dX6_isInFront_49 rfl rfl ?_
      refine r_if_ge (t := 57) (q := 53) dX6_isInFront_50 (by decide) rfl (fun c50 => ?_) (fun c50 => ?_)
      · refine r_iconst (q := 58) (v := nI 0) dX6_isInFront_57 rfl (by decide) ?_
        exact r_retI dX6_isInFront_58 ⟨(by simp only [front]; (repeat' split); all_goals first | rfl | contradiction | omega | (exfalso; omega)), rfl⟩
      · refine r_iconst (q := 54) (v := nI 1) dX6_isInFront_53 rfl (by decide) ?_
        refine r_goto (q := 58) dX6_isInFront_54 (by decide) ?_
        exact r_retI dX6_isInFront_58 ⟨(by simp only [front]; (repeat' split); all_goals first | rfl | contradiction | omega | (exfalso; omega)), rfl⟩
    · refine r_iload_n (q := 38) dX6_isInFront_37 rfl rfl ?_
      refine r_if_le (t := 45) (q := 41) dX6_isInFront_38 (by decide) rfl (fun c38 => ?_) (fun c38 => ?_)
      · refine r_iconst (q := 46) (v := nI 0) dX6_isInFront_45 rfl (by decide) ?_
        refine r_goto (q := 58) dX6_isInFront_46 (by decide) ?_
        exact r_retI dX6_isInFront_58 ⟨(by simp only [front]; (repeat' split); all_goals first | rfl | contradiction | omega | (exfalso; omega)), rfl⟩
      · refine r_iconst (q := 42) (v := nI 1) dX6_isInFront_41 rfl (by decide) ?_
        refine r_goto (q := 58) dX6_isInFront_42 (by decide) ?_
        exact r_retI dX6_isInFront_58 ⟨(by simp only [front]; (repeat' split); all_goals first | rfl | contradiction | omega | (exfalso; omega)), rfl⟩
def kept (V : St) (w : Nat) : Nat := if V 56 w < 3 then 0 else if nv V 57 w = 0 then 1 else 0
theorem kept_le (V : St) (w : Nat) : kept V w ≤ 1 := by unfold kept; (repeat' split); all_goals omega
set_option maxRecDepth 100000 in
set_option maxHeartbeats 4000000 in
theorem c_X6_isKept (σ V : St) (hV : vw σ = V) (hI : InvN V) (w : Nat) (h : w < 20) : Cl LAY yX6_isKept cX6_isKept 2 (some .boolean) 0 0 [.ref 33, .int (nI w)] σ (EI (fun r τ => r = nI (kept V w) ∧ τ = σ)) := by
  refine Cl.of 0 rfl rfl (EI.okZ (okB (kept_le _ _))) ?_
  show Rn LAY none RX6 _ _ _ _ 0 [some (.ref 33), some (.int (nI w))] [] _ _
  refine r_aload_n (q := 1) dX6_isKept_0 rfl rfl ?_
  refine gX6_81 (q := 4) dX6_isKept_1 rfl ?_
  refine r_iload_n (q := 5) dX6_isKept_4 rfl rfl ?_
  refine r_ialdW (q := 6) hV dX6_isKept_5 rfl LA56 rfl (by decide) (by omega) ?_
  refine r_iconst (q := 7) (v := nI 3) dX6_isKept_6 rfl (by decide) ?_
  refine r_icmp_lt (t := 23) (q := 10) dX6_isKept_7 (by decide) rfl (fun c7 => ?_) (fun c7 => ?_)
  · refine r_iconst (q := 24) (v := nI 0) dX6_isKept_23 rfl (by decide) ?_
    exact r_retI dX6_isKept_24 ⟨(by simp only [kept]; (repeat' split); all_goals first | rfl | contradiction | omega | (exfalso; omega)), rfl⟩
  · refine r_aload_n (q := 11) dX6_isKept_10 rfl rfl ?_
    refine gX6_84 (q := 14) dX6_isKept_11 rfl ?_
    refine r_iload_n (q := 15) dX6_isKept_14 rfl rfl ?_
    refine r_zaldV (q := 16) hV hI dX6_isKept_15 rfl LA57 rfl rfl (by decide) (by omega) ?_
    refine r_if_neN (t := 23) (q := 19) dX6_isKept_16 (by decide) rfl (by have := bd hI 57 w 1 rfl rfl; omega) (fun c16 => ?_) (fun c16 => ?_)
    · refine r_iconst (q := 24) (v := nI 0) dX6_isKept_23 rfl (by decide) ?_
      exact r_retI dX6_isKept_24 ⟨(by simp only [kept]; (repeat' split); all_goals first | rfl | contradiction | omega | (exfalso; omega)), rfl⟩
    · refine r_iconst (q := 20) (v := nI 1) dX6_isKept_19 rfl (by decide) ?_
      refine r_goto (q := 24) dX6_isKept_20 (by decide) ?_
      exact r_retI dX6_isKept_24 ⟨(by simp only [kept]; (repeat' split); all_goals first | rfl | contradiction | omega | (exfalso; omega)), rfl⟩
end
section
/-! ===== the reference's geometry ===== -/
/-- the POINT of a CELL, twice -/
def ptU (V : St) (w c : Nat) : Nat := 2 * (nv V 52 w + c % (nv V 53 w - nv V 52 w)) + 1
def ptX (V : St) (w c : Nat) : Nat := if nv V 50 w < 2 then 2 * nv V 51 w else ptU V w c
def ptY (V : St) (w c : Nat) : Nat := if nv V 50 w < 2 then ptU V w c else 2 * nv V 51 w
def ptZ (V : St) (w c : Nat) : Nat := 2 * (nv V 54 w + c / (nv V 53 w - nv V 52 w)) + 1
def shown (V : St) (w c k : Nat) (τ : St) : Prop := τ 33 36 = nI (ptX V w c) ∧ τ 33 37 = nI (ptY V w c) ∧ τ 33 38 = nI (ptZ V w c) ∧ τ 33 39 = V 35 k ∧ τ 33 40 = V 36 k ∧ τ 33 41 = nI (nv V 37 k)
/-- nothing but the reference's scratch of 'stands' has changed -/
def off5 (σ τ : St) : Prop := ∀ k i, ¬ (k = 33 ∧ 31 ≤ i ∧ i ≤ 35) → τ k i = σ k i
theorem off5.shown {V σ τ : St} {w c k : Nat} (h : off5 σ τ) (hs : shown V w c k σ) : shown V w c k τ := by
  obtain ⟨h1, h2, h3, h4, h5, h6⟩ := hs
  exact ⟨by rw [h _ _ (by omega)]; exact h1, by rw [h _ _ (by omega)]; exact h2, by rw [h _ _ (by omega)]; exact h3, by rw [h _ _ (by omega)]; exact h4, by rw [h _ _ (by omega)]; exact h5, by rw [h _ _ (by omega)]; exact h6⟩
theorem off5.trans {σ τ ρ : St} (h1 : off5 σ τ) (h2 : off5 τ ρ) : off5 σ ρ := fun k i h => (h2 k i h).trans (h1 k i h)
theorem off5.vw {σ τ : St} (h : off5 σ τ) : vw τ = vw σ := by
  apply vw_ext
  intro k i hs
  apply h
  rintro ⟨rfl, h1, h2⟩
  have : scr 33 i = true := by
    show (Nat.ble 31 i && Nat.ble i 41) = true
    rw [Bool.and_eq_true]
    exact ⟨Nat.ble_eq.mpr h1, Nat.ble_eq.mpr (by omega)⟩
  rw [this] at hs
  cases hs
set_option maxRecDepth 100000 in
set_option maxHeartbeats 4000000 in
theorem c_X6_show (σ V : St) (hV : vw σ = V) (hI : InvN V) (hw : InvW V) (w c k : Nat) (h20 : w < 20) (hn : w < nv V 33 19) (hk : k < 192) (hc : c < 64) : Cl LAY yX6_show cX6_show 6 (none) 0 0 [.ref 33, .int (nI w), .int (nI c), .int (nI k)] σ (EV (fun τ => vw τ = V ∧ shown V w c k τ)) := by
  refine Cl.of 2 rfl rfl EV.ok ?_
  show Rn LAY none RX6 _ _ _ _ 0 [some (.ref 33), some (.int (nI w)), some (.int (nI c)), some (.int (nI k)), none, none] [] _ _
  refine r_aload_n (q := 1) dX6_show_0 rfl rfl ?_
  refine gX6_72 (q := 4) dX6_show_1 rfl ?_
  refine r_iload_n (q := 5) dX6_show_4 rfl rfl ?_
  refine r_ialdV (q := 6) hV hI dX6_show_5 rfl LA53 rfl rfl (by decide) (by omega) ?_
  refine r_aload_n (q := 7) dX6_show_6 rfl rfl ?_
  refine gX6_69 (q := 10) dX6_show_7 rfl ?_
  refine r_iload_n (q := 11) dX6_show_10 rfl rfl ?_
  refine r_ialdV (q := 12) hV hI dX6_show_11 rfl LA52 rfl rfl (by decide) (by omega) ?_
  refine r_isubN (q := 13) dX6_show_12 rfl (hw w).1 ?_
  refine r_istore (q := 15) dX6_show_13 rfl (Nat.le_of_ble_eq_true rfl) ?_
  refine r_iconst (q := 16) (v := nI 2) dX6_show_15 rfl (by decide) ?_
  refine r_aload_n (q := 17) dX6_show_16 rfl rfl ?_
  refine gX6_69 (q := 20) dX6_show_17 rfl ?_
  refine r_iload_n (q := 21) dX6_show_20 rfl rfl ?_
  refine r_ialdV (q := 22) hV hI dX6_show_21 rfl LA52 rfl rfl (by decide) (by omega) ?_
  refine r_iload_n (q := 23) dX6_show_22 rfl rfl ?_
  refine r_iload (q := 25) dX6_show_23 rfl rfl ?_
  refine r_iremN (q := 26) dX6_show_25 rfl (by omega) (by have := (hw w).2.2.2 hn; omega) (by have := bd hI 53 w 200 rfl rfl; omega) ?_
  refine r_iaddN (q := 27) dX6_show_26 rfl ?_
  refine r_imulN (q := 28) dX6_show_27 rfl ?_
  refine r_iconst (q := 29) (v := nI 1) dX6_show_28 rfl (by decide) ?_
  refine r_iaddN (q := 30) dX6_show_29 rfl ?_
  refine r_istore (q := 32) dX6_show_30 rfl (Nat.le_of_ble_eq_true rfl) ?_
  refine r_aload_n (q := 33) dX6_show_32 rfl rfl ?_
  refine r_aload_n (q := 34) dX6_show_33 rfl rfl ?_
  refine gX6_63 (q := 37) dX6_show_34 rfl ?_
  refine r_iload_n (q := 38) dX6_show_37 rfl rfl ?_
  refine r_ialdV (q := 39) hV hI dX6_show_38 rfl LA50 rfl rfl (by decide) (by omega) ?_
  refine r_iconst (q := 40) (v := nI 2) dX6_show_39 rfl (by decide) ?_
  refine r_icmp_geN (t := 54) (q := 43) dX6_show_40 (by decide) rfl (by have := bd hI 50 w 3 rfl rfl; omega) (by omega) (fun c40 => ?_) (fun c40 => ?_)
  · refine r_iload (q := 56) dX6_show_54 rfl rfl ?_
    refine psX6_124 (q := 59) hV dX6_show_56 rfl (fun s56 e56 hV56 => ?_)
    refine r_aload_n (q := 60) dX6_show_59 rfl rfl ?_
    refine r_aload_n (q := 61) dX6_show_60 rfl rfl ?_
    refine gX6_63 (q := 64) dX6_show_61 rfl ?_
    refine r_iload_n (q := 65) dX6_show_64 rfl rfl ?_
    refine r_ialdV (q := 66) hV56 hI dX6_show_65 rfl LA50 rfl rfl (by decide) (by omega) ?_
    refine r_iconst (q := 67) (v := nI 2) dX6_show_66 rfl (by decide) ?_
    refine r_icmp_geN (t := 75) (q := 70) dX6_show_67 (by decide) rfl (by have := bd hI 50 w 3 rfl rfl; omega) (by omega) (fun c67 => ?_) (fun c67 => absurd c40 c67)
    refine r_iconst (q := 76) (v := nI 2) dX6_show_75 rfl (by decide) ?_
    refine r_aload_n (q := 77) dX6_show_76 rfl rfl ?_
    refine gX6_66 (q := 80) dX6_show_77 rfl ?_
    refine r_iload_n (q := 81) dX6_show_80 rfl rfl ?_
    refine r_ialdV (q := 82) hV56 hI dX6_show_81 rfl LA51 rfl rfl (by decide) (by omega) ?_
    refine r_imulN (q := 83) dX6_show_82 rfl ?_
    refine psX6_127 (q := 86) hV56 dX6_show_83 rfl (fun s83 e83 hV83 => ?_)
    refine r_aload_n (q := 87) dX6_show_86 rfl rfl ?_
    refine r_iconst (q := 88) (v := nI 2) dX6_show_87 rfl (by decide) ?_
    refine r_aload_n (q := 89) dX6_show_88 rfl rfl ?_
    refine gX6_75 (q := 92) dX6_show_89 rfl ?_
    refine r_iload_n (q := 93) dX6_show_92 rfl rfl ?_
    refine r_ialdV (q := 94) hV83 hI dX6_show_93 rfl LA54 rfl rfl (by decide) (by omega) ?_
    refine r_iload_n (q := 95) dX6_show_94 rfl rfl ?_
    refine r_iload (q := 97) dX6_show_95 rfl rfl ?_
    refine r_idivN (q := 98) dX6_show_97 rfl (by omega) (by have := (hw w).2.2.2 hn; omega) (by have := bd hI 53 w 200 rfl rfl; omega) ?_
    refine r_iaddN (q := 99) dX6_show_98 rfl ?_
    refine r_imulN (q := 100) dX6_show_99 rfl ?_
    refine r_iconst (q := 101) (v := nI 1) dX6_show_100 rfl (by decide) ?_
    refine r_iaddN (q := 102) dX6_show_101 rfl ?_
    refine psX6_130 (q := 105) hV83 dX6_show_102 rfl (fun s102 e102 hV102 => ?_)
    refine r_aload_n (q := 106) dX6_show_105 rfl rfl ?_
    refine r_aload_n (q := 107) dX6_show_106 rfl rfl ?_
    refine gX6_13 (q := 110) dX6_show_107 rfl ?_
    refine r_iload_n (q := 111) dX6_show_110 rfl rfl ?_
    refine r_ialdW (q := 112) hV102 dX6_show_111 rfl LA35 rfl (by decide) (by omega) ?_
    refine psX6_133 (q := 115) hV102 dX6_show_112 rfl (fun s112 e112 hV112 => ?_)
    refine r_aload_n (q := 116) dX6_show_115 rfl rfl ?_
    refine r_aload_n (q := 117) dX6_show_116 rfl rfl ?_
    refine gX6_16 (q := 120) dX6_show_117 rfl ?_
    refine r_iload_n (q := 121) dX6_show_120 rfl rfl ?_
    refine r_ialdW (q := 122) hV112 dX6_show_121 rfl LA36 rfl (by decide) (by omega) ?_
    refine psX6_136 (q := 125) hV112 dX6_show_122 rfl (fun s122 e122 hV122 => ?_)
    refine r_aload_n (q := 126) dX6_show_125 rfl rfl ?_
    refine r_aload_n (q := 127) dX6_show_126 rfl rfl ?_
    refine gX6_19 (q := 130) dX6_show_127 rfl ?_
    refine r_iload_n (q := 131) dX6_show_130 rfl rfl ?_
    refine r_ialdV (q := 132) hV122 hI dX6_show_131 rfl LA37 rfl rfl (by decide) (by omega) ?_
    refine psX6_139 (q := 135) hV122 dX6_show_132 rfl (fun s132 e132 hV132 => ?_)
    refine r_retV dX6_show_135 ⟨hV132, ?_⟩
    unfold shown ptX ptY ptZ ptU
    refine ⟨?_, ?_, ?_, ?_, ?_, ?_⟩ <;> simp only [e132, e122, e112, e102, e83, e56, u2] <;> simp <;> first | done | (split <;> first | rfl | (exfalso; omega))
  · refine r_iconst (q := 44) (v := nI 2) dX6_show_43 rfl (by decide) ?_
    refine r_aload_n (q := 45) dX6_show_44 rfl rfl ?_
    refine gX6_66 (q := 48) dX6_show_45 rfl ?_
    refine r_iload_n (q := 49) dX6_show_48 rfl rfl ?_
    refine r_ialdV (q := 50) hV hI dX6_show_49 rfl LA51 rfl rfl (by decide) (by omega) ?_
    refine r_imulN (q := 51) dX6_show_50 rfl ?_
    refine r_goto (q := 56) dX6_show_51 (by decide) ?_
    refine psX6_124 (q := 59) hV dX6_show_56 rfl (fun s56 e56 hV56 => ?_)
    refine r_aload_n (q := 60) dX6_show_59 rfl rfl ?_
    refine r_aload_n (q := 61) dX6_show_60 rfl rfl ?_
    refine gX6_63 (q := 64) dX6_show_61 rfl ?_
    refine r_iload_n (q := 65) dX6_show_64 rfl rfl ?_
    refine r_ialdV (q := 66) hV56 hI dX6_show_65 rfl LA50 rfl rfl (by decide) (by omega) ?_
    refine r_iconst (q := 67) (v := nI 2) dX6_show_66 rfl (by decide) ?_
    refine r_icmp_geN (t := 75) (q := 70) dX6_show_67 (by decide) rfl (by have := bd hI 50 w 3 rfl rfl; omega) (by omega) (fun c67 => absurd c67 c40) (fun c67 => ?_)
    refine r_iload (q := 72) dX6_show_70 rfl rfl ?_
    refine r_goto (q := 83) dX6_show_72 (by decide) ?_
    refine psX6_127 (q := 86) hV56 dX6_show_83 rfl (fun s83 e83 hV83 => ?_)
    refine r_aload_n (q := 87) dX6_show_86 rfl rfl ?_
    refine r_iconst (q := 88) (v := nI 2) dX6_show_87 rfl (by decide) ?_
    refine r_aload_n (q := 89) dX6_show_88 rfl rfl ?_
    refine gX6_75 (q := 92) dX6_show_89 rfl ?_
    refine r_iload_n (q := 93) dX6_show_92 rfl rfl ?_
    refine r_ialdV (q := 94) hV83 hI dX6_show_93 rfl LA54 rfl rfl (by decide) (by omega) ?_
    refine r_iload_n (q := 95) dX6_show_94 rfl rfl ?_
    refine r_iload (q := 97) dX6_show_95 rfl rfl ?_
    refine r_idivN (q := 98) dX6_show_97 rfl (by omega) (by have := (hw w).2.2.2 hn; omega) (by have := bd hI 53 w 200 rfl rfl; omega) ?_
    refine r_iaddN (q := 99) dX6_show_98 rfl ?_
    refine r_imulN (q := 100) dX6_show_99 rfl ?_
    refine r_iconst (q := 101) (v := nI 1) dX6_show_100 rfl (by decide) ?_
    refine r_iaddN (q := 102) dX6_show_101 rfl ?_
    refine psX6_130 (q := 105) hV83 dX6_show_102 rfl (fun s102 e102 hV102 => ?_)
    refine r_aload_n (q := 106) dX6_show_105 rfl rfl ?_
    refine r_aload_n (q := 107) dX6_show_106 rfl rfl ?_
    refine gX6_13 (q := 110) dX6_show_107 rfl ?_
    refine r_iload_n (q := 111) dX6_show_110 rfl rfl ?_
    refine r_ialdW (q := 112) hV102 dX6_show_111 rfl LA35 rfl (by decide) (by omega) ?_
    refine psX6_133 (q := 115) hV102 dX6_show_112 rfl (fun s112 e112 hV112 => ?_)
    refine r_aload_n (q := 116) dX6_show_115 rfl rfl ?_
    refine r_aload_n (q := 117) dX6_show_116 rfl rfl ?_
    refine gX6_16 (q := 120) dX6_show_117 rfl ?_
    refine r_iload_n (q := 121) dX6_show_120 rfl rfl ?_
    refine r_ialdW (q := 122) hV112 dX6_show_121 rfl LA36 rfl (by decide) (by omega) ?_
    refine psX6_136 (q := 125) hV112 dX6_show_122 rfl (fun s122 e122 hV122 => ?_)
    refine r_aload_n (q := 126) dX6_show_125 rfl rfl ?_
    refine r_aload_n (q := 127) dX6_show_126 rfl rfl ?_
    refine gX6_19 (q := 130) dX6_show_127 rfl ?_
    refine r_iload_n (q := 131) dX6_show_130 rfl rfl ?_
    refine r_ialdV (q := 132) hV122 hI dX6_show_131 rfl LA37 rfl rfl (by decide) (by omega) ?_
    refine psX6_139 (q := 135) hV122 dX6_show_132 rfl (fun s132 e132 hV132 => ?_)
    refine r_retV dX6_show_135 ⟨hV132, ?_⟩
    unfold shown ptX ptY ptZ ptU
    refine ⟨?_, ?_, ?_, ?_, ?_, ?_⟩ <;> simp only [e132, e122, e112, e102, e83, e56, u2] <;> simp <;> first | done | (split <;> first | rfl | (exfalso; omega))
def gFi (f y a b : Int32) : Int32 := if y ≤ 0 then f - b else a - f
def gLa (f y a b : Int32) : Int32 := if y ≤ 0 then f - a else b - f
def gUn (y : Int32) : Int32 := nI 2 * (if y ≤ 0 then -y else y)
def gOut (f y a b o : Int32) : Int32 := if y = 0 then (if o = 0 then (if f ≤ a then 1 else if f < b then 0 else 1) else 1) else o
def gLow (f y a b : Int32) (p : Int32 × Int32) : Int32 × Int32 := if y = 0 then p else if gFi f y a b * p.2 ≤ p.1 * gUn y then p else (gFi f y a b, gUn y)
def gHigh (f y a b : Int32) (p : Int32 × Int32) : Int32 × Int32 := if y = 0 then p else if p.2 = 0 then (gLa f y a b, gUn y) else if p.1 * gUn y ≤ gLa f y a b * p.2 then p else (gLa f y a b, gUn y)
set_option maxRecDepth 100000 in
set_option maxHeartbeats 4000000 in
theorem c_X6_bound (σ V : St) (hV : vw σ = V) (f y a b : Int32) (ho : σ 33 35 = 0 ∨ σ 33 35 = 1) : Cl LAY yX6_bound cX6_bound 8 (none) 0 0 [.ref 33, .int f, .int y, .int a, .int b] σ (EV (fun τ => vw τ = V ∧ off5 σ τ ∧ (τ 33 31, τ 33 32) = gLow f y a b (σ 33 31, σ 33 32) ∧ (τ 33 33, τ 33 34) = gHigh f y a b (σ 33 33, σ 33 34) ∧ τ 33 35 = gOut f y a b (σ 33 35))) := by
  refine Cl.of 3 rfl rfl EV.ok ?_
  show Rn LAY none RX6 _ _ _ _ 0 [some (.ref 33), some (.int f), some (.int y), some (.int a), some (.int b), none, none, none] [] _ _
  refine r_iload_n (q := 1) dX6_bound_0 rfl rfl ?_
  refine r_if_ne (t := 32) (q := 4) dX6_bound_1 (by decide) rfl (fun c1 => ?_) (fun c1 => ?_)
  · refine r_iload_n (q := 33) dX6_bound_32 rfl rfl ?_
    refine r_if_le (t := 42) (q := 36) dX6_bound_33 (by decide) rfl (fun c33 => ?_) (fun c33 => ?_)
    · refine r_iload_n (q := 43) dX6_bound_42 rfl rfl ?_
      refine r_iload (q := 45) dX6_bound_43 rfl rfl ?_
      refine r_isub (q := 46) dX6_bound_45 rfl ?_
      refine r_istore (q := 48) dX6_bound_46 rfl (Nat.le_of_ble_eq_true rfl) ?_
      refine r_iload_n (q := 49) dX6_bound_48 rfl rfl ?_
      refine r_if_le (t := 59) (q := 52) dX6_bound_49 (by decide) rfl (fun c49 => ?_) (fun c49 => absurd c33 c49)
      refine r_iload_n (q := 60) dX6_bound_59 rfl rfl ?_
      refine r_iload_n (q := 61) dX6_bound_60 rfl rfl ?_
      refine r_isub (q := 62) dX6_bound_61 rfl ?_
      refine r_istore (q := 64) dX6_bound_62 rfl (Nat.le_of_ble_eq_true rfl) ?_
      refine r_iconst (q := 65) (v := nI 2) dX6_bound_64 rfl (by decide) ?_
      refine r_iload_n (q := 66) dX6_bound_65 rfl rfl ?_
      refine r_if_le (t := 73) (q := 69) dX6_bound_66 (by decide) rfl (fun c66 => ?_) (fun c66 => absurd c33 c66)
      refine r_iload_n (q := 74) dX6_bound_73 rfl rfl ?_
      refine r_ineg (q := 75) dX6_bound_74 rfl ?_
      refine r_imul (q := 76) dX6_bound_75 rfl ?_
      refine r_istore (q := 78) dX6_bound_76 rfl (Nat.le_of_ble_eq_true rfl) ?_
      refine r_iload (q := 80) dX6_bound_78 rfl rfl ?_
      refine r_aload_n (q := 81) dX6_bound_80 rfl rfl ?_
      refine gX6_146 (q := 84) dX6_bound_81 rfl ?_
      refine r_imul (q := 85) dX6_bound_84 rfl ?_
      refine r_aload_n (q := 86) dX6_bound_85 rfl rfl ?_
      refine gX6_149 (q := 89) dX6_bound_86 rfl ?_
      refine r_iload (q := 91) dX6_bound_89 rfl rfl ?_
      refine r_imul (q := 92) dX6_bound_91 rfl ?_
      refine r_icmp_le (t := 107) (q := 95) dX6_bound_92 (by decide) rfl (fun c92 => ?_) (fun c92 => ?_)
      · refine r_aload_n (q := 108) dX6_bound_107 rfl rfl ?_
        refine gX6_152 (q := 111) dX6_bound_108 rfl ?_
        refine r_if_eq (t := 131) (q := 114) dX6_bound_111 (by decide) rfl (fun c111 => ?_) (fun c111 => ?_)
        · refine r_aload_n (q := 132) dX6_bound_131 rfl rfl ?_
          refine r_iload (q := 134) dX6_bound_132 rfl rfl ?_
          refine psX6_155 (q := 137) hV dX6_bound_134 rfl (fun s134 e134 hV134 => ?_)
          refine r_aload_n (q := 138) dX6_bound_137 rfl rfl ?_
          refine r_iload (q := 140) dX6_bound_138 rfl rfl ?_
          refine psX6_152 (q := 143) hV134 dX6_bound_140 rfl (fun s140 e140 hV140 => ?_)
          try simp [e140, e134, u2, -Int32.not_le] at c111
          refine r_retV dX6_bound_143 ⟨hV140, ?_, ?_⟩
          · intro k i hk; simp only [e140, e134, u2]; rw [if_neg (by omega)]; rw [if_neg (by omega)]
          · refine ⟨?_, ?_, ?_⟩
            · simp [e140, e134, u2, gLow, gFi, gUn, *]
            · simp [e140, e134, u2, gHigh, gLa, gUn, *]
            · simp [e140, e134, u2, gOut, c1]
        · refine r_iload (q := 116) dX6_bound_114 rfl rfl ?_
          refine r_aload_n (q := 117) dX6_bound_116 rfl rfl ?_
          refine gX6_152 (q := 120) dX6_bound_117 rfl ?_
          refine r_imul (q := 121) dX6_bound_120 rfl ?_
          refine r_aload_n (q := 122) dX6_bound_121 rfl rfl ?_
          refine gX6_155 (q := 125) dX6_bound_122 rfl ?_
          refine r_iload (q := 127) dX6_bound_125 rfl rfl ?_
          refine r_imul (q := 128) dX6_bound_127 rfl ?_
          refine r_icmp_ge (t := 143) (q := 131) dX6_bound_128 (by decide) rfl (fun c128 => ?_) (fun c128 => ?_)
          · refine r_retV dX6_bound_143 ⟨hV, ?_, ?_⟩
            · intro k i hk; rfl
            · refine ⟨?_, ?_, ?_⟩
              · simp [u2, gLow, gFi, gUn, *]
              · simp [u2, gHigh, gLa, gUn, *]
              · simp [u2, gOut, c1]
          · refine r_aload_n (q := 132) dX6_bound_131 rfl rfl ?_
            refine r_iload (q := 134) dX6_bound_132 rfl rfl ?_
            refine psX6_155 (q := 137) hV dX6_bound_134 rfl (fun s134 e134 hV134 => ?_)
            refine r_aload_n (q := 138) dX6_bound_137 rfl rfl ?_
            refine r_iload (q := 140) dX6_bound_138 rfl rfl ?_
            refine psX6_152 (q := 143) hV134 dX6_bound_140 rfl (fun s140 e140 hV140 => ?_)
            try simp [e140, e134, u2, -Int32.not_le] at c111
            try simp [e140, e134, u2, -Int32.not_le] at c128
            refine r_retV dX6_bound_143 ⟨hV140, ?_, ?_⟩
            · intro k i hk; simp only [e140, e134, u2]; rw [if_neg (by omega)]; rw [if_neg (by omega)]
            · refine ⟨?_, ?_, ?_⟩
              · simp [e140, e134, u2, gLow, gFi, gUn, *]
              · simp [e140, e134, u2, gHigh, gLa, gUn, *]
              · simp [e140, e134, u2, gOut, c1]
      · refine r_aload_n (q := 96) dX6_bound_95 rfl rfl ?_
        refine r_iload (q := 98) dX6_bound_96 rfl rfl ?_
        refine psX6_149 (q := 101) hV dX6_bound_98 rfl (fun s98 e98 hV98 => ?_)
        refine r_aload_n (q := 102) dX6_bound_101 rfl rfl ?_
        refine r_iload (q := 104) dX6_bound_102 rfl rfl ?_
        refine psX6_146 (q := 107) hV98 dX6_bound_104 rfl (fun s104 e104 hV104 => ?_)
        refine r_aload_n (q := 108) dX6_bound_107 rfl rfl ?_
        refine gX6_152 (q := 111) dX6_bound_108 rfl ?_
        refine r_if_eq (t := 131) (q := 114) dX6_bound_111 (by decide) rfl (fun c111 => ?_) (fun c111 => ?_)
        · refine r_aload_n (q := 132) dX6_bound_131 rfl rfl ?_
          refine r_iload (q := 134) dX6_bound_132 rfl rfl ?_
          refine psX6_155 (q := 137) hV104 dX6_bound_134 rfl (fun s134 e134 hV134 => ?_)
          refine r_aload_n (q := 138) dX6_bound_137 rfl rfl ?_
          refine r_iload (q := 140) dX6_bound_138 rfl rfl ?_
          refine psX6_152 (q := 143) hV134 dX6_bound_140 rfl (fun s140 e140 hV140 => ?_)
          try simp [e140, e134, e104, e98, u2, -Int32.not_le] at c111
          refine r_retV dX6_bound_143 ⟨hV140, ?_, ?_⟩
          · intro k i hk; simp only [e140, e134, e104, e98, u2]; rw [if_neg (by omega)]; rw [if_neg (by omega)]; rw [if_neg (by omega)]; rw [if_neg (by omega)]
          · refine ⟨?_, ?_, ?_⟩
            · simp [e140, e134, e104, e98, u2, gLow, gFi, gUn, *]
            · simp [e140, e134, e104, e98, u2, gHigh, gLa, gUn, *]
            · simp [e140, e134, e104, e98, u2, gOut, c1]
        · refine r_iload (q := 116) dX6_bound_114 rfl rfl ?_
          refine r_aload_n (q := 117) dX6_bound_116 rfl rfl ?_
          refine gX6_152 (q := 120) dX6_bound_117 rfl ?_
          refine r_imul (q := 121) dX6_bound_120 rfl ?_
          refine r_aload_n (q := 122) dX6_bound_121 rfl rfl ?_
          refine gX6_155 (q := 125) dX6_bound_122 rfl ?_
          refine r_iload (q := 127) dX6_bound_125 rfl rfl ?_
          refine r_imul (q := 128) dX6_bound_127 rfl ?_
          refine r_icmp_ge (t := 143) (q := 131) dX6_bound_128 (by decide) rfl (fun c128 => ?_) (fun c128 => ?_)
          · try simp [e104, e98, u2, -Int32.not_le] at c111
            try simp [e104, e98, u2, -Int32.not_le] at c128
            refine r_retV dX6_bound_143 ⟨hV104, ?_, ?_⟩
            · intro k i hk; simp only [e104, e98, u2]; rw [if_neg (by omega)]; rw [if_neg (by omega)]
            · refine ⟨?_, ?_, ?_⟩
              · simp [e104, e98, u2, gLow, gFi, gUn, *]
              · simp [e104, e98, u2, gHigh, gLa, gUn, *]
              · simp [e104, e98, u2, gOut, c1]
          · refine r_aload_n (q := 132) dX6_bound_131 rfl rfl ?_
            refine r_iload (q := 134) dX6_bound_132 rfl rfl ?_
            refine psX6_155 (q := 137) hV104 dX6_bound_134 rfl (fun s134 e134 hV134 => ?_)
            refine r_aload_n (q := 138) dX6_bound_137 rfl rfl ?_
            refine r_iload (q := 140) dX6_bound_138 rfl rfl ?_
            refine psX6_152 (q := 143) hV134 dX6_bound_140 rfl (fun s140 e140 hV140 => ?_)
            try simp [e140, e134, e104, e98, u2, -Int32.not_le] at c111
            try simp [e140, e134, e104, e98, u2, -Int32.not_le] at c128
            refine r_retV dX6_bound_143 ⟨hV140, ?_, ?_⟩
            · intro k i hk; simp only [e140, e134, e104, e98, u2]; rw [if_neg (by omega)]; rw [if_neg (by omega)]; rw [if_neg (by omega)]; rw [if_neg (by omega)]
            · refine ⟨?_, ?_, ?_⟩
              · simp [e140, e134, e104, e98, u2, gLow, gFi, gUn, *]
              · simp [e140, e134, e104, e98, u2, gHigh, gLa, gUn, *]
              · simp [e140, e134, e104, e98, u2, gOut, c1]
    · refine r_iload_n (q := 37) dX6_bound_36 rfl rfl ?_
      refine r_iload_n (q := 38) dX6_bound_37 rfl rfl ?_
      refine r_isub (q := 39) dX6_bound_38 rfl ?_
      refine r_goto (q := 46) dX6_bound_39 (by decide) ?_
      refine r_istore (q := 48) dX6_bound_46 rfl (Nat.le_of_ble_eq_true rfl) ?_
      refine r_iload_n (q := 49) dX6_bound_48 rfl rfl ?_
      refine r_if_le (t := 59) (q := 52) dX6_bound_49 (by decide) rfl (fun c49 => absurd c49 c33) (fun c49 => ?_)
      refine r_iload (q := 54) dX6_bound_52 rfl rfl ?_
      refine r_iload_n (q := 55) dX6_bound_54 rfl rfl ?_
      refine r_isub (q := 56) dX6_bound_55 rfl ?_
      refine r_goto (q := 62) dX6_bound_56 (by decide) ?_
      refine r_istore (q := 64) dX6_bound_62 rfl (Nat.le_of_ble_eq_true rfl) ?_
      refine r_iconst (q := 65) (v := nI 2) dX6_bound_64 rfl (by decide) ?_
      refine r_iload_n (q := 66) dX6_bound_65 rfl rfl ?_
      refine r_if_le (t := 73) (q := 69) dX6_bound_66 (by decide) rfl (fun c66 => absurd c66 c33) (fun c66 => ?_)
      refine r_iload_n (q := 70) dX6_bound_69 rfl rfl ?_
      refine r_goto (q := 75) dX6_bound_70 (by decide) ?_
      refine r_imul (q := 76) dX6_bound_75 rfl ?_
      refine r_istore (q := 78) dX6_bound_76 rfl (Nat.le_of_ble_eq_true rfl) ?_
      refine r_iload (q := 80) dX6_bound_78 rfl rfl ?_
      refine r_aload_n (q := 81) dX6_bound_80 rfl rfl ?_
      refine gX6_146 (q := 84) dX6_bound_81 rfl ?_
      refine r_imul (q := 85) dX6_bound_84 rfl ?_
      refine r_aload_n (q := 86) dX6_bound_85 rfl rfl ?_
      refine gX6_149 (q := 89) dX6_bound_86 rfl ?_
      refine r_iload (q := 91) dX6_bound_89 rfl rfl ?_
      refine r_imul (q := 92) dX6_bound_91 rfl ?_
      refine r_icmp_le (t := 107) (q := 95) dX6_bound_92 (by decide) rfl (fun c92 => ?_) (fun c92 => ?_)
      · refine r_aload_n (q := 108) dX6_bound_107 rfl rfl ?_
        refine gX6_152 (q := 111) dX6_bound_108 rfl ?_
        refine r_if_eq (t := 131) (q := 114) dX6_bound_111 (by decide) rfl (fun c111 => ?_) (fun c111 => ?_)
        · refine r_aload_n (q := 132) dX6_bound_131 rfl rfl ?_
          refine r_iload (q := 134) dX6_bound_132 rfl rfl ?_
          refine psX6_155 (q := 137) hV dX6_bound_134 rfl (fun s134 e134 hV134 => ?_)
          refine r_aload_n (q := 138) dX6_bound_137 rfl rfl ?_
          refine r_iload (q := 140) dX6_bound_138 rfl rfl ?_
          refine psX6_152 (q := 143) hV134 dX6_bound_140 rfl (fun s140 e140 hV140 => ?_)
          try simp [e140, e134, u2, -Int32.not_le] at c111
          refine r_retV dX6_bound_143 ⟨hV140, ?_, ?_⟩
          · intro k i hk; simp only [e140, e134, u2]; rw [if_neg (by omega)]; rw [if_neg (by omega)]
          · refine ⟨?_, ?_, ?_⟩
            · simp [e140, e134, u2, gLow, gFi, gUn, *]
            · simp [e140, e134, u2, gHigh, gLa, gUn, *]
            · simp [e140, e134, u2, gOut, c1]
        · refine r_iload (q := 116) dX6_bound_114 rfl rfl ?_
          refine r_aload_n (q := 117) dX6_bound_116 rfl rfl ?_
          refine gX6_152 (q := 120) dX6_bound_117 rfl ?_
          refine r_imul (q := 121) dX6_bound_120 rfl ?_
          refine r_aload_n (q := 122) dX6_bound_121 rfl rfl ?_
          refine gX6_155 (q := 125) dX6_bound_122 rfl ?_
          refine r_iload (q := 127) dX6_bound_125 rfl rfl ?_
          refine r_imul (q := 128) dX6_bound_127 rfl ?_
          refine r_icmp_ge (t := 143) (q := 131) dX6_bound_128 (by decide) rfl (fun c128 => ?_) (fun c128 => ?_)
          · refine r_retV dX6_bound_143 ⟨hV, ?_, ?_⟩
            · intro k i hk; rfl
            · refine ⟨?_, ?_, ?_⟩
              · simp [u2, gLow, gFi, gUn, *]
              · simp [u2, gHigh, gLa, gUn, *]
              · simp [u2, gOut, c1]
          · refine r_aload_n (q := 132) dX6_bound_131 rfl rfl ?_
            refine r_iload (q := 134) dX6_bound_132 rfl rfl ?_
            refine psX6_155 (q := 137) hV dX6_bound_134 rfl (fun s134 e134 hV134 => ?_)
            refine r_aload_n (q := 138) dX6_bound_137 rfl rfl ?_
            refine r_iload (q := 140) dX6_bound_138 rfl rfl ?_
            refine psX6_152 (q := 143) hV134 dX6_bound_140 rfl (fun s140 e140 hV140 => ?_)
            try simp [e140, e134, u2, -Int32.not_le] at c111
            try simp [e140, e134, u2, -Int32.not_le] at c128
            refine r_retV dX6_bound_143 ⟨hV140, ?_, ?_⟩
            · intro k i hk; simp only [e140, e134, u2]; rw [if_neg (by omega)]; rw [if_neg (by omega)]
            · refine ⟨?_, ?_, ?_⟩
              · simp [e140, e134, u2, gLow, gFi, gUn, *]
              · simp [e140, e134, u2, gHigh, gLa, gUn, *]
              · simp [e140, e134, u2, gOut, c1]
      · refine r_aload_n (q := 96) dX6_bound_95 rfl rfl ?_
        refine r_iload (q := 98) dX6_bound_96 rfl rfl ?_
        refine psX6_149 (q := 101) hV dX6_bound_98 rfl (fun s98 e98 hV98 => ?_)
        refine r_aload_n (q := 102) dX6_bound_101 rfl rfl ?_
        refine r_iload (q := 104) dX6_bound_102 rfl rfl ?_
        refine psX6_146 (q := 107) hV98 dX6_bound_104 rfl (fun s104 e104 hV104 => ?_)
        refine r_aload_n (q := 108) dX6_bound_107 rfl rfl ?_
        refine gX6_152 (q := 111) dX6_bound_108 rfl ?_
        refine r_if_eq (t := 131) (q := 114) dX6_bound_111 (by decide) rfl (fun c111 => ?_) (fun c111 => ?_)
        · refine r_aload_n (q := 132) dX6_bound_131 rfl rfl ?_
          refine r_iload (q := 134) dX6_bound_132 rfl rfl ?_
          refine psX6_155 (q := 137) hV104 dX6_bound_134 rfl (fun s134 e134 hV134 => ?_)
          refine r_aload_n (q := 138) dX6_bound_137 rfl rfl ?_
          refine r_iload (q := 140) dX6_bound_138 rfl rfl ?_
          refine psX6_152 (q := 143) hV134 dX6_bound_140 rfl (fun s140 e140 hV140 => ?_)
          try simp [e140, e134, e104, e98, u2, -Int32.not_le] at c111
          refine r_retV dX6_bound_143 ⟨hV140, ?_, ?_⟩
          · intro k i hk; simp only [e140, e134, e104, e98, u2]; rw [if_neg (by omega)]; rw [if_neg (by omega)]; rw [if_neg (by omega)]; rw [if_neg (by omega)]
          · refine ⟨?_, ?_, ?_⟩
            · simp [e140, e134, e104, e98, u2, gLow, gFi, gUn, *]
            · simp [e140, e134, e104, e98, u2, gHigh, gLa, gUn, *]
            · simp [e140, e134, e104, e98, u2, gOut, c1]
        · refine r_iload (q := 116) dX6_bound_114 rfl rfl ?_
          refine r_aload_n (q := 117) dX6_bound_116 rfl rfl ?_
          refine gX6_152 (q := 120) dX6_bound_117 rfl ?_
          refine r_imul (q := 121) dX6_bound_120 rfl ?_
          refine r_aload_n (q := 122) dX6_bound_121 rfl rfl ?_
          refine gX6_155 (q := 125) dX6_bound_122 rfl ?_
          refine r_iload (q := 127) dX6_bound_125 rfl rfl ?_
          refine r_imul (q := 128) dX6_bound_127 rfl ?_
          refine r_icmp_ge (t := 143) (q := 131) dX6_bound_128 (by decide) rfl (fun c128 => ?_) (fun c128 => ?_)
          · try simp [e104, e98, u2, -Int32.not_le] at c111
            try simp [e104, e98, u2, -Int32.not_le] at c128
            refine r_retV dX6_bound_143 ⟨hV104, ?_, ?_⟩
            · intro k i hk; simp only [e104, e98, u2]; rw [if_neg (by omega)]; rw [if_neg (by omega)]
            · refine ⟨?_, ?_, ?_⟩
              · simp [e104, e98, u2, gLow, gFi, gUn, *]
              · simp [e104, e98, u2, gHigh, gLa, gUn, *]
              · simp [e104, e98, u2, gOut, c1]
          · refine r_aload_n (q := 132) dX6_bound_131 rfl rfl ?_
            refine r_iload (q := 134) dX6_bound_132 rfl rfl ?_
            refine psX6_155 (q := 137) hV104 dX6_bound_134 rfl (fun s134 e134 hV134 => ?_)
            refine r_aload_n (q := 138) dX6_bound_137 rfl rfl ?_
            refine r_iload (q := 140) dX6_bound_138 rfl rfl ?_
            refine psX6_152 (q := 143) hV134 dX6_bound_140 rfl (fun s140 e140 hV140 => ?_)
            try simp [e140, e134, e104, e98, u2, -Int32.not_le] at c111
            try simp [e140, e134, e104, e98, u2, -Int32.not_le] at c128
            refine r_retV dX6_bound_143 ⟨hV140, ?_, ?_⟩
            · intro k i hk; simp only [e140, e134, e104, e98, u2]; rw [if_neg (by omega)]; rw [if_neg (by omega)]; rw [if_neg (by omega)]; rw [if_neg (by omega)]
            · refine ⟨?_, ?_, ?_⟩
              · simp [e140, e134, e104, e98, u2, gLow, gFi, gUn, *]
              · simp [e140, e134, e104, e98, u2, gHigh, gLa, gUn, *]
              · simp [e140, e134, e104, e98, u2, gOut, c1]
  · refine r_aload_n (q := 5) dX6_bound_4 rfl rfl ?_
    refine r_aload_n (q := 6) dX6_bound_5 rfl rfl ?_
    refine gX6_142 (q := 9) dX6_bound_6 rfl ?_
    refine r_if_ne (t := 23) (q := 12) dX6_bound_9 (by decide) rfl (fun c9 => ?_) (fun c9 => ?_)
    · refine r_iconst (q := 24) (v := nI 1) dX6_bound_23 rfl (by decide) ?_
      refine r_goto (q := 28) dX6_bound_24 (by decide) ?_
      refine psX6_142 (q := 31) hV dX6_bound_28 rfl (by first | exact Or.inl rfl | exact Or.inr rfl | assumption) (fun s28 e28 hV28 => ?_)
      refine r_retV dX6_bound_31 ⟨hV28, ?_, ?_⟩
      · intro k i hk; simp only [e28, u2]; rw [if_neg (by omega)]
      · refine ⟨?_, ?_, ?_⟩
        · simp [e28, u2, gLow, c1]
        · simp [e28, u2, gHigh, c1]
        · simp only [e28, u2, gOut]; simp [*] <;> first | done | decide
    · refine r_iload_n (q := 13) dX6_bound_12 rfl rfl ?_
      refine r_iload_n (q := 14) dX6_bound_13 rfl rfl ?_
      refine r_icmp_le (t := 23) (q := 17) dX6_bound_14 (by decide) rfl (fun c14 => ?_) (fun c14 => ?_)
      · refine r_iconst (q := 24) (v := nI 1) dX6_bound_23 rfl (by decide) ?_
        refine r_goto (q := 28) dX6_bound_24 (by decide) ?_
        refine psX6_142 (q := 31) hV dX6_bound_28 rfl (by first | exact Or.inl rfl | exact Or.inr rfl | assumption) (fun s28 e28 hV28 => ?_)
        refine r_retV dX6_bound_31 ⟨hV28, ?_, ?_⟩
        · intro k i hk; simp only [e28, u2]; rw [if_neg (by omega)]
        · refine ⟨?_, ?_, ?_⟩
          · simp [e28, u2, gLow, c1]
          · simp [e28, u2, gHigh, c1]
          · simp only [e28, u2, gOut]; simp [*] <;> first | done | decide
      · refine r_iload_n (q := 18) dX6_bound_17 rfl rfl ?_
        refine r_iload (q := 20) dX6_bound_18 rfl rfl ?_
        refine r_icmp_lt (t := 27) (q := 23) dX6_bound_20 (by decide) rfl (fun c20 => ?_) (fun c20 => ?_)
        · refine r_iconst (q := 28) (v := nI 0) dX6_bound_27 rfl (by decide) ?_
          refine psX6_142 (q := 31) hV dX6_bound_28 rfl (by first | exact Or.inl rfl | exact Or.inr rfl | assumption) (fun s28 e28 hV28 => ?_)
          refine r_retV dX6_bound_31 ⟨hV28, ?_, ?_⟩
          · intro k i hk; simp only [e28, u2]; rw [if_neg (by omega)]
          · refine ⟨?_, ?_, ?_⟩
            · simp [e28, u2, gLow, c1]
            · simp [e28, u2, gHigh, c1]
            · simp only [e28, u2, gOut]; simp [*] <;> first | done | decide
        · refine r_iconst (q := 24) (v := nI 1) dX6_bound_23 rfl (by decide) ?_
          refine r_goto (q := 28) dX6_bound_24 (by decide) ?_
          refine psX6_142 (q := 31) hV dX6_bound_28 rfl (by first | exact Or.inl rfl | exact Or.inr rfl | assumption) (fun s28 e28 hV28 => ?_)
          refine r_retV dX6_bound_31 ⟨hV28, ?_, ?_⟩
          · intro k i hk; simp only [e28, u2]; rw [if_neg (by omega)]
          · refine ⟨?_, ?_, ?_⟩
            · simp [e28, u2, gLow, c1]
            · simp [e28, u2, gHigh, c1]
            · simp only [e28, u2, gOut]; simp [*] <;> first | done | decide
end
section
theorem gOut01 {f y a b o : Int32} (h : o = 0 ∨ o = 1) : gOut f y a b o = 0 ∨ gOut f y a b o = 1 := by
  unfold gOut
  (repeat' split)
  all_goals first | exact Or.inl rfl | exact Or.inr rfl | exact h
def sOut (V : St) (w c k b : Nat) : Int32 := gOut (nI (ptZ V w c)) (nI (nv V 37 k)) (nI (2 * nv V 44 b)) (nI (2 * topT V b)) (gOut (nI (ptY V w c)) (V 36 k) (nI (2 * nv V 42 b)) (nI (2 * nv V 43 b)) (gOut (nI (ptX V w c)) (V 35 k) (nI (2 * nv V 40 b)) (nI (2 * nv V 41 b)) (nI 0)))
def sLow (V : St) (w c k b : Nat) : Int32 × Int32 := gLow (nI (ptZ V w c)) (nI (nv V 37 k)) (nI (2 * nv V 44 b)) (nI (2 * topT V b)) (gLow (nI (ptY V w c)) (V 36 k) (nI (2 * nv V 42 b)) (nI (2 * nv V 43 b)) (gLow (nI (ptX V w c)) (V 35 k) (nI (2 * nv V 40 b)) (nI (2 * nv V 41 b)) (nI 0, nI 1)))
def sHigh (h0 : Int32) (V : St) (w c k b : Nat) : Int32 × Int32 := gHigh (nI (ptZ V w c)) (nI (nv V 37 k)) (nI (2 * nv V 44 b)) (nI (2 * topT V b)) (gHigh (nI (ptY V w c)) (V 36 k) (nI (2 * nv V 42 b)) (nI (2 * nv V 43 b)) (gHigh (nI (ptX V w c)) (V 35 k) (nI (2 * nv V 40 b)) (nI (2 * nv V 41 b)) (h0, nI 0)))
def sHit (h0 : Int32) (V : St) (w c k b : Nat) : Nat := if sOut V w c k b = 0 then (if (sHigh h0 V w c k b).1 * (sLow V w c k b).2 ≤ (sLow V w c k b).1 * (sHigh h0 V w c k b).2 then 0 else 1) else 0
theorem sHit_le (h0 : Int32) (V : St) (w c k b : Nat) : sHit h0 V w c k b ≤ 1 := by
  unfold sHit
  (repeat' split)
  all_goals omega
set_option maxRecDepth 100000 in
set_option maxHeartbeats 4000000 in
theorem c_X6_stands (σ V : St) (hV : vw σ = V) (hI : InvN V) (w c k b : Nat) (hs : shown V w c k σ) (h : b < 40) : Cl LAY yX6_stands cX6_stands 2 (some .boolean) 1 27 [.ref 33, .int (nI b)] σ (EI (fun v τ => v = nI (sHit (σ 33 33) V w c k b) ∧ vw τ = V ∧ off5 σ τ ∧ (τ 33 31, τ 33 32) = sLow V w c k b)) := by
  refine Cl.of 0 rfl rfl (EI.okZ (okQ (sHit_le _ _ _ _ _ _))) ?_
  show Rn LAY none RX6 _ _ _ _ 0 [some (.ref 33), some (.int (nI b))] [] _ _
  refine r_aload_n (q := 1) dX6_stands_0 rfl rfl ?_
  refine r_iconst (q := 2) (v := nI 0) dX6_stands_1 rfl (by decide) ?_
  refine psX6_149 (q := 5) hV dX6_stands_2 rfl (fun s2 e2 hV2 => ?_)
  refine r_aload_n (q := 6) dX6_stands_5 rfl rfl ?_
  refine r_iconst (q := 7) (v := nI 1) dX6_stands_6 rfl (by decide) ?_
  refine psX6_146 (q := 10) hV2 dX6_stands_7 rfl (fun s7 e7 hV7 => ?_)
  refine r_aload_n (q := 11) dX6_stands_10 rfl rfl ?_
  refine r_iconst (q := 12) (v := nI 0) dX6_stands_11 rfl (by decide) ?_
  refine psX6_152 (q := 15) hV7 dX6_stands_12 rfl (fun s12 e12 hV12 => ?_)
  refine r_aload_n (q := 16) dX6_stands_15 rfl rfl ?_
  refine r_iconst (q := 17) (v := nI 0) dX6_stands_16 rfl (by decide) ?_
  refine psX6_142 (q := 20) hV12 dX6_stands_17 rfl (by first | exact Or.inl rfl | exact Or.inr rfl | assumption) (fun s17 e17 hV17 => ?_)
  have o17 : off5 σ s17 := by
    intro k i hk
    simp only [e17, e12, e7, e2, u2]
    rw [if_neg (by omega), if_neg (by omega), if_neg (by omega), if_neg (by omega)]
  have sh17 := o17.shown hs
  have h17 : s17 33 35 = 0 ∨ s17 33 35 = 1 := Or.inl (by simp [e17, u2]; rfl)
  have l17 : (s17 33 31, s17 33 32) = (nI 0, nI 1) := by simp [e17, e12, e7, e2, u2]
  have g17 : (s17 33 33, s17 33 34) = (σ 33 33, nI 0) := by simp [e17, e12, e7, e2, u2]
  have u17 : s17 33 35 = nI 0 := by simp [e17, u2]
  refine r_aload_n (q := 21) dX6_stands_20 rfl rfl ?_
  refine r_aload_n (q := 22) dX6_stands_21 rfl rfl ?_
  refine gX6_124 (q := 25) dX6_stands_22 rfl ?_
  refine r_as sh17.1 ?_
  refine r_aload_n (q := 26) dX6_stands_25 rfl rfl ?_
  refine gX6_133 (q := 29) dX6_stands_26 rfl ?_
  refine r_as sh17.2.2.2.1 ?_
  refine r_iconst (q := 30) (v := nI 2) dX6_stands_29 rfl (by decide) ?_
  refine r_aload_n (q := 31) dX6_stands_30 rfl rfl ?_
  refine gX6_32 (q := 34) dX6_stands_31 rfl ?_
  refine r_iload_n (q := 35) dX6_stands_34 rfl rfl ?_
  refine r_ialdV (q := 36) hV17 hI dX6_stands_35 rfl LA40 rfl rfl (by decide) (by omega) ?_
  refine r_imulN (q := 37) dX6_stands_36 rfl ?_
  refine r_iconst (q := 38) (v := nI 2) dX6_stands_37 rfl (by decide) ?_
  refine r_aload_n (q := 39) dX6_stands_38 rfl rfl ?_
  refine gX6_35 (q := 42) dX6_stands_39 rfl ?_
  refine r_iload_n (q := 43) dX6_stands_42 rfl rfl ?_
  refine r_ialdV (q := 44) hV17 hI dX6_stands_43 rfl LA41 rfl rfl (by decide) (by omega) ?_
  refine r_imulN (q := 45) dX6_stands_44 rfl ?_
  refine r_cV4 (q := 48) vX6_158 dX6_stands_45 rfl LYX6 rfl (Nat.le_of_ble_eq_true rfl) (by decide) (by decide) (c_X6_bound _ V hV17 _ _ _ _ h17) ?_
  rintro s45 ⟨hV45, o45, l45, g45, u45⟩
  have sh45 := o45.shown sh17
  have h45 : s45 33 35 = 0 ∨ s45 33 35 = 1 := by rw [u45]; exact gOut01 h17
  refine r_aload_n (q := 49) dX6_stands_48 rfl rfl ?_
  refine r_aload_n (q := 50) dX6_stands_49 rfl rfl ?_
  refine gX6_127 (q := 53) dX6_stands_50 rfl ?_
  refine r_as sh45.2.1 ?_
  refine r_aload_n (q := 54) dX6_stands_53 rfl rfl ?_
  refine gX6_136 (q := 57) dX6_stands_54 rfl ?_
  refine r_as sh45.2.2.2.2.1 ?_
  refine r_iconst (q := 58) (v := nI 2) dX6_stands_57 rfl (by decide) ?_
  refine r_aload_n (q := 59) dX6_stands_58 rfl rfl ?_
  refine gX6_38 (q := 62) dX6_stands_59 rfl ?_
  refine r_iload_n (q := 63) dX6_stands_62 rfl rfl ?_
  refine r_ialdV (q := 64) hV45 hI dX6_stands_63 rfl LA42 rfl rfl (by decide) (by omega) ?_
  refine r_imulN (q := 65) dX6_stands_64 rfl ?_
  refine r_iconst (q := 66) (v := nI 2) dX6_stands_65 rfl (by decide) ?_
  refine r_aload_n (q := 67) dX6_stands_66 rfl rfl ?_
  refine gX6_41 (q := 70) dX6_stands_67 rfl ?_
  refine r_iload_n (q := 71) dX6_stands_70 rfl rfl ?_
  refine r_ialdV (q := 72) hV45 hI dX6_stands_71 rfl LA43 rfl rfl (by decide) (by omega) ?_
  refine r_imulN (q := 73) dX6_stands_72 rfl ?_
  refine r_cV4 (q := 76) vX6_158 dX6_stands_73 rfl LYX6 rfl (Nat.le_of_ble_eq_true rfl) (by decide) (by decide) (c_X6_bound _ V hV45 _ _ _ _ h45) ?_
  rintro s73 ⟨hV73, o73, l73, g73, u73⟩
  have sh73 := o73.shown sh45
  have h73 : s73 33 35 = 0 ∨ s73 33 35 = 1 := by rw [u73]; exact gOut01 h45
  refine r_aload_n (q := 77) dX6_stands_76 rfl rfl ?_
  refine r_aload_n (q := 78) dX6_stands_77 rfl rfl ?_
  refine gX6_130 (q := 81) dX6_stands_78 rfl ?_
  refine r_as sh73.2.2.1 ?_
  refine r_aload_n (q := 82) dX6_stands_81 rfl rfl ?_
  refine gX6_139 (q := 85) dX6_stands_82 rfl ?_
  refine r_as sh73.2.2.2.2.2 ?_
  refine r_iconst (q := 86) (v := nI 2) dX6_stands_85 rfl (by decide) ?_
  refine r_aload_n (q := 87) dX6_stands_86 rfl rfl ?_
  refine gX6_44 (q := 90) dX6_stands_87 rfl ?_
  refine r_iload_n (q := 91) dX6_stands_90 rfl rfl ?_
  refine r_ialdV (q := 92) hV73 hI dX6_stands_91 rfl LA44 rfl rfl (by decide) (by omega) ?_
  refine r_imulN (q := 93) dX6_stands_92 rfl ?_
  refine r_iconst (q := 94) (v := nI 2) dX6_stands_93 rfl (by decide) ?_
  refine r_aload_n (q := 95) dX6_stands_94 rfl rfl ?_
  refine r_iload_n (q := 96) dX6_stands_95 rfl rfl ?_
  refine r_cI1 (q := 99) vX6_162 dX6_stands_96 rfl LYX6 rfl (Nat.le_of_ble_eq_true rfl) (by decide) (by decide) (c_X6_topOf _ V hV73 hI b h) ?_
  rintro _ _ ⟨rfl, rfl⟩
  refine r_imulN (q := 100) dX6_stands_99 rfl ?_
  refine r_cV4 (q := 103) vX6_158 dX6_stands_100 rfl LYX6 rfl (Nat.le_of_ble_eq_true rfl) (by decide) (by decide) (c_X6_bound _ V hV73 _ _ _ _ h73) ?_
  rintro s100 ⟨hV100, o100, l100, g100, u100⟩
  have sh100 := o100.shown sh73
  have h100 : s100 33 35 = 0 ∨ s100 33 35 = 1 := by rw [u100]; exact gOut01 h73
  have hl : (s100 33 31, s100 33 32) = sLow V w c k b := by rw [l100, l73, l45, l17]; rfl
  have hg : (s100 33 33, s100 33 34) = sHigh (σ 33 33) V w c k b := by rw [g100, g73, g45, g17]; rfl
  have hu : s100 33 35 = sOut V w c k b := by rw [u100, u73, u45, u17]; rfl
  have a1 := congrArg Prod.fst hl
  have a2 := congrArg Prod.snd hl
  have a3 := congrArg Prod.fst hg
  have a4 := congrArg Prod.snd hg
  dsimp only at a1 a2 a3 a4
  have of : off5 σ s100 := o17.trans (o45.trans (o73.trans o100))
  refine r_aload_n (q := 104) dX6_stands_103 rfl rfl ?_
  refine gX6_142 (q := 107) dX6_stands_104 rfl ?_
  refine r_if_ne (t := 135) (q := 110) dX6_stands_107 (by decide) rfl (fun c107 => ?_) (fun c107 => ?_)
  · refine r_iconst (q := 136) (v := nI 0) dX6_stands_135 rfl (by decide) ?_
    rw [hu] at c107
    exact r_retI dX6_stands_136 ⟨by simp only [sHit]; simp [*], hV100, of, hl⟩
  · refine r_aload_n (q := 111) dX6_stands_110 rfl rfl ?_
    refine gX6_149 (q := 114) dX6_stands_111 rfl ?_
    refine r_aload_n (q := 115) dX6_stands_114 rfl rfl ?_
    refine gX6_152 (q := 118) dX6_stands_115 rfl ?_
    refine r_imul (q := 119) dX6_stands_118 rfl ?_
    refine r_aload_n (q := 120) dX6_stands_119 rfl rfl ?_
    refine gX6_155 (q := 123) dX6_stands_120 rfl ?_
    refine r_aload_n (q := 124) dX6_stands_123 rfl rfl ?_
    refine gX6_146 (q := 127) dX6_stands_124 rfl ?_
    refine r_imul (q := 128) dX6_stands_127 rfl ?_
    refine r_icmp_ge (t := 135) (q := 131) dX6_stands_128 (by decide) rfl (fun c128 => ?_) (fun c128 => ?_)
    · refine r_iconst (q := 136) (v := nI 0) dX6_stands_135 rfl (by decide) ?_
      rw [hu] at c107
      rw [a1, a2, a3, a4] at c128
      exact r_retI dX6_stands_136 ⟨by simp only [sHit]; simp [*], hV100, of, hl⟩
    · refine r_iconst (q := 132) (v := nI 1) dX6_stands_131 rfl (by decide) ?_
      refine r_goto (q := 136) dX6_stands_132 (by decide) ?_
      rw [hu] at c107
      rw [a1, a2, a3, a4] at c128
      exact r_retI dX6_stands_136 ⟨by simp only [sHit]; simp [*], hV100, of, hl⟩
end
section
/-! ===== the geometry in whole numbers ===== -/
def zFi (f y a b : Int) : Int := if y ≤ 0 then f - b else a - f
def zLa (f y a b : Int) : Int := if y ≤ 0 then f - a else b - f
def zUn (y : Int) : Int := if y ≤ 0 then -y else y
def zLow (c f y a b : Int) (p : Int × Int) : Int × Int := if y = 0 then p else if zFi f y a b * p.2 ≤ p.1 * (c * zUn y) then p else (zFi f y a b, c * zUn y)
def zHigh (c f y a b : Int) (p : Int × Int) : Int × Int := if y = 0 then p else if p.2 = 0 then (zLa f y a b, c * zUn y) else if p.1 * (c * zUn y) ≤ zLa f y a b * p.2 then p else (zLa f y a b, c * zUn y)
def zOut (f y a b : Int) : Prop := y = 0 ∧ (f ≤ a ∨ b ≤ f)
theorem bmid {z : Int} (h1 : -2147483648 ≤ z) (h2 : z < 2147483648) : z.bmod (2 ^ 32) = z := by
  unfold Int.bmod
  have e : ((2 ^ 32 : Nat) : Int) = 4294967296 := rfl
  simp only [e]
  split <;> omega
theorem mulB {a b : Int} {A B : Nat} (h1 : -(A : Int) ≤ a) (h2 : a ≤ A) (h3 : -(B : Int) ≤ b) (h4 : b ≤ B) : -((A * B : Nat) : Int) ≤ a * b ∧ a * b ≤ ((A * B : Nat) : Int) := by
  have ha : a.natAbs ≤ A := by omega
  have hb : b.natAbs ≤ B := by omega
  have hm := Nat.mul_le_mul ha hb
  rw [← Int.natAbs_mul] at hm
  omega
theorem t_sub {x y : Int32} {a b : Int} (hx : x.toInt = a) (hy : y.toInt = b) (h1 : -2147483648 ≤ a - b) (h2 : a - b < 2147483648) : (x - y).toInt = a - b := by
  rw [Int32.toInt_sub, hx, hy, bmid h1 h2]
theorem t_mul {x y : Int32} {a b : Int} (hx : x.toInt = a) (hy : y.toInt = b) (h1 : -2147483648 ≤ a * b) (h2 : a * b < 2147483648) : (x * y).toInt = a * b := by
  rw [Int32.toInt_mul, hx, hy, bmid h1 h2]
theorem t_neg {x : Int32} {a : Int} (hx : x.toInt = a) (h1 : -2147483648 < a) : (-x).toInt = -a := by
  have h2 := Int32.toInt_lt x
  rw [Int32.toInt_neg, hx, bmid (by omega) (by omega)]
theorem t_le {x y : Int32} {a b : Int} (hx : x.toInt = a) (hy : y.toInt = b) : x ≤ y ↔ a ≤ b := by rw [Int32.le_iff_toInt_le, hx, hy]
theorem t_lt {x y : Int32} {a b : Int} (hx : x.toInt = a) (hy : y.toInt = b) : x < y ↔ a < b := by rw [Int32.lt_iff_toInt_lt, hx, hy]
theorem t_0 {x : Int32} {a : Int} (hx : x.toInt = a) : x = 0 ↔ a = 0 := by
  rw [← Int32.toInt_inj, hx]
  rfl
def LR (p : Int32 × Int32) (z : Int × Int) : Prop := p.1.toInt = z.1 ∧ p.2.toInt = z.2 ∧ -1000 ≤ z.1 ∧ z.1 ≤ 1000 ∧ 1 ≤ z.2 ∧ z.2 ≤ 100
def HR (p : Int32 × Int32) (z : Int × Int) : Prop := (p.2 = 0 ∧ z.2 = 0) ∨ LR p z
/-- numbers of an axis within bounds -/
def AxB (f y a b : Int32) (F Y A B : Int) : Prop := f.toInt = F ∧ y.toInt = Y ∧ a.toInt = A ∧ b.toInt = B ∧ -500 ≤ F ∧ F ≤ 500 ∧ -50 ≤ Y ∧ Y ≤ 50 ∧ -500 ≤ A ∧ A ≤ 500 ∧ -500 ≤ B ∧ B ≤ 500
theorem zUn_b {Y : Int} (h1 : -50 ≤ Y) (h2 : Y ≤ 50) (h0 : Y ≠ 0) : 1 ≤ zUn Y ∧ zUn Y ≤ 50 := by
  unfold zUn
  split <;> omega
theorem gFi_t {f y a b : Int32} {F Y A B : Int} (h : AxB f y a b F Y A B) : (gFi f y a b).toInt = zFi F Y A B ∧ -1000 ≤ zFi F Y A B ∧ zFi F Y A B ≤ 1000 := by
  obtain ⟨h1, h2, h3, h4, h5, h6, h7, h8, h9, h10, h11, h12⟩ := h
  unfold gFi zFi
  by_cases hy : Y ≤ 0
  · rw [if_pos hy, if_pos ((t_le h2 (by rfl : (0 : Int32).toInt = 0)).mpr hy), t_sub h1 h4 (by omega) (by omega)]
    omega
  · rw [if_neg hy, if_neg (fun h => hy ((t_le h2 (by rfl : (0 : Int32).toInt = 0)).mp h)), t_sub h3 h1 (by omega) (by omega)]
    omega
theorem gLa_t {f y a b : Int32} {F Y A B : Int} (h : AxB f y a b F Y A B) : (gLa f y a b).toInt = zLa F Y A B ∧ -1000 ≤ zLa F Y A B ∧ zLa F Y A B ≤ 1000 := by
  obtain ⟨h1, h2, h3, h4, h5, h6, h7, h8, h9, h10, h11, h12⟩ := h
  unfold gLa zLa
  by_cases hy : Y ≤ 0
  · rw [if_pos hy, if_pos ((t_le h2 (by rfl : (0 : Int32).toInt = 0)).mpr hy), t_sub h1 h3 (by omega) (by omega)]
    omega
  · rw [if_neg hy, if_neg (fun h => hy ((t_le h2 (by rfl : (0 : Int32).toInt = 0)).mp h)), t_sub h4 h1 (by omega) (by omega)]
    omega
theorem gUn_t {y : Int32} {Y : Int} (h2 : y.toInt = Y) (h7 : -50 ≤ Y) (h8 : Y ≤ 50) : (gUn y).toInt = 2 * zUn Y := by
  unfold gUn zUn
  have e2 : (nI 2).toInt = 2 := rfl
  by_cases hy : Y ≤ 0
  · rw [if_pos hy, if_pos ((t_le h2 (by rfl : (0 : Int32).toInt = 0)).mpr hy), t_mul e2 (t_neg h2 (by omega)) (by omega) (by omega)]
  · rw [if_neg hy, if_neg (fun h => hy ((t_le h2 (by rfl : (0 : Int32).toInt = 0)).mp h)), t_mul e2 h2 (by omega) (by omega)]
theorem gLow_t {f y a b : Int32} {F Y A B : Int} {p : Int32 × Int32} {z : Int × Int} (h : AxB f y a b F Y A B) (hp : LR p z) : LR (gLow f y a b p) (zLow 2 F Y A B z) := by
  obtain ⟨e1, e2, e3⟩ := gFi_t h
  have hB := h
  obtain ⟨h1, h2, h3, h4, h5, h6, h7, h8, h9, h10, h11, h12⟩ := h
  have hu := gUn_t h2 h7 h8
  have hp' := hp
  obtain ⟨p1, p2, p3, p4, p5, p6⟩ := hp'
  unfold gLow zLow
  by_cases hy : Y = 0
  · rw [if_pos hy, if_pos ((t_0 h2).mpr hy)]
    exact hp
  · rw [if_neg hy, if_neg (fun q => hy ((t_0 h2).mp q))]
    have ub := zUn_b h7 h8 hy
    have m1 := mulB (A := 1000) (B := 100) (a := zFi F Y A B) (b := z.2) (by omega) (by omega) (by omega) (by omega)
    have m2 := mulB (A := 1000) (B := 100) (a := z.1) (b := 2 * zUn Y) (by omega) (by omega) (by omega) (by omega)
    have q1 := t_mul e1 p2 (by omega) (by omega)
    have q2 := t_mul p1 hu (by omega) (by omega)
    by_cases hc : zFi F Y A B * z.2 ≤ z.1 * (2 * zUn Y)
    · rw [if_pos hc, if_pos ((t_le q1 q2).mpr hc)]
      exact hp
    · rw [if_neg hc, if_neg (fun q => hc ((t_le q1 q2).mp q))]
      exact ⟨e1, hu, e2, e3, by show 1 ≤ 2 * zUn Y; omega, by show 2 * zUn Y ≤ 100; omega⟩
theorem gHigh_t {f y a b : Int32} {F Y A B : Int} {p : Int32 × Int32} {z : Int × Int} (h : AxB f y a b F Y A B) (hp : HR p z) : HR (gHigh f y a b p) (zHigh 2 F Y A B z) ∧ (Y ≠ 0 → LR (gHigh f y a b p) (zHigh 2 F Y A B z)) := by
  obtain ⟨e1, e2, e3⟩ := gLa_t h
  have hB := h
  obtain ⟨h1, h2, h3, h4, h5, h6, h7, h8, h9, h10, h11, h12⟩ := h
  have hu := gUn_t h2 h7 h8
  unfold gHigh zHigh
  by_cases hy : Y = 0
  · rw [if_pos hy, if_pos ((t_0 h2).mpr hy)]
    exact ⟨hp, fun q => absurd hy q⟩
  · rw [if_neg hy, if_neg (fun q => hy ((t_0 h2).mp q))]
    have ub := zUn_b h7 h8 hy
    have new : LR (gLa f y a b, gUn y) (zLa F Y A B, 2 * zUn Y) := ⟨e1, hu, e2, e3, by show 1 ≤ 2 * zUn Y; omega, by show 2 * zUn Y ≤ 100; omega⟩
    rcases hp with ⟨p0, z0⟩ | hp
    · rw [if_pos p0, if_pos z0]
      exact ⟨Or.inr new, fun _ => new⟩
    · have hp' := hp
      obtain ⟨p1, p2, p3, p4, p5, p6⟩ := hp'
      have n0 : ¬ z.2 = 0 := by omega
      rw [if_neg n0, if_neg (fun q => n0 ((t_0 p2).mp q))]
      have m1 := mulB (A := 1000) (B := 100) (a := zLa F Y A B) (b := z.2) (by omega) (by omega) (by omega) (by omega)
      have m2 := mulB (A := 1000) (B := 100) (a := z.1) (b := 2 * zUn Y) (by omega) (by omega) (by omega) (by omega)
      have q1 := t_mul e1 p2 (by omega) (by omega)
      have q2 := t_mul p1 hu (by omega) (by omega)
      by_cases hc : z.1 * (2 * zUn Y) ≤ zLa F Y A B * z.2
      · rw [if_pos hc, if_pos ((t_le q2 q1).mpr hc)]
        exact ⟨Or.inr hp, fun _ => hp⟩
      · rw [if_neg hc, if_neg (fun q => hc ((t_le q2 q1).mp q))]
        exact ⟨Or.inr new, fun _ => new⟩
theorem gOut_t {f y a b o : Int32} {F Y A B : Int} (h : AxB f y a b F Y A B) : gOut f y a b o = 0 ↔ o = 0 ∧ ¬ zOut F Y A B := by
  obtain ⟨h1, h2, h3, h4, h5⟩ := h
  unfold gOut zOut
  have hy := t_0 h2
  have c1 := t_le h1 h3
  have c2 := t_lt h1 h4
  have n10 : ¬ (1 : Int32) = 0 := by decide
  by_cases q : Y = 0
  · rw [if_pos (hy.mpr q)]
    by_cases q0 : o = 0
    · rw [if_pos q0]
      by_cases q1 : F ≤ A
      · rw [if_pos (c1.mpr q1)]
        exact ⟨fun e => absurd e n10, fun e => absurd ⟨q, Or.inl q1⟩ e.2⟩
      · rw [if_neg (fun e => q1 (c1.mp e))]
        by_cases q2 : F < B
        · rw [if_pos (c2.mpr q2)]
          exact ⟨fun _ => ⟨q0, fun e => by omega⟩, fun _ => rfl⟩
        · rw [if_neg (fun e => q2 (c2.mp e))]
          exact ⟨fun e => absurd e n10, fun e => absurd ⟨q, Or.inr (by omega)⟩ e.2⟩
    · rw [if_neg q0]
      exact ⟨fun e => absurd e n10, fun e => absurd e.1 q0⟩
  · rw [if_neg (fun e => q (hy.mp e))]
    exact ⟨fun e => ⟨e, fun z => q z.1⟩, fun e => e.1⟩
/-- scale -/
def SL (p q : Int × Int) : Prop := (p = (0, 1) ∧ q = (0, 1)) ∨ (q.1 = p.1 ∧ q.2 = 2 * p.2)
def SH (p q : Int × Int) : Prop := (p.2 = 0 ∧ q.2 = 0) ∨ (q.1 = p.1 ∧ q.2 = 2 * p.2 ∧ p.2 ≠ 0)
theorem sc_le (x y u v : Int) : x * (2 * u) ≤ y * (2 * v) ↔ x * u ≤ y * v := by
  rw [Int.mul_left_comm x 2 u, Int.mul_left_comm y 2 v]
  omega
theorem sc_lt (x y u v : Int) : x * (2 * u) < y * (2 * v) ↔ x * u < y * v := by
  rw [Int.mul_left_comm x 2 u, Int.mul_left_comm y 2 v]
  omega
theorem zLow_s {F Y A B : Int} {p q : Int × Int} (h : SL p q) : SL (zLow 1 F Y A B p) (zLow 2 F Y A B q) := by
  unfold zLow
  by_cases hy : Y = 0
  · rw [if_pos hy, if_pos hy]
    exact h
  · rw [if_neg hy, if_neg hy]
    have new : SL (zFi F Y A B, 1 * zUn Y) (zFi F Y A B, 2 * zUn Y) := Or.inr ⟨rfl, by show 2 * zUn Y = 2 * (1 * zUn Y); omega⟩
    rcases h with ⟨rfl, rfl⟩ | ⟨h1, h2⟩
    · have c1 : zFi F Y A B * (0, (1 : Int)).2 ≤ ((0 : Int), (1 : Int)).1 * (1 * zUn Y) ↔ zFi F Y A B ≤ 0 := by
        show zFi F Y A B * 1 ≤ 0 * (1 * zUn Y) ↔ _
        rw [Int.mul_one, Int.zero_mul]
      have c2 : zFi F Y A B * (0, (1 : Int)).2 ≤ ((0 : Int), (1 : Int)).1 * (2 * zUn Y) ↔ zFi F Y A B ≤ 0 := by
        show zFi F Y A B * 1 ≤ 0 * (2 * zUn Y) ↔ _
        rw [Int.mul_one, Int.zero_mul]
      by_cases hc : zFi F Y A B ≤ 0
      · rw [if_pos (c1.mpr hc), if_pos (c2.mpr hc)]
        exact Or.inl ⟨rfl, rfl⟩
      · rw [if_neg (fun e => hc (c1.mp e)), if_neg (fun e => hc (c2.mp e))]
        exact new
    · rw [h1, h2, Int.one_mul]
      have c := sc_le (zFi F Y A B) p.1 p.2 (zUn Y)
      by_cases hc : zFi F Y A B * p.2 ≤ p.1 * zUn Y
      · rw [if_pos hc, if_pos (c.mpr hc)]
        exact Or.inr ⟨h1, h2⟩
      · rw [if_neg hc, if_neg (fun e => hc (c.mp e))]
        exact Or.inr ⟨rfl, rfl⟩
theorem zHigh_s {F Y A B : Int} {p q : Int × Int} (h : SH p q) : SH (zHigh 1 F Y A B p) (zHigh 2 F Y A B q) ∧ (Y ≠ 0 → (zHigh 2 F Y A B q).1 = (zHigh 1 F Y A B p).1 ∧ (zHigh 2 F Y A B q).2 = 2 * (zHigh 1 F Y A B p).2) := by
  unfold zHigh
  by_cases hy : Y = 0
  · rw [if_pos hy, if_pos hy]
    exact ⟨h, fun q => absurd hy q⟩
  · rw [if_neg hy, if_neg hy]
    have un : zUn Y ≠ 0 := by unfold zUn; split <;> omega
    have new : SH (zLa F Y A B, 1 * zUn Y) (zLa F Y A B, 2 * zUn Y) := Or.inr ⟨rfl, by show 2 * zUn Y = 2 * (1 * zUn Y); omega, by show 1 * zUn Y ≠ 0; omega⟩
    rcases h with ⟨h1, h2⟩ | ⟨h1, h2, h3⟩
    · rw [if_pos h1, if_pos h2]
      exact ⟨new, fun _ => ⟨rfl, by show 2 * zUn Y = 2 * (1 * zUn Y); omega⟩⟩
    · rw [if_neg h3, if_neg (by omega : ¬ q.2 = 0), h1, h2, Int.one_mul]
      have c := sc_le p.1 (zLa F Y A B) (zUn Y) p.2
      by_cases hc : p.1 * zUn Y ≤ zLa F Y A B * p.2
      · rw [if_pos hc, if_pos (c.mpr hc)]
        exact ⟨Or.inr ⟨h1, h2, h3⟩, fun _ => ⟨h1, h2⟩⟩
      · rw [if_neg hc, if_neg (fun e => hc (c.mp e))]
        exact ⟨Or.inr ⟨rfl, rfl, un⟩, fun _ => ⟨rfl, rfl⟩⟩
/-- which of two is nearer, in either scale -/
theorem SL_lt {p q p' q' : Int × Int} (h : SL p q) (h' : SL p' q') : q.1 * q'.2 < q'.1 * q.2 ↔ p.1 * p'.2 < p'.1 * p.2 := by
  rcases h with ⟨rfl, rfl⟩ | ⟨h1, h2⟩ <;> rcases h' with ⟨rfl, rfl⟩ | ⟨h3, h4⟩
  · exact Iff.rfl
  · show 0 * q'.2 < q'.1 * 1 ↔ 0 * p'.2 < p'.1 * 1
    rw [h3, Int.zero_mul, Int.zero_mul]
  · show q.1 * 1 < 0 * q.2 ↔ p.1 * 1 < 0 * p.2
    rw [h1, Int.zero_mul, Int.zero_mul]
  · rw [h1, h2, h3, h4]
    exact sc_lt _ _ _ _
/-- a block before a start: starts from f to f' on each axis, the way, the block's bounds; 3 axes -/
def zHit (L H : Int × Int) (o : Prop) : Prop := ¬ o ∧ L.1 * H.2 < H.1 * L.2
end
section
/-! ===== light, sun, hours, takers: what they are ===== -/
def outn (f y a b : Int) : Nat := if y = 0 then (if f ≤ a then 1 else if b ≤ f then 1 else 0) else 0
theorem outn_z {f y a b : Int} : outn f y a b = 0 ↔ ¬ zOut f y a b := by
  unfold outn zOut
  by_cases h : y = 0
  · rw [if_pos h]
    by_cases h1 : f ≤ a
    · rw [if_pos h1]
      exact ⟨fun e => by omega, fun e => absurd ⟨h, Or.inl h1⟩ e⟩
    · rw [if_neg h1]
      by_cases h2 : b ≤ f
      · rw [if_pos h2]
        exact ⟨fun e => by omega, fun e => absurd ⟨h, Or.inr h2⟩ e⟩
      · rw [if_neg h2]
        exact ⟨fun _ e => by omega, fun _ => rfl⟩
  · rw [if_neg h]
    exact ⟨fun _ e => h e.1, fun _ => rfl⟩
def zL3 (c : Int) (f1 y1 a1 b1 f2 y2 a2 b2 f3 y3 a3 b3 : Int) : Int × Int := zLow c f3 y3 a3 b3 (zLow c f2 y2 a2 b2 (zLow c f1 y1 a1 b1 (0, 1)))
def zH3 (c : Int) (f1 y1 a1 b1 f2 y2 a2 b2 f3 y3 a3 b3 : Int) : Int × Int := zHigh c f3 y3 a3 b3 (zHigh c f2 y2 a2 b2 (zHigh c f1 y1 a1 b1 (1, 0)))
def lowP (V : St) (w c k b t : Nat) : Int × Int := zL3 1 (ptX V w c) (V 35 k).toInt (2 * nv V 40 b : Nat) (2 * nv V 41 b : Nat) (ptY V w c) (V 36 k).toInt (2 * nv V 42 b : Nat) (2 * nv V 43 b : Nat) (ptZ V w c) (nv V 37 k) (2 * nv V 44 b : Nat) (2 * t : Nat)
def highP (V : St) (w c k b t : Nat) : Int × Int := zH3 1 (ptX V w c) (V 35 k).toInt (2 * nv V 40 b : Nat) (2 * nv V 41 b : Nat) (ptY V w c) (V 36 k).toInt (2 * nv V 42 b : Nat) (2 * nv V 43 b : Nat) (ptZ V w c) (nv V 37 k) (2 * nv V 44 b : Nat) (2 * t : Nat)
def outP (V : St) (w c k b t : Nat) : Nat := outn (ptX V w c) (V 35 k).toInt (2 * nv V 40 b : Nat) (2 * nv V 41 b : Nat) + outn (ptY V w c) (V 36 k).toInt (2 * nv V 42 b : Nat) (2 * nv V 43 b : Nat) + outn (ptZ V w c) (nv V 37 k) (2 * nv V 44 b : Nat) (2 * t : Nat)
/-- 1 if the BLOCK b, of TOP t, stands before the POINT of the CELL c of w at the way k -/
def hitn (V : St) (w c k b t : Nat) : Nat := if outP V w c k b t = 0 then (if (lowP V w c k b t).1 * (highP V w c k b t).2 < (highP V w c k b t).1 * (lowP V w c k b t).2 then 1 else 0) else 0
theorem hitn_le (V : St) (w c k b t : Nat) : hitn V w c k b t ≤ 1 := by
  unfold hitn
  (repeat' split)
  all_goals omega
def InvG (V : St) : Prop := (∀ k, -50 ≤ (V 35 k).toInt ∧ (V 35 k).toInt ≤ 50 ∧ -50 ≤ (V 36 k).toInt ∧ (V 36 k).toInt ≤ 50) ∧ ∀ d m, d < 8 → m < nv V 34 d → 1 ≤ nv V 37 (24 * d + m)
def WF (V : St) : Prop := InvN V ∧ InvW V ∧ InvG V
theorem pt_b {V : St} (hF : WF V) {w c : Nat} (hn : w < nv V 33 19) (hc : c < cls V w) : ptX V w c ≤ 400 ∧ ptY V w c ≤ 400 ∧ ptZ V w c ≤ 400 := by
  obtain ⟨hI, hW, hG⟩ := hF
  obtain ⟨h1, h2, h3, h4⟩ := hW w
  obtain ⟨h5, h6⟩ := h4 hn
  have b1 := bd hI 53 w 200 rfl rfl
  have b2 := bd hI 55 w 200 rfl rfl
  have b3 := bd hI 51 w 200 rfl rfl
  have m1 := Nat.mod_lt c (y := nv V 53 w - nv V 52 w) (by omega)
  have m2 : c / (nv V 53 w - nv V 52 w) < nv V 55 w - nv V 54 w := Nat.div_lt_of_lt_mul hc
  have hu : ptU V w c ≤ 400 := by unfold ptU; omega
  refine ⟨?_, ?_, ?_⟩
  · unfold ptX; split <;> omega
  · unfold ptY; split <;> omega
  · unfold ptZ; omega
theorem ax_n {f y a b : Nat} (hf : f ≤ 400) (hy : y ≤ 50) (ha : a ≤ 200) (hb : b ≤ 200) : AxB (nI f) (nI y) (nI (2 * a)) (nI (2 * b)) f y (2 * a : Nat) (2 * b : Nat) := by
  refine ⟨nI_toInt (by omega), nI_toInt (by omega), nI_toInt (by omega), nI_toInt (by omega), ?_⟩
  omega
theorem ax_i {f a b : Nat} {y : Int32} (hf : f ≤ 400) (hy1 : -50 ≤ y.toInt) (hy2 : y.toInt ≤ 50) (ha : a ≤ 200) (hb : b ≤ 200) : AxB (nI f) y (nI (2 * a)) (nI (2 * b)) f y.toInt (2 * a : Nat) (2 * b : Nat) := by
  refine ⟨nI_toInt (by omega), rfl, nI_toInt (by omega), nI_toInt (by omega), ?_⟩
  omega
theorem LR01 : LR (nI 0, nI 1) (0, 1) := by refine ⟨rfl, rfl, ?_, ?_, ?_, ?_⟩ <;> decide
theorem sLow_t {V : St} (hF : WF V) {w c k b : Nat} (hn : w < nv V 33 19) (hc : c < cls V w) : ∃ q, LR (sLow V w c k b) q ∧ SL (lowP V w c k b (topT V b)) q := by
  obtain ⟨p1, p2, p3⟩ := pt_b hF hn hc
  have hI := hF.1
  obtain ⟨g1, g2, g3, g4⟩ := hF.2.2.1 k
  have A1 := ax_i p1 g1 g2 (bd hI 40 b 200 rfl rfl) (bd hI 41 b 200 rfl rfl)
  have A2 := ax_i p2 g3 g4 (bd hI 42 b 200 rfl rfl) (bd hI 43 b 200 rfl rfl)
  have A3 := ax_n p3 (bd hI 37 k 50 rfl rfl) (bd hI 44 b 200 rfl rfl) (topT_le hI b)
  exact ⟨_, gLow_t A3 (gLow_t A2 (gLow_t A1 LR01)), zLow_s (zLow_s (zLow_s (Or.inl ⟨rfl, rfl⟩)))⟩
theorem hit_key {l h : Int32 × Int32} {zl zh p q : Int × Int} (hl : LR l zl) (hh : LR h zh) (h1 : SL p zl) (h2 : zh.1 = q.1) (h3 : zh.2 = 2 * q.2) : (h.1 * l.2 ≤ l.1 * h.2) ↔ ¬ (p.1 * q.2 < q.1 * p.2) := by
  obtain ⟨l1, l2, l3, l4, l5, l6⟩ := hl
  obtain ⟨r1, r2, r3, r4, r5, r6⟩ := hh
  have m1 := mulB (A := 1000) (B := 100) (a := zh.1) (b := zl.2) (by omega) (by omega) (by omega) (by omega)
  have m2 := mulB (A := 1000) (B := 100) (a := zl.1) (b := zh.2) (by omega) (by omega) (by omega) (by omega)
  rw [t_le (t_mul r1 l2 (by omega) (by omega)) (t_mul l1 r2 (by omega) (by omega)), Int.not_lt, h2, h3]
  rcases h1 with ⟨e1, e2⟩ | ⟨e1, e2⟩
  · rw [e1, e2]
    show _ * 1 ≤ 0 * _ ↔ _ * 1 ≤ 0 * _
    rw [Int.zero_mul, Int.zero_mul]
  · rw [e1, e2]
    exact sc_le _ _ _ _
theorem sHit_eq {V : St} (hF : WF V) {w c k b : Nat} (h0 : Int32) (hn : w < nv V 33 19) (hc : c < cls V w) (hk : 1 ≤ nv V 37 k) : sHit h0 V w c k b = hitn V w c k b (topT V b) := by
  obtain ⟨p1, p2, p3⟩ := pt_b hF hn hc
  have hI := hF.1
  obtain ⟨g1, g2, g3, g4⟩ := hF.2.2.1 k
  have A1 := ax_i p1 g1 g2 (bd hI 40 b 200 rfl rfl) (bd hI 41 b 200 rfl rfl)
  have A2 := ax_i p2 g3 g4 (bd hI 42 b 200 rfl rfl) (bd hI 43 b 200 rfl rfl)
  have A3 := ax_n p3 (bd hI 37 k 50 rfl rfl) (bd hI 44 b 200 rfl rfl) (topT_le hI b)
  have eo : sOut V w c k b = 0 ↔ outP V w c k b (topT V b) = 0 := by
    unfold sOut outP
    rw [gOut_t A3, gOut_t A2, gOut_t A1, ← outn_z, ← outn_z, ← outn_z]
    constructor
    · rintro ⟨⟨⟨-, h1⟩, h2⟩, h3⟩
      omega
    · intro h
      exact ⟨⟨⟨rfl, by omega⟩, by omega⟩, by omega⟩
  have hL := gLow_t A3 (gLow_t A2 (gLow_t A1 LR01))
  have hSL : SL (lowP V w c k b (topT V b)) _ := zLow_s (zLow_s (zLow_s (Or.inl ⟨rfl, rfl⟩)))
  have h00 : HR (h0, nI 0) (1, 0) := Or.inl ⟨rfl, rfl⟩
  have kz : (nv V 37 k : Int) ≠ 0 := by omega
  have hH := (gHigh_t A3 (gHigh_t A2 (gHigh_t A1 h00).1).1).2 kz
  have hSH := (zHigh_s (F := ptZ V w c) (Y := nv V 37 k) (A := (2 * nv V 44 b : Nat)) (B := (2 * topT V b : Nat)) (zHigh_s (F := ptY V w c) (Y := (V 36 k).toInt) (A := (2 * nv V 42 b : Nat)) (B := (2 * nv V 43 b : Nat)) (zHigh_s (F := ptX V w c) (Y := (V 35 k).toInt) (A := (2 * nv V 40 b : Nat)) (B := (2 * nv V 41 b : Nat)) (p := (1, 0)) (q := (1, 0)) (Or.inl ⟨rfl, rfl⟩)).1).1).2 kz
  unfold sHit hitn
  by_cases ho : outP V w c k b (topT V b) = 0
  · rw [if_pos ho, if_pos (eo.mpr ho)]
    have key := hit_key hL hH hSL hSH.1 hSH.2
    by_cases hc : (lowP V w c k b (topT V b)).1 * (highP V w c k b (topT V b)).2 < (highP V w c k b (topT V b)).1 * (lowP V w c k b (topT V b)).2
    · rw [if_pos hc]
      exact if_neg (fun e => key.mp e hc)
    · rw [if_neg hc]
      exact if_pos (key.mpr hc)
  · rw [if_neg ho, if_neg (fun e => ho (eo.mp e))]
/-- a BLOCK that takes light on the DAY d -/
def opq (V : St) (d b : Nat) : Nat := if nv V 39 b = 2 then 0 else if there V b = 0 then 0 else if nv V 39 b = 1 then (if nv V 47 (8 * b + d) < 8 then 1 else 0) else 1
def lightS (V : St) (w c d k b lt : Nat) : Nat := if opq V d b = 0 then lt else if hitn V w c k b (topT V b) = 0 then lt else if nv V 39 b = 1 then lt * nv V 47 (8 * b + d) / 8 else 0
def lightR (V : St) (w c d k : Nat) : Nat → Nat
  | 0 => 4096
  | b + 1 => lightS V w c d k b (lightR V w c d k b)
theorem lightS_le {V : St} (hI : InvN V) (w c d k b lt : Nat) : lightS V w c d k b lt ≤ lt := by
  unfold lightS
  have h := bd hI 47 (8 * b + d) 8 rfl rfl
  (repeat' split)
  · omega
  · omega
  · have := Nat.mul_le_mul_left lt h
    omega
  · omega
theorem lightR_le {V : St} (hI : InvN V) (w c d k b : Nat) : lightR V w c d k b ≤ 4096 := by
  induction b with
  | zero => exact Nat.le_refl _
  | succ b ih => exact Nat.le_trans (lightS_le hI w c d k b _) ih
theorem lightR_0 {V : St} (hI : InvN V) {w c d k b : Nat} (h : lightR V w c d k b = 0) : ∀ n, lightR V w c d k (b + n) = 0 := by
  intro n
  induction n with
  | zero => exact h
  | succ n ih =>
    have := lightS_le hI w c d k (b + n) (lightR V w c d k (b + n))
    show lightS V w c d k (b + n) (lightR V w c d k (b + n)) = 0
    omega
def lightN (V : St) (w c d m : Nat) : Nat := if front V w (24 * d + m) = 0 then 0 else lightR V w c d (24 * d + m) (nv V 33 7)
theorem lightN_le {V : St} (hI : InvN V) (w c d m : Nat) : lightN V w c d m ≤ 4096 := by
  unfold lightN
  split
  · omega
  · exact lightR_le hI w c d _ _
def sunR (V : St) (w d m : Nat) : Nat → Nat
  | 0 => 0
  | c + 1 => sunR V w d m c + lightN V w c d m
theorem sunR_le {V : St} (hI : InvN V) (w d m c : Nat) : sunR V w d m c ≤ 4096 * c := by
  induction c with
  | zero => exact Nat.le_refl _
  | succ c ih =>
    have := lightN_le hI w c d m
    show sunR V w d m c + lightN V w c d m ≤ _
    omega
theorem sunR_0 {V : St} {w d m : Nat} (h : front V w (24 * d + m) = 0) (c : Nat) : sunR V w d m c = 0 := by
  induction c with
  | zero => rfl
  | succ c ih =>
    show sunR V w d m c + lightN V w c d m = 0
    rw [ih, lightN, if_pos h]
def sunN (V : St) (w d m : Nat) : Nat := sunR V w d m (cls V w)
theorem sunN_le {V : St} (hF : WF V) (w d m : Nat) : sunN V w d m ≤ 262144 := by
  have h1 := sunR_le hF.1 w d m (cls V w)
  have h2 := (hF.2.1 w).2.2.1
  unfold sunN
  omega
def litN (V : St) (w d m : Nat) : Nat := if 8 * sunN V w d m < nv V 33 5 * 4096 * cls V w then 0 else 1
def hoursR (V : St) (w d : Nat) : Nat → Nat
  | 0 => 0
  | m + 1 => hoursR V w d m + litN V w d m
theorem hoursR_le (V : St) (w d m : Nat) : hoursR V w d m ≤ m := by
  induction m with
  | zero => exact Nat.le_refl _
  | succ m ih =>
    have : litN V w d m ≤ 1 := by unfold litN; split <;> omega
    show hoursR V w d m + litN V w d m ≤ _
    omega
def hoursN (V : St) (w d : Nat) : Nat := hoursR V w d (nv V 34 d)
def fallR (V : St) (w : Nat) : Nat → Nat → Int32
  | _, 0 => -9
  | d, n + 1 => if nv V 38 d = 0 then fallR V w (d + 1) n else if hoursN V w d < nv V 38 d then nI d else fallR V w (d + 1) n
/-- the first DAY on which a WINDOW falls -/
def fallI (V : St) (w : Nat) : Int32 := fallR V w 0 8
def near (V : St) (w c k b a : Nat) : Nat := if (lowP V w c k b (topT V b)).1 * (lowP V w c k a (topT V a)).2 < (lowP V w c k a (topT V a)).1 * (lowP V w c k b (topT V b)).2 then 1 else 0
def takS (V : St) (w c d k b : Nat) (o : Option Nat) : Option Nat := if opq V d b = 0 then o else if hitn V w c k b (topT V b) = 0 then o else match o with
  | none => some b
  | some a => if near V w c k b a = 0 then some a else some b
def takR (V : St) (w c d k : Nat) : Nat → Option Nat
  | 0 => none
  | b + 1 => takS V w c d k b (takR V w c d k b)
def takV : Option Nat → Int32
  | none => -9
  | some b => nI b
def takN (V : St) (w c d m : Nat) : Int32 := if front V w (24 * d + m) = 0 then -8 else takV (takR V w c d (24 * d + m) (nv V 33 7))
end
section
set_option maxRecDepth 100000 in
set_option maxHeartbeats 4000000 in
theorem l_X6_lightOf {V : St} (hF : WF V) {w c d m k : Nat} (h20 : w < 20) (hn : w < nv V 33 19) (hc : c < cls V w) (hd : d < 8) (hk : k < 192) (hz : 1 ≤ nv V 37 k) : ∀ (n b : Nat) (σ : St), vw σ = V → shown V w c k σ → b + n = nv V 33 7 → Rn LAY none RX6 cX6_lightOf 8 2 48 37 [some (.ref 33), some (.int (nI w)), some (.int (nI c)), some (.int (nI d)), some (.int (nI m)), some (.int (nI k)), some (.int (nI (lightR V w c d k b))), some (.int (nI b))] [] σ (EI (fun v τ => v = nI (lightR V w c d k (nv V 33 7)) ∧ vw τ = V)) := by
  have hI := hF.1
  have hnb := bd hI 33 7 40 rfl rfl
  intro n
  induction n with
  | zero =>
    intro b σ hV hs hb
    refine r_iload (q := 39) dX6_lightOf_37 rfl rfl ?_
    refine r_aload_n (q := 40) dX6_lightOf_39 rfl rfl ?_
    refine gvX6_97 (q := 43) hV hI dX6_lightOf_40 rfl ?_
    refine r_icmp_geN (t := 149) (q := 46) dX6_lightOf_43 (by decide) rfl (by omega) (by have := bd hI 33 7 40 rfl rfl; omega) (fun c43 => ?_) (fun c43 => absurd (by omega) c43)
    refine r_iload (q := 151) dX6_lightOf_149 rfl rfl ?_
    exact r_retI dX6_lightOf_151 ⟨by rw [show b = nv V 33 7 by omega], hV⟩
  | succ n ih =>
    intro b σ hV hs hb
    refine r_iload (q := 39) dX6_lightOf_37 rfl rfl ?_
    refine r_aload_n (q := 40) dX6_lightOf_39 rfl rfl ?_
    refine gvX6_97 (q := 43) hV hI dX6_lightOf_40 rfl ?_
    refine r_icmp_geN (t := 149) (q := 46) dX6_lightOf_43 (by decide) rfl (by omega) (by have := bd hI 33 7 40 rfl rfl; omega) (fun c43 => absurd c43 (by omega)) (fun c43 => ?_)
    refine r_iload (q := 48) dX6_lightOf_46 rfl rfl ?_
    refine r_if_leN (t := 149) (q := 51) dX6_lightOf_48 (by decide) rfl (by have := lightR_le hI w c d k b; omega) (fun c48 => ?_) (fun c48 => ?_)
    · refine r_iload (q := 151) dX6_lightOf_149 rfl rfl ?_
      have := lightR_0 hI c48 (n + 1)
      exact r_retI dX6_lightOf_151 ⟨by rw [c48, show nv V 33 7 = b + (n + 1) by omega, this], hV⟩
    · refine r_aload_n (q := 52) dX6_lightOf_51 rfl rfl ?_
      refine gX6_29 (q := 55) dX6_lightOf_52 rfl ?_
      refine r_iload (q := 57) dX6_lightOf_55 rfl rfl ?_
      refine r_ialdV (q := 58) hV hI dX6_lightOf_57 rfl LA39 rfl rfl (by decide) (by omega) ?_
      refine r_iconst (q := 59) (v := nI 2) dX6_lightOf_58 rfl (by decide) ?_
      refine r_icmp_eqN (t := 143) (q := 62) dX6_lightOf_59 (by decide) rfl (by have := bd hI 39 b 3 rfl rfl; omega) (by omega) (fun c59 => ?_) (fun c59 => ?_)
      · refine r_iinc (q := 146) (v := nI (b + 1)) dX6_lightOf_143 rfl rfl (by rw [show Int32.ofInt 1 = nI 1 from rfl]; exact nI_add _ _) ?_
        refine r_goto (q := 37) dX6_lightOf_146 (by decide) ?_
        have e : lightR V w c d k (b + 1) = lightR V w c d k b := by
          show lightS V w c d k b (lightR V w c d k b) = _
          simp only [lightS, opq]
          simp only [*, if_true, if_false, reduceIte] <;> (repeat' split) <;> first | rfl | omega | contradiction | (exfalso; omega)
        rw [← e]
        exact ih (b + 1) _ hV hs (by omega)
      · refine r_aload_n (q := 63) dX6_lightOf_62 rfl rfl ?_
        refine r_iload (q := 65) dX6_lightOf_63 rfl rfl ?_
        refine r_cI1 (q := 68) vX6_173 dX6_lightOf_65 rfl LYX6 rfl (Nat.le_of_ble_eq_true rfl) (by decide) (by decide) (c_X6_isThere _ V hV hI b (by omega)) ?_
        rintro _ _ ⟨rfl, rfl⟩
        refine r_if_eqN (t := 143) (q := 71) dX6_lightOf_68 (by decide) rfl (by have := there_le V b; omega) (fun c68 => ?_) (fun c68 => ?_)
        · refine r_iinc (q := 146) (v := nI (b + 1)) dX6_lightOf_143 rfl rfl (by rw [show Int32.ofInt 1 = nI 1 from rfl]; exact nI_add _ _) ?_
          refine r_goto (q := 37) dX6_lightOf_146 (by decide) ?_
          have e : lightR V w c d k (b + 1) = lightR V w c d k b := by
            show lightS V w c d k b (lightR V w c d k b) = _
            simp only [lightS, opq]
            simp only [*, if_true, if_false, reduceIte] <;> (repeat' split) <;> first | rfl | omega | contradiction | (exfalso; omega)
          rw [← e]
          exact ih (b + 1) _ hV hs (by omega)
        · refine r_aload_n (q := 72) dX6_lightOf_71 rfl rfl ?_
          refine gX6_29 (q := 75) dX6_lightOf_72 rfl ?_
          refine r_iload (q := 77) dX6_lightOf_75 rfl rfl ?_
          refine r_ialdV (q := 78) hV hI dX6_lightOf_77 rfl LA39 rfl rfl (by decide) (by omega) ?_
          refine r_iconst (q := 79) (v := nI 1) dX6_lightOf_78 rfl (by decide) ?_
          refine r_icmp_neN (t := 99) (q := 82) dX6_lightOf_79 (by decide) rfl (by have := bd hI 39 b 3 rfl rfl; omega) (by omega) (fun c79 => ?_) (fun c79 => ?_)
          · refine r_aload_n (q := 100) dX6_lightOf_99 rfl rfl ?_
            refine r_iload (q := 102) dX6_lightOf_100 rfl rfl ?_
            refine r_cI1 (q := 105) vX6_176 dX6_lightOf_102 rfl LYX6 rfl (Nat.le_of_ble_eq_true rfl) (by decide) (by decide) (c_X6_stands _ V hV hI w c k b hs (by omega)) ?_
            rintro _ τ ⟨rfl, hV1, o1, -⟩
            rw [sHit_eq hF _ hn hc hz]
            have hs1 := o1.shown hs
            refine r_if_eqN (t := 143) (q := 108) dX6_lightOf_105 (by decide) rfl (by have := hitn_le V w c k b (topT V b); omega) (fun c105 => ?_) (fun c105 => ?_)
            · refine r_iinc (q := 146) (v := nI (b + 1)) dX6_lightOf_143 rfl rfl (by rw [show Int32.ofInt 1 = nI 1 from rfl]; exact nI_add _ _) ?_
              refine r_goto (q := 37) dX6_lightOf_146 (by decide) ?_
              have e : lightR V w c d k (b + 1) = lightR V w c d k b := by
                show lightS V w c d k b (lightR V w c d k b) = _
                simp only [lightS, opq]
                simp only [*, if_true, if_false, reduceIte] <;> (repeat' split) <;> first | rfl | omega | contradiction | (exfalso; omega)
              rw [← e]
              exact ih (b + 1) _ hV1 hs1 (by omega)
            · refine r_aload_n (q := 109) dX6_lightOf_108 rfl rfl ?_
              refine gX6_29 (q := 112) dX6_lightOf_109 rfl ?_
              refine r_iload (q := 114) dX6_lightOf_112 rfl rfl ?_
              refine r_ialdV (q := 115) hV1 hI dX6_lightOf_114 rfl LA39 rfl rfl (by decide) (by omega) ?_
              refine r_iconst (q := 116) (v := nI 1) dX6_lightOf_115 rfl (by decide) ?_
              refine r_icmp_neN (t := 140) (q := 119) dX6_lightOf_116 (by decide) rfl (by have := bd hI 39 b 3 rfl rfl; omega) (by omega) (fun c116 => ?_) (fun c116 => ?_)
              · refine r_iconst (q := 141) (v := nI 0) dX6_lightOf_140 rfl (by decide) ?_
                refine r_istore (q := 143) dX6_lightOf_141 rfl (Nat.le_of_ble_eq_true rfl) ?_
                refine r_iinc (q := 146) (v := nI (b + 1)) dX6_lightOf_143 rfl rfl (by rw [show Int32.ofInt 1 = nI 1 from rfl]; exact nI_add _ _) ?_
                refine r_goto (q := 37) dX6_lightOf_146 (by decide) ?_
                have e : lightR V w c d k (b + 1) = 0 := by
                  show lightS V w c d k b (lightR V w c d k b) = _
                  simp only [lightS, opq]
                  simp only [*, if_true, if_false, reduceIte] <;> (repeat' split) <;> first | rfl | omega | contradiction | (exfalso; omega)
                rw [← e]
                exact ih (b + 1) _ hV1 hs1 (by omega)
              · refine r_iload (q := 121) dX6_lightOf_119 rfl rfl ?_
                refine r_aload_n (q := 122) dX6_lightOf_121 rfl rfl ?_
                refine gX6_53 (q := 125) dX6_lightOf_122 rfl ?_
                refine r_bipush (q := 127) (v := nI 8) dX6_lightOf_125 rfl (by decide) ?_
                refine r_iload (q := 129) dX6_lightOf_127 rfl rfl ?_
                refine r_imulN (q := 130) dX6_lightOf_129 rfl ?_
                refine r_iload_n (q := 131) dX6_lightOf_130 rfl rfl ?_
                refine r_iaddN (q := 132) dX6_lightOf_131 rfl ?_
                refine r_ialdV (q := 133) hV1 hI dX6_lightOf_132 rfl LA47 rfl rfl (by decide) (by omega) ?_
                refine r_imulN (q := 134) dX6_lightOf_133 rfl ?_
                refine r_bipush (q := 136) (v := nI 8) dX6_lightOf_134 rfl (by decide) ?_
                refine r_idivN (q := 137) dX6_lightOf_136 rfl (by have h1 := lightR_le hI w c d k b; have h2 := bd hI 47 (8 * b + d) 8 rfl rfl; have := Nat.mul_le_mul h1 h2; omega) (by decide) (by decide) ?_
                refine r_goto (q := 141) dX6_lightOf_137 (by decide) ?_
                refine r_istore (q := 143) dX6_lightOf_141 rfl (Nat.le_of_ble_eq_true rfl) ?_
                refine r_iinc (q := 146) (v := nI (b + 1)) dX6_lightOf_143 rfl rfl (by rw [show Int32.ofInt 1 = nI 1 from rfl]; exact nI_add _ _) ?_
                refine r_goto (q := 37) dX6_lightOf_146 (by decide) ?_
                have e : lightR V w c d k (b + 1) = ((lightR V w c d k b * nv V 47 (((8 * b) + d))) / 8) := by
                  show lightS V w c d k b (lightR V w c d k b) = _
                  simp only [lightS, opq]
                  simp only [*, if_true, if_false, reduceIte] <;> (repeat' split) <;> first | rfl | omega | contradiction | (exfalso; omega)
                rw [← e]
                exact ih (b + 1) _ hV1 hs1 (by omega)
          · refine r_aload_n (q := 83) dX6_lightOf_82 rfl rfl ?_
            refine gX6_53 (q := 86) dX6_lightOf_83 rfl ?_
            refine r_bipush (q := 88) (v := nI 8) dX6_lightOf_86 rfl (by decide) ?_
            refine r_iload (q := 90) dX6_lightOf_88 rfl rfl ?_
            refine r_imulN (q := 91) dX6_lightOf_90 rfl ?_
            refine r_iload_n (q := 92) dX6_lightOf_91 rfl rfl ?_
            refine r_iaddN (q := 93) dX6_lightOf_92 rfl ?_
            refine r_ialdV (q := 94) hV hI dX6_lightOf_93 rfl LA47 rfl rfl (by decide) (by omega) ?_
            refine r_bipush (q := 96) (v := nI 8) dX6_lightOf_94 rfl (by decide) ?_
            refine r_icmp_geN (t := 143) (q := 99) dX6_lightOf_96 (by decide) rfl (by have := bd hI 47 (((8 * b) + d)) 8 rfl rfl; omega) (by omega) (fun c96 => ?_) (fun c96 => ?_)
            · refine r_iinc (q := 146) (v := nI (b + 1)) dX6_lightOf_143 rfl rfl (by rw [show Int32.ofInt 1 = nI 1 from rfl]; exact nI_add _ _) ?_
              refine r_goto (q := 37) dX6_lightOf_146 (by decide) ?_
              have e : lightR V w c d k (b + 1) = lightR V w c d k b := by
                show lightS V w c d k b (lightR V w c d k b) = _
                simp only [lightS, opq]
                simp only [*, if_true, if_false, reduceIte] <;> (repeat' split) <;> first | rfl | omega | contradiction | (exfalso; omega)
              rw [← e]
              exact ih (b + 1) _ hV hs (by omega)
            · refine r_aload_n (q := 100) dX6_lightOf_99 rfl rfl ?_
              refine r_iload (q := 102) dX6_lightOf_100 rfl rfl ?_
              refine r_cI1 (q := 105) vX6_176 dX6_lightOf_102 rfl LYX6 rfl (Nat.le_of_ble_eq_true rfl) (by decide) (by decide) (c_X6_stands _ V hV hI w c k b hs (by omega)) ?_
              rintro _ τ ⟨rfl, hV1, o1, -⟩
              rw [sHit_eq hF _ hn hc hz]
              have hs1 := o1.shown hs
              refine r_if_eqN (t := 143) (q := 108) dX6_lightOf_105 (by decide) rfl (by have := hitn_le V w c k b (topT V b); omega) (fun c105 => ?_) (fun c105 => ?_)
              · refine r_iinc (q := 146) (v := nI (b + 1)) dX6_lightOf_143 rfl rfl (by rw [show Int32.ofInt 1 = nI 1 from rfl]; exact nI_add _ _) ?_
                refine r_goto (q := 37) dX6_lightOf_146 (by decide) ?_
                have e : lightR V w c d k (b + 1) = lightR V w c d k b := by
                  show lightS V w c d k b (lightR V w c d k b) = _
                  simp only [lightS, opq]
                  simp only [*, if_true, if_false, reduceIte] <;> (repeat' split) <;> first | rfl | omega | contradiction | (exfalso; omega)
                rw [← e]
                exact ih (b + 1) _ hV1 hs1 (by omega)
              · refine r_aload_n (q := 109) dX6_lightOf_108 rfl rfl ?_
                refine gX6_29 (q := 112) dX6_lightOf_109 rfl ?_
                refine r_iload (q := 114) dX6_lightOf_112 rfl rfl ?_
                refine r_ialdV (q := 115) hV1 hI dX6_lightOf_114 rfl LA39 rfl rfl (by decide) (by omega) ?_
                refine r_iconst (q := 116) (v := nI 1) dX6_lightOf_115 rfl (by decide) ?_
                refine r_icmp_neN (t := 140) (q := 119) dX6_lightOf_116 (by decide) rfl (by have := bd hI 39 b 3 rfl rfl; omega) (by omega) (fun c116 => ?_) (fun c116 => ?_)
                · refine r_iconst (q := 141) (v := nI 0) dX6_lightOf_140 rfl (by decide) ?_
                  refine r_istore (q := 143) dX6_lightOf_141 rfl (Nat.le_of_ble_eq_true rfl) ?_
                  refine r_iinc (q := 146) (v := nI (b + 1)) dX6_lightOf_143 rfl rfl (by rw [show Int32.ofInt 1 = nI 1 from rfl]; exact nI_add _ _) ?_
                  refine r_goto (q := 37) dX6_lightOf_146 (by decide) ?_
                  have e : lightR V w c d k (b + 1) = 0 := by
                    show lightS V w c d k b (lightR V w c d k b) = _
                    simp only [lightS, opq]
                    simp only [*, if_true, if_false, reduceIte] <;> (repeat' split) <;> first | rfl | omega | contradiction | (exfalso; omega)
                  rw [← e]
                  exact ih (b + 1) _ hV1 hs1 (by omega)
                · refine r_iload (q := 121) dX6_lightOf_119 rfl rfl ?_
                  refine r_aload_n (q := 122) dX6_lightOf_121 rfl rfl ?_
                  refine gX6_53 (q := 125) dX6_lightOf_122 rfl ?_
                  refine r_bipush (q := 127) (v := nI 8) dX6_lightOf_125 rfl (by decide) ?_
                  refine r_iload (q := 129) dX6_lightOf_127 rfl rfl ?_
                  refine r_imulN (q := 130) dX6_lightOf_129 rfl ?_
                  refine r_iload_n (q := 131) dX6_lightOf_130 rfl rfl ?_
                  refine r_iaddN (q := 132) dX6_lightOf_131 rfl ?_
                  refine r_ialdV (q := 133) hV1 hI dX6_lightOf_132 rfl LA47 rfl rfl (by decide) (by omega) ?_
                  refine r_imulN (q := 134) dX6_lightOf_133 rfl ?_
                  refine r_bipush (q := 136) (v := nI 8) dX6_lightOf_134 rfl (by decide) ?_
                  refine r_idivN (q := 137) dX6_lightOf_136 rfl (by have h1 := lightR_le hI w c d k b; have h2 := bd hI 47 (8 * b + d) 8 rfl rfl; have := Nat.mul_le_mul h1 h2; omega) (by decide) (by decide) ?_
                  refine r_goto (q := 141) dX6_lightOf_137 (by decide) ?_
                  refine r_istore (q := 143) dX6_lightOf_141 rfl (Nat.le_of_ble_eq_true rfl) ?_
                  refine r_iinc (q := 146) (v := nI (b + 1)) dX6_lightOf_143 rfl rfl (by rw [show Int32.ofInt 1 = nI 1 from rfl]; exact nI_add _ _) ?_
                  refine r_goto (q := 37) dX6_lightOf_146 (by decide) ?_
                  have e : lightR V w c d k (b + 1) = ((lightR V w c d k b * nv V 47 (((8 * b) + d))) / 8) := by
                    show lightS V w c d k b (lightR V w c d k b) = _
                    simp only [lightS, opq]
                    simp only [*, if_true, if_false, reduceIte] <;> (repeat' split) <;> first | rfl | omega | contradiction | (exfalso; omega)
                  rw [← e]
                  exact ih (b + 1) _ hV1 hs1 (by omega)
set_option maxRecDepth 100000 in
set_option maxHeartbeats 4000000 in
theorem c_X6_lightOf (σ V : St) (hV : vw σ = V) (hF : WF V) (w c d m : Nat) (h20 : w < 20) (hn : w < nv V 33 19) (hc : c < cls V w) (hd : d < 8) (hm : m < nv V 34 d) : Cl LAY yX6_lightOf cX6_lightOf 8 (some .int) 2 48 [.ref 33, .int (nI w), .int (nI c), .int (nI d), .int (nI m)] σ (EI (fun v τ => v = nI (lightN V w c d m) ∧ vw τ = V)) := by
  refine Cl.of 3 rfl rfl EI.ok ?_
  show Rn LAY none RX6 _ _ _ _ 0 [some (.ref 33), some (.int (nI w)), some (.int (nI c)), some (.int (nI d)), some (.int (nI m)), none, none, none] [] _ _
  have hI := hF.1
  have hmn := bd hI 34 d 24 rfl rfl
  have hz := hF.2.2.2 d m hd hm
  refine r_bipush (q := 2) (v := nI 24) dX6_lightOf_0 rfl (by decide) ?_
  refine r_iload_n (q := 3) dX6_lightOf_2 rfl rfl ?_
  refine r_imulN (q := 4) dX6_lightOf_3 rfl ?_
  refine r_iload (q := 6) dX6_lightOf_4 rfl rfl ?_
  refine r_iaddN (q := 7) dX6_lightOf_6 rfl ?_
  refine r_istore (q := 9) dX6_lightOf_7 rfl (Nat.le_of_ble_eq_true rfl) ?_
  refine r_aload_n (q := 10) dX6_lightOf_9 rfl rfl ?_
  refine r_iload_n (q := 11) dX6_lightOf_10 rfl rfl ?_
  refine r_iload (q := 13) dX6_lightOf_11 rfl rfl ?_
  refine r_cI2 (q := 16) vX6_165 dX6_lightOf_13 rfl LYX6 rfl (Nat.le_of_ble_eq_true rfl) (by decide) (by decide) (c_X6_isInFront _ V hV hI w (24 * d + m) h20 (by omega)) ?_
  rintro _ _ ⟨rfl, rfl⟩
  refine r_if_neN (t := 21) (q := 19) dX6_lightOf_16 (by decide) rfl (by have := front_le V w (24 * d + m); omega) (fun c16 => ?_) (fun c16 => ?_)
  · refine r_aload_n (q := 22) dX6_lightOf_21 rfl rfl ?_
    refine r_iload_n (q := 23) dX6_lightOf_22 rfl rfl ?_
    refine r_iload_n (q := 24) dX6_lightOf_23 rfl rfl ?_
    refine r_iload (q := 26) dX6_lightOf_24 rfl rfl ?_
    refine r_cV3 (q := 29) vX6_169 dX6_lightOf_26 rfl LYX6 rfl (Nat.le_of_ble_eq_true rfl) (by decide) (by decide) (c_X6_show _ V hV hI hF.2.1 w c (24 * d + m) h20 hn (by omega) (by have := (hF.2.1 w).2.2.1; omega)) ?_
    rintro τ ⟨hV1, hs⟩
    refine r_sipush (q := 32) (v := nI 4096) dX6_lightOf_29 rfl (by decide) ?_
    refine r_istore (q := 34) dX6_lightOf_32 rfl (Nat.le_of_ble_eq_true rfl) ?_
    refine r_iconst (q := 35) (v := nI 0) dX6_lightOf_34 rfl (by decide) ?_
    refine r_istore (q := 37) dX6_lightOf_35 rfl (Nat.le_of_ble_eq_true rfl) ?_
    refine (l_X6_lightOf hF h20 hn hc hd (by omega) hz (nv V 33 7) 0 _ hV1 hs (by omega)).mono ?_
    rintro r τ ⟨v, rfl, rfl, h⟩
    exact ⟨_, rfl, by rw [lightN, if_neg c16], h⟩
  · refine r_iconst (q := 20) (v := nI 0) dX6_lightOf_19 rfl (by decide) ?_
    exact r_retI dX6_lightOf_20 ⟨by rw [lightN, if_pos c16], hV⟩
set_option maxRecDepth 100000 in
set_option maxHeartbeats 4000000 in
theorem l_X6_sunOf {V : St} (hF : WF V) {w d m : Nat} (h20 : w < 20) (hn : w < nv V 33 19) (hd : d < 8) (hm : m < nv V 34 d) : ∀ (n c : Nat) (σ : St), vw σ = V → c + n = cls V w → Rn LAY none RX6 cX6_sunOf 6 3 75 6 [some (.ref 33), some (.int (nI w)), some (.int (nI d)), some (.int (nI m)), some (.int (nI (sunR V w d m c))), some (.int (nI c))] [] σ (EI (fun v τ => v = nI (sunN V w d m) ∧ vw τ = V)) := by
  have hI := hF.1
  have hcl := (hF.2.1 w).2.2.1
  have hmn := bd hI 34 d 24 rfl rfl
  intro n
  induction n with
  | zero =>
    intro c σ hV hb
    refine r_iload (q := 8) dX6_sunOf_6 rfl rfl ?_
    refine r_aload_n (q := 9) dX6_sunOf_8 rfl rfl ?_
    refine r_iload_n (q := 10) dX6_sunOf_9 rfl rfl ?_
    refine r_cI1 (q := 13) vX6_179 dX6_sunOf_10 rfl LYX6 rfl (Nat.le_of_ble_eq_true rfl) (by decide) (by decide) (c_X6_cellsOf _ V hV hI hF.2.1 w h20) ?_
    rintro _ _ ⟨rfl, rfl⟩
    refine r_icmp_geN (t := 50) (q := 16) dX6_sunOf_13 (by decide) rfl (by omega) (by omega) (fun c13 => ?_) (fun c13 => absurd (by omega) c13)
    refine r_iload (q := 52) dX6_sunOf_50 rfl rfl ?_
    exact r_retI dX6_sunOf_52 ⟨by rw [sunN, show c = cls V w by omega], hV⟩
  | succ n ih =>
    intro c σ hV hb
    refine r_iload (q := 8) dX6_sunOf_6 rfl rfl ?_
    refine r_aload_n (q := 9) dX6_sunOf_8 rfl rfl ?_
    refine r_iload_n (q := 10) dX6_sunOf_9 rfl rfl ?_
    refine r_cI1 (q := 13) vX6_179 dX6_sunOf_10 rfl LYX6 rfl (Nat.le_of_ble_eq_true rfl) (by decide) (by decide) (c_X6_cellsOf _ V hV hI hF.2.1 w h20) ?_
    rintro _ _ ⟨rfl, rfl⟩
    refine r_icmp_geN (t := 50) (q := 16) dX6_sunOf_13 (by decide) rfl (by omega) (by omega) (fun c13 => absurd c13 (by omega)) (fun c13 => ?_)
    refine r_aload_n (q := 17) dX6_sunOf_16 rfl rfl ?_
    refine r_iload_n (q := 18) dX6_sunOf_17 rfl rfl ?_
    refine r_bipush (q := 20) (v := nI 24) dX6_sunOf_18 rfl (by decide) ?_
    refine r_iload_n (q := 21) dX6_sunOf_20 rfl rfl ?_
    refine r_imulN (q := 22) dX6_sunOf_21 rfl ?_
    refine r_iload_n (q := 23) dX6_sunOf_22 rfl rfl ?_
    refine r_iaddN (q := 24) dX6_sunOf_23 rfl ?_
    refine r_cI2 (q := 27) vX6_165 dX6_sunOf_24 rfl LYX6 rfl (Nat.le_of_ble_eq_true rfl) (by decide) (by decide) (c_X6_isInFront _ V hV hI w (24 * d + m) h20 (by omega)) ?_
    rintro _ _ ⟨rfl, rfl⟩
    refine r_if_eqN (t := 50) (q := 30) dX6_sunOf_27 (by decide) rfl (by have := front_le V w (24 * d + m); omega) (fun c27 => ?_) (fun c27 => ?_)
    · refine r_iload (q := 52) dX6_sunOf_50 rfl rfl ?_
      exact r_retI dX6_sunOf_52 ⟨by rw [sunN, sunR_0 c27, sunR_0 c27], hV⟩
    · refine r_iload (q := 32) dX6_sunOf_30 rfl rfl ?_
      refine r_aload_n (q := 33) dX6_sunOf_32 rfl rfl ?_
      refine r_iload_n (q := 34) dX6_sunOf_33 rfl rfl ?_
      refine r_iload (q := 36) dX6_sunOf_34 rfl rfl ?_
      refine r_iload_n (q := 37) dX6_sunOf_36 rfl rfl ?_
      refine r_iload_n (q := 38) dX6_sunOf_37 rfl rfl ?_
      refine r_cI4 (q := 41) vX6_182 dX6_sunOf_38 rfl LYX6 rfl (Nat.le_of_ble_eq_true rfl) (by decide) (by decide) (c_X6_lightOf _ V hV hF w c d m h20 hn (by omega) hd hm) ?_
      rintro _ τ ⟨rfl, hV1⟩
      refine r_iaddN (q := 42) dX6_sunOf_41 rfl ?_
      refine r_istore (q := 44) dX6_sunOf_42 rfl (Nat.le_of_ble_eq_true rfl) ?_
      refine r_iinc (q := 47) (v := nI (c + 1)) dX6_sunOf_44 rfl rfl (by rw [show Int32.ofInt 1 = nI 1 from rfl]; exact nI_add _ _) ?_
      refine r_goto (q := 6) dX6_sunOf_47 (by decide) ?_
      exact ih (c + 1) _ hV1 (by omega)
set_option maxRecDepth 100000 in
set_option maxHeartbeats 4000000 in
theorem c_X6_sunOf (σ V : St) (hV : vw σ = V) (hF : WF V) (w d m : Nat) (h20 : w < 20) (hn : w < nv V 33 19) (hd : d < 8) (hm : m < nv V 34 d) : Cl LAY yX6_sunOf cX6_sunOf 6 (some .int) 3 75 [.ref 33, .int (nI w), .int (nI d), .int (nI m)] σ (EI (fun v τ => v = nI (sunN V w d m) ∧ vw τ = V)) := by
  refine Cl.of 2 rfl rfl EI.ok ?_
  show Rn LAY none RX6 _ _ _ _ 0 [some (.ref 33), some (.int (nI w)), some (.int (nI d)), some (.int (nI m)), none, none] [] _ _
  refine r_iconst (q := 1) (v := nI 0) dX6_sunOf_0 rfl (by decide) ?_
  refine r_istore (q := 3) dX6_sunOf_1 rfl (Nat.le_of_ble_eq_true rfl) ?_
  refine r_iconst (q := 4) (v := nI 0) dX6_sunOf_3 rfl (by decide) ?_
  refine r_istore (q := 6) dX6_sunOf_4 rfl (Nat.le_of_ble_eq_true rfl) ?_
  exact l_X6_sunOf hF h20 hn hd hm (cls V w) 0 _ hV (by omega)
set_option maxRecDepth 100000 in
set_option maxHeartbeats 4000000 in
theorem l_X6_hoursOf {V : St} (hF : WF V) {w d : Nat} (h20 : w < 20) (hn : w < nv V 33 19) (hd : d < 8) : ∀ (n m : Nat) (σ : St), vw σ = V → m + n = nv V 34 d → Rn LAY none RX6 cX6_hoursOf 5 4 100 5 [some (.ref 33), some (.int (nI w)), some (.int (nI d)), some (.int (nI (hoursR V w d m))), some (.int (nI m))] [] σ (EI (fun v τ => v = nI (hoursN V w d) ∧ vw τ = V)) := by
  have hI := hF.1
  have hcl := (hF.2.1 w).2.2.1
  have hmn := bd hI 34 d 24 rfl rfl
  intro n
  induction n with
  | zero =>
    intro m σ hV hb
    refine r_iload (q := 7) dX6_hoursOf_5 rfl rfl ?_
    refine r_aload_n (q := 8) dX6_hoursOf_7 rfl rfl ?_
    refine gX6_7 (q := 11) dX6_hoursOf_8 rfl ?_
    refine r_iload_n (q := 12) dX6_hoursOf_11 rfl rfl ?_
    refine r_ialdV (q := 13) hV hI dX6_hoursOf_12 rfl LA34 rfl rfl (by decide) (by omega) ?_
    refine r_icmp_geN (t := 58) (q := 16) dX6_hoursOf_13 (by decide) rfl (by omega) (by have := bd hI 34 d 24 rfl rfl; omega) (fun c13 => ?_) (fun c13 => absurd (by omega) c13)
    refine r_iload_n (q := 59) dX6_hoursOf_58 rfl rfl ?_
    exact r_retI dX6_hoursOf_59 ⟨by rw [hoursN, show m = nv V 34 d by omega], hV⟩
  | succ n ih =>
    intro m σ hV hb
    refine r_iload (q := 7) dX6_hoursOf_5 rfl rfl ?_
    refine r_aload_n (q := 8) dX6_hoursOf_7 rfl rfl ?_
    refine gX6_7 (q := 11) dX6_hoursOf_8 rfl ?_
    refine r_iload_n (q := 12) dX6_hoursOf_11 rfl rfl ?_
    refine r_ialdV (q := 13) hV hI dX6_hoursOf_12 rfl LA34 rfl rfl (by decide) (by omega) ?_
    refine r_icmp_geN (t := 58) (q := 16) dX6_hoursOf_13 (by decide) rfl (by omega) (by have := bd hI 34 d 24 rfl rfl; omega) (fun c13 => absurd c13 (by omega)) (fun c13 => ?_)
    refine r_iload_n (q := 17) dX6_hoursOf_16 rfl rfl ?_
    refine r_bipush (q := 19) (v := nI 8) dX6_hoursOf_17 rfl (by decide) ?_
    refine r_aload_n (q := 20) dX6_hoursOf_19 rfl rfl ?_
    refine r_iload_n (q := 21) dX6_hoursOf_20 rfl rfl ?_
    refine r_iload_n (q := 22) dX6_hoursOf_21 rfl rfl ?_
    refine r_iload (q := 24) dX6_hoursOf_22 rfl rfl ?_
    refine r_cI3 (q := 27) vX6_186 dX6_hoursOf_24 rfl LYX6 rfl (Nat.le_of_ble_eq_true rfl) (by decide) (by decide) (c_X6_sunOf _ V hV hF w d m h20 hn hd (by omega)) ?_
    rintro _ τ ⟨rfl, hV1⟩
    refine r_imulN (q := 28) dX6_hoursOf_27 rfl ?_
    refine r_aload_n (q := 29) dX6_hoursOf_28 rfl rfl ?_
    refine gvX6_25 (q := 32) hV1 hI dX6_hoursOf_29 rfl ?_
    refine r_sipush (q := 35) (v := nI 4096) dX6_hoursOf_32 rfl (by decide) ?_
    refine r_imulN (q := 36) dX6_hoursOf_35 rfl ?_
    refine r_aload_n (q := 37) dX6_hoursOf_36 rfl rfl ?_
    refine r_iload_n (q := 38) dX6_hoursOf_37 rfl rfl ?_
    refine r_cI1 (q := 41) vX6_179 dX6_hoursOf_38 rfl LYX6 rfl (Nat.le_of_ble_eq_true rfl) (by decide) (by decide) (c_X6_cellsOf _ V hV1 hI hF.2.1 w h20) ?_
    rintro _ _ ⟨rfl, rfl⟩
    refine r_imulN (q := 42) dX6_hoursOf_41 rfl ?_
    refine r_icmp_ltN (t := 49) (q := 45) dX6_hoursOf_42 (by decide) rfl (by have := sunN_le hF w d m; omega) (by have h1 := bd hI 33 5 8 rfl rfl; have := Nat.mul_le_mul (show nv V 33 5 * 4096 ≤ 32768 by omega) hcl; omega) (fun c42 => ?_) (fun c42 => ?_)
    · refine r_iconst (q := 50) (v := nI 0) dX6_hoursOf_49 rfl (by decide) ?_
      refine r_iaddN (q := 51) dX6_hoursOf_50 rfl ?_
      refine r_istore_n (q := 52) dX6_hoursOf_51 rfl (Nat.le_of_ble_eq_true rfl) ?_
      refine r_iinc (q := 55) (v := nI (m + 1)) dX6_hoursOf_52 rfl rfl (by rw [show Int32.ofInt 1 = nI 1 from rfl]; exact nI_add _ _) ?_
      refine r_goto (q := 5) dX6_hoursOf_55 (by decide) ?_
      have e : hoursR V w d (m + 1) = (hoursR V w d m + 0) := by
        show hoursR V w d m + litN V w d m = _
        rw [litN, if_pos c42]
      rw [← e]
      exact ih (m + 1) _ hV1 (by omega)
    · refine r_iconst (q := 46) (v := nI 1) dX6_hoursOf_45 rfl (by decide) ?_
      refine r_goto (q := 50) dX6_hoursOf_46 (by decide) ?_
      refine r_iaddN (q := 51) dX6_hoursOf_50 rfl ?_
      refine r_istore_n (q := 52) dX6_hoursOf_51 rfl (Nat.le_of_ble_eq_true rfl) ?_
      refine r_iinc (q := 55) (v := nI (m + 1)) dX6_hoursOf_52 rfl rfl (by rw [show Int32.ofInt 1 = nI 1 from rfl]; exact nI_add _ _) ?_
      refine r_goto (q := 5) dX6_hoursOf_55 (by decide) ?_
      have e : hoursR V w d (m + 1) = (hoursR V w d m + 1) := by
        show hoursR V w d m + litN V w d m = _
        rw [litN, if_neg c42]
      rw [← e]
      exact ih (m + 1) _ hV1 (by omega)
set_option maxRecDepth 100000 in
set_option maxHeartbeats 4000000 in
theorem c_X6_hoursOf (σ V : St) (hV : vw σ = V) (hF : WF V) (w d : Nat) (h20 : w < 20) (hn : w < nv V 33 19) (hd : d < 8) : Cl LAY yX6_hoursOf cX6_hoursOf 5 (some .int) 4 100 [.ref 33, .int (nI w), .int (nI d)] σ (EI (fun v τ => v = nI (hoursN V w d) ∧ vw τ = V)) := by
  refine Cl.of 2 rfl rfl EI.ok ?_
  show Rn LAY none RX6 _ _ _ _ 0 [some (.ref 33), some (.int (nI w)), some (.int (nI d)), none, none] [] _ _
  refine r_iconst (q := 1) (v := nI 0) dX6_hoursOf_0 rfl (by decide) ?_
  refine r_istore_n (q := 2) dX6_hoursOf_1 rfl (Nat.le_of_ble_eq_true rfl) ?_
  refine r_iconst (q := 3) (v := nI 0) dX6_hoursOf_2 rfl (by decide) ?_
  refine r_istore (q := 5) dX6_hoursOf_3 rfl (Nat.le_of_ble_eq_true rfl) ?_
  exact l_X6_hoursOf hF h20 hn hd (nv V 34 d) 0 _ hV (by omega)
set_option maxRecDepth 100000 in
set_option maxHeartbeats 4000000 in
theorem l_X6_fallsOn {V : St} (hF : WF V) {w : Nat} (h20 : w < 20) (hn : w < nv V 33 19) : ∀ (n d : Nat) (σ : St), vw σ = V → d + n = 8 → Rn LAY none RX6 cX6_fallsOn 3 5 124 2 [some (.ref 33), some (.int (nI w)), some (.int (nI d))] [] σ (EI (fun v τ => v = fallR V w d n ∧ vw τ = V)) := by
  have hI := hF.1
  intro n
  induction n with
  | zero =>
    intro d σ hV hb
    refine r_iload_n (q := 3) dX6_fallsOn_2 rfl rfl ?_
    refine r_bipush (q := 5) (v := nI 8) dX6_fallsOn_3 rfl (by decide) ?_
    refine r_icmp_geN (t := 40) (q := 8) dX6_fallsOn_5 (by decide) rfl (by omega) (by omega) (fun c5 => ?_) (fun c5 => absurd (by omega) c5)
    refine r_bipush (q := 42) (v := -9) dX6_fallsOn_40 rfl (by decide) ?_
    exact r_retI dX6_fallsOn_42 ⟨rfl, hV⟩
  | succ n ih =>
    intro d σ hV hb
    refine r_iload_n (q := 3) dX6_fallsOn_2 rfl rfl ?_
    refine r_bipush (q := 5) (v := nI 8) dX6_fallsOn_3 rfl (by decide) ?_
    refine r_icmp_geN (t := 40) (q := 8) dX6_fallsOn_5 (by decide) rfl (by omega) (by omega) (fun c5 => absurd c5 (by omega)) (fun c5 => ?_)
    refine r_aload_n (q := 9) dX6_fallsOn_8 rfl rfl ?_
    refine gX6_22 (q := 12) dX6_fallsOn_9 rfl ?_
    refine r_iload_n (q := 13) dX6_fallsOn_12 rfl rfl ?_
    refine r_ialdV (q := 14) hV hI dX6_fallsOn_13 rfl LA38 rfl rfl (by decide) (by omega) ?_
    refine r_if_leN (t := 34) (q := 17) dX6_fallsOn_14 (by decide) rfl (by have := bd hI 38 d 24 rfl rfl; omega) (fun c14 => ?_) (fun c14 => ?_)
    · refine r_iinc (q := 37) (v := nI (d + 1)) dX6_fallsOn_34 rfl rfl (by rw [show Int32.ofInt 1 = nI 1 from rfl]; exact nI_add _ _) ?_
      refine r_goto (q := 2) dX6_fallsOn_37 (by decide) ?_
      refine (ih (d + 1) _ hV (by omega)).mono ?_
      rintro r τ ⟨v, rfl, rfl, h⟩
      exact ⟨_, rfl, by rw [fallR, if_pos c14], h⟩
    · refine r_aload_n (q := 18) dX6_fallsOn_17 rfl rfl ?_
      refine r_iload_n (q := 19) dX6_fallsOn_18 rfl rfl ?_
      refine r_iload_n (q := 20) dX6_fallsOn_19 rfl rfl ?_
      refine r_cI2 (q := 23) vX6_190 dX6_fallsOn_20 rfl LYX6 rfl (Nat.le_of_ble_eq_true rfl) (by decide) (by decide) (c_X6_hoursOf _ V hV hF w d h20 hn (by omega)) ?_
      rintro _ τ ⟨rfl, hV1⟩
      refine r_aload_n (q := 24) dX6_fallsOn_23 rfl rfl ?_
      refine gX6_22 (q := 27) dX6_fallsOn_24 rfl ?_
      refine r_iload_n (q := 28) dX6_fallsOn_27 rfl rfl ?_
      refine r_ialdV (q := 29) hV1 hI dX6_fallsOn_28 rfl LA38 rfl rfl (by decide) (by omega) ?_
      refine r_icmp_geN (t := 34) (q := 32) dX6_fallsOn_29 (by decide) rfl (by have h1 := hoursR_le V w d (nv V 34 d); have h2 := bd hI 34 d 24 rfl rfl; unfold hoursN; omega) (by have := bd hI 38 d 24 rfl rfl; omega) (fun c29 => ?_) (fun c29 => ?_)
      · refine r_iinc (q := 37) (v := nI (d + 1)) dX6_fallsOn_34 rfl rfl (by rw [show Int32.ofInt 1 = nI 1 from rfl]; exact nI_add _ _) ?_
        refine r_goto (q := 2) dX6_fallsOn_37 (by decide) ?_
        refine (ih (d + 1) _ hV1 (by omega)).mono ?_
        rintro r τ ⟨v, rfl, rfl, h⟩
        exact ⟨_, rfl, by rw [fallR, if_neg c14, if_neg (by omega)], h⟩
      · refine r_iload_n (q := 33) dX6_fallsOn_32 rfl rfl ?_
        exact r_retI dX6_fallsOn_33 ⟨by rw [fallR, if_neg c14, if_pos (by omega)], hV1⟩
set_option maxRecDepth 100000 in
set_option maxHeartbeats 4000000 in
theorem c_X6_fallsOn (σ V : St) (hV : vw σ = V) (hF : WF V) (w : Nat) (h20 : w < 20) (hn : w < nv V 33 19) : Cl LAY yX6_fallsOn cX6_fallsOn 3 (some .int) 5 124 [.ref 33, .int (nI w)] σ (EI (fun v τ => v = fallI V w ∧ vw τ = V)) := by
  refine Cl.of 1 rfl rfl EI.ok ?_
  show Rn LAY none RX6 _ _ _ _ 0 [some (.ref 33), some (.int (nI w)), none] [] _ _
  refine r_iconst (q := 1) (v := nI 0) dX6_fallsOn_0 rfl (by decide) ?_
  refine r_istore_n (q := 2) dX6_fallsOn_1 rfl (Nat.le_of_ble_eq_true rfl) ?_
  exact l_X6_fallsOn hF h20 hn 8 0 _ hV (by omega)
end
section
/-! ===== writes to the lasting state ===== -/
def wr (V : St) (k j : Nat) (x : Int32) : St := va_up V k (upd (V k) j x)
theorem wr_at (V : St) (k j : Nat) (x : Int32) (a b : Nat) : wr V k j x a b = if a = k ∧ b = j then x else V a b := u2 V k j x a b
theorem vw_w {σ V : St} {k j : Nat} {x : Int32} (hV : vw σ = V) (hs : scr k j = false) : vw (va_up σ k (upd (σ k) j x)) = wr V k j x := by
  subst hV
  funext a b
  rw [wr_at]
  unfold vw
  rw [u2]
  by_cases h : a = k ∧ b = j
  · obtain ⟨rfl, rfl⟩ := h
    simp [hs]
  · simp [h]
section ROWSP
variable {ly : List LyE} {sc : Option (Nat × (Nat → Int32))} {own : String} {cc : ByteArray} {nL fr lo pc q : Nat} {L : List (Option Value)} {st : List Value} {σ V : St} {E : Option Int32 → St → Prop}
theorem r_iastP {k j n : Nat} {x : Int32} (hV : vw σ = V) (hd : decode cc pc = .ok (.iastore, 1)) (hq : pc + 1 = q) (hly : ly[k]? = some (.inl (0, n))) (hs : scr k j = false) (hj : j < n) (hn : n < 2 ^ 31) (K : ∀ τ, vw τ = wr V k j x → Rn ly sc own cc nL fr lo q L st τ E) : Rn ly sc own cc nL fr lo pc L (.int x :: .int (nI j) :: .ref k :: st) σ E := r_iast hd hq hly hj hn (K _ (vw_w hV hs))
theorem r_zastP {k j n : Nat} {x : Int32} (hV : vw σ = V) (hd : decode cc pc = .ok (.bastore, 1)) (hq : pc + 1 = q) (hly : ly[k]? = some (.inl (1, n))) (hs : scr k j = false) (hj : j < n) (hn : n < 2 ^ 31) (hx : x = 0 ∨ x = 1) (K : ∀ τ, vw τ = wr V k j x → Rn ly sc own cc nL fr lo q L st τ E) : Rn ly sc own cc nL fr lo pc L (.int x :: .int (nI j) :: .ref k :: st) σ E := r_zast hd hq hly hj hn hx (K _ (vw_w hV hs))
end ROWSP
theorem ppX1_9 {sc : Option (Nat × (Nat → Int32))} {cc : ByteArray} {nL fr lo pc q : Nat} {L : List (Option Value)} {st : List Value} {σ V : St} {E : Option Int32 → St → Prop} {x : Int32} (hV : vw σ = V) (hd : decode cc pc = .ok (.putfield 9, 3)) (hq : pc + 3 = q) (K : ∀ τ, vw τ = wr V 4 0 x → Rn LAY sc RX1 cc nL fr lo q L (st) τ E) : Rn LAY sc RX1 cc nL fr lo pc L (.int x :: .ref 4 :: st) σ E := pX1_9 hd hq (K _ (vw_w hV rfl))
theorem ppX2_25 {sc : Option (Nat × (Nat → Int32))} {cc : ByteArray} {nL fr lo pc q : Nat} {L : List (Option Value)} {st : List Value} {σ V : St} {E : Option Int32 → St → Prop} {x : Int32} (hV : vw σ = V) (hd : decode cc pc = .ok (.putfield 25, 3)) (hq : pc + 3 = q) (K : ∀ τ, vw τ = wr V 4 0 x → Rn LAY sc RX2 cc nL fr lo q L (st) τ E) : Rn LAY sc RX2 cc nL fr lo pc L (.int x :: .ref 4 :: st) σ E := pX2_25 hd hq (K _ (vw_w hV rfl))
theorem ppX4_9 {sc : Option (Nat × (Nat → Int32))} {cc : ByteArray} {nL fr lo pc q : Nat} {L : List (Option Value)} {st : List Value} {σ V : St} {E : Option Int32 → St → Prop} {x : Int32} (hV : vw σ = V) (hd : decode cc pc = .ok (.putfield 9, 3)) (hq : pc + 3 = q) (K : ∀ τ, vw τ = wr V 12 0 x → Rn LAY sc RX4 cc nL fr lo q L (st) τ E) : Rn LAY sc RX4 cc nL fr lo pc L (.int x :: .ref 12 :: st) σ E := pX4_9 hd hq (K _ (vw_w hV rfl))
theorem ppX5_54 {sc : Option (Nat × (Nat → Int32))} {cc : ByteArray} {nL fr lo pc q : Nat} {L : List (Option Value)} {st : List Value} {σ V : St} {E : Option Int32 → St → Prop} {x : Int32} (hV : vw σ = V) (hd : decode cc pc = .ok (.putfield 54, 3)) (hq : pc + 3 = q) (K : ∀ τ, vw τ = wr V 0 8 x → Rn LAY sc RX5 cc nL fr lo q L (st) τ E) : Rn LAY sc RX5 cc nL fr lo pc L (.int x :: .ref 0 :: st) σ E := pX5_54 hd hq (K _ (vw_w hV rfl))
theorem ppX5_58 {sc : Option (Nat × (Nat → Int32))} {cc : ByteArray} {nL fr lo pc q : Nat} {L : List (Option Value)} {st : List Value} {σ V : St} {E : Option Int32 → St → Prop} {x : Int32} (hV : vw σ = V) (hd : decode cc pc = .ok (.putfield 58, 3)) (hq : pc + 3 = q) (K : ∀ τ, vw τ = wr V 0 9 x → Rn LAY sc RX5 cc nL fr lo q L (st) τ E) : Rn LAY sc RX5 cc nL fr lo pc L (.int x :: .ref 0 :: st) σ E := pX5_58 hd hq (K _ (vw_w hV rfl))
theorem ppX5_205 {sc : Option (Nat × (Nat → Int32))} {cc : ByteArray} {nL fr lo pc q : Nat} {L : List (Option Value)} {st : List Value} {σ V : St} {E : Option Int32 → St → Prop} {x : Int32} (hV : vw σ = V) (hd : decode cc pc = .ok (.putfield 205, 3)) (hq : pc + 3 = q) (K : ∀ τ, vw τ = wr V 4 0 x → Rn LAY sc RX5 cc nL fr lo q L (st) τ E) : Rn LAY sc RX5 cc nL fr lo pc L (.int x :: .ref 4 :: st) σ E := pX5_205 hd hq (K _ (vw_w hV rfl))
theorem ppX5_208 {sc : Option (Nat × (Nat → Int32))} {cc : ByteArray} {nL fr lo pc q : Nat} {L : List (Option Value)} {st : List Value} {σ V : St} {E : Option Int32 → St → Prop} {x : Int32} (hV : vw σ = V) (hd : decode cc pc = .ok (.putfield 208, 3)) (hq : pc + 3 = q) (K : ∀ τ, vw τ = wr V 12 0 x → Rn LAY sc RX5 cc nL fr lo q L (st) τ E) : Rn LAY sc RX5 cc nL fr lo pc L (.int x :: .ref 12 :: st) σ E := pX5_208 hd hq (K _ (vw_w hV rfl))
theorem ppX6_25 {sc : Option (Nat × (Nat → Int32))} {cc : ByteArray} {nL fr lo pc q : Nat} {L : List (Option Value)} {st : List Value} {σ V : St} {E : Option Int32 → St → Prop} {x : Int32} (hV : vw σ = V) (hd : decode cc pc = .ok (.putfield 25, 3)) (hq : pc + 3 = q) (K : ∀ τ, vw τ = wr V 33 5 x → Rn LAY sc RX6 cc nL fr lo q L (st) τ E) : Rn LAY sc RX6 cc nL fr lo pc L (.int x :: .ref 33 :: st) σ E := pX6_25 hd hq (K _ (vw_w hV rfl))
theorem ppX6_90 {sc : Option (Nat × (Nat → Int32))} {cc : ByteArray} {nL fr lo pc q : Nat} {L : List (Option Value)} {st : List Value} {σ V : St} {E : Option Int32 → St → Prop} {x : Int32} (hV : vw σ = V) (hd : decode cc pc = .ok (.putfield 90, 3)) (hq : pc + 3 = q) (K : ∀ τ, vw τ = wr V 33 29 x → Rn LAY sc RX6 cc nL fr lo q L (st) τ E) : Rn LAY sc RX6 cc nL fr lo pc L (.int x :: .ref 33 :: st) σ E := pX6_90 hd hq (K _ (vw_w hV rfl))
theorem ppX6_97 {sc : Option (Nat × (Nat → Int32))} {cc : ByteArray} {nL fr lo pc q : Nat} {L : List (Option Value)} {st : List Value} {σ V : St} {E : Option Int32 → St → Prop} {x : Int32} (hV : vw σ = V) (hd : decode cc pc = .ok (.putfield 97, 3)) (hq : pc + 3 = q) (K : ∀ τ, vw τ = wr V 33 7 x → Rn LAY sc RX6 cc nL fr lo q L (st) τ E) : Rn LAY sc RX6 cc nL fr lo pc L (.int x :: .ref 33 :: st) σ E := pX6_97 hd hq (K _ (vw_w hV rfl))
theorem ppX6_104 {sc : Option (Nat × (Nat → Int32))} {cc : ByteArray} {nL fr lo pc q : Nat} {L : List (Option Value)} {st : List Value} {σ V : St} {E : Option Int32 → St → Prop} {x : Int32} (hV : vw σ = V) (hd : decode cc pc = .ok (.putfield 104, 3)) (hq : pc + 3 = q) (K : ∀ τ, vw τ = wr V 33 19 x → Rn LAY sc RX6 cc nL fr lo q L (st) τ E) : Rn LAY sc RX6 cc nL fr lo pc L (.int x :: .ref 33 :: st) σ E := pX6_104 hd hq (K _ (vw_w hV rfl))
theorem ppX6_121 {sc : Option (Nat × (Nat → Int32))} {cc : ByteArray} {nL fr lo pc q : Nat} {L : List (Option Value)} {st : List Value} {σ V : St} {E : Option Int32 → St → Prop} {x : Int32} (hV : vw σ = V) (hd : decode cc pc = .ok (.putfield 121, 3)) (hq : pc + 3 = q) (K : ∀ τ, vw τ = wr V 33 30 x → Rn LAY sc RX6 cc nL fr lo q L (st) τ E) : Rn LAY sc RX6 cc nL fr lo pc L (.int x :: .ref 33 :: st) σ E := pX6_121 hd hq (K _ (vw_w hV rfl))
theorem ppX6_222 {sc : Option (Nat × (Nat → Int32))} {cc : ByteArray} {nL fr lo pc q : Nat} {L : List (Option Value)} {st : List Value} {σ V : St} {E : Option Int32 → St → Prop} {x : Int32} (hV : vw σ = V) (hd : decode cc pc = .ok (.putfield 222, 3)) (hq : pc + 3 = q) (K : ∀ τ, vw τ = wr V 33 6 x → Rn LAY sc RX6 cc nL fr lo q L (st) τ E) : Rn LAY sc RX6 cc nL fr lo pc L (.int x :: .ref 33 :: st) σ E := pX6_222 hd hq (K _ (vw_w hV rfl))
/-! ===== ends of what may be refused ===== -/
def resO (c val : Int32) : Int32 := if c = 0 then val else c
def resB (c val : Int32) : Int32 := if c = 0 then val else 1000000 - c
def stO (c : Int32) (V' R : St) : St := if c = 0 then V' else R
def rfM (V : St) (c : Int32) : St := wr V 58 (-c).toNatClampNeg (V 58 (-c).toNatClampNeg + 1)
def rfC (V : St) (c : Int32) : St := wr V 31 (-c).toNatClampNeg (V 31 (-c).toNatClampNeg + 1)
theorem eo_bad {c k val : Int32} {V' τ : St} {rf : St → Int32 → St} {V : St} (hc : c = k) (hk : k ≠ 0) (h : vw τ = rf V k) : k = resO c val ∧ vw τ = stO c V' (rf V c) := by
  subst hc
  exact ⟨(if_neg hk).symm, h.trans (if_neg hk).symm⟩
theorem eb_bad {c k val : Int32} {V' τ : St} {rf : St → Int32 → St} {V : St} (hc : c = k) (hk : k ≠ 0) (h : vw τ = rf V k) : 1000000 - k = resB c val ∧ vw τ = stO c V' (rf V c) := by
  subst hc
  exact ⟨(if_neg hk).symm, h.trans (if_neg hk).symm⟩
theorem eo_ok {c v val : Int32} {V' R τ : St} (hc : c = 0) (hv : v = val) (h : vw τ = V') : v = resO c val ∧ vw τ = stO c V' R := ⟨hv.trans (if_pos hc).symm, h.trans (if_pos hc).symm⟩
theorem eb_ok {c v val : Int32} {V' R τ : St} (hc : c = 0) (hv : v = val) (h : vw τ = V') : v = resB c val ∧ vw τ = stO c V' R := ⟨hv.trans (if_pos hc).symm, h.trans (if_pos hc).symm⟩
/-! ===== why calls are refused (the same for both) ===== -/
def cMinute (V : St) (d x y z : Int32) : Int32 := if ix d 8 = 0 then -1 else if x < -50 then -4 else if y < -50 then -4 else if z < nI 1 then -4 else if nI 50 < x then -6 else if nI 50 < y then -6 else if nI 50 < z then -6 else if nv V 34 d.toNatClampNeg = 24 then -6 else 0
def cBlock (V : St) (k x0 x1 y0 y1 f t : Int32) : Int32 := if inN k (nI 0) (nI 3) = 0 then -2 else if x0 < 0 then -4 else if y0 < 0 then -4 else if f < 0 then -4 else if x1 ≤ x0 then -4 else if y1 ≤ y0 then -4 else if t ≤ f then -4 else if nI 200 < x1 then -6 else if nI 200 < y1 then -6 else if nI 200 < t then -6 else if nv V 33 7 = 40 then -6 else 0
def cTree (V : St) (b : Int32) : Int32 := if ix b (nv V 33 7) = 0 then -1 else if nv V 39 b.toNatClampNeg = 1 then 0 else -2
def cShare (V : St) (b d e : Int32) : Int32 := if ix b (nv V 33 7) = 0 then -1 else if ix d 8 = 0 then -1 else if nv V 39 b.toNatClampNeg = 1 then (if e < 0 then -4 else if nI 8 < e then -6 else 0) else -2
def cMost (V : St) (b v : Int32) : Int32 := if ix b (nv V 33 7) = 0 then -1 else if nv V 39 b.toNatClampNeg = 1 then (if v < nI (nv V 45 b.toNatClampNeg) then -4 else if nI 200 < v then -6 else 0) else -2
def cCut (V : St) (b v : Int32) : Int32 := if ix b (nv V 33 7) = 0 then -1 else if nv V 39 b.toNatClampNeg = 1 then (if nv V 49 b.toNatClampNeg = 0 then (if v ≤ nI (nv V 44 b.toNatClampNeg) then -4 else if nI (nv V 45 b.toNatClampNeg) < v then -6 else 0) else -3) else -2
def cGo (V : St) (b : Int32) : Int32 := if ix b (nv V 33 7) = 0 then -1 else if nv V 49 b.toNatClampNeg = 0 then 0 else -3
def cWindow (V : St) (s a ua ub za zb : Int32) : Int32 := if inN s (nI 0) (nI 3) = 0 then -2 else if a < 0 then -4 else if ua < 0 then -4 else if za < 0 then -4 else if ub ≤ ua then -4 else if zb ≤ za then -4 else if nI 200 < a then -6 else if nI 200 < ub then -6 else if nI 200 < zb then -6 else if nI 64 < (ub - ua) * (zb - za) then -6 else if nv V 33 19 = 20 then -6 else 0
def cPart (e : Int32) : Int32 := if e < nI 1 then -4 else if nI 8 < e then -6 else 0
def cLaw (d l : Int32) : Int32 := if ix d 8 = 0 then -1 else if l < 0 then -4 else if nI 24 < l then -6 else 0
def cSun (V : St) (w d m : Int32) : Int32 := if ix w (nv V 33 19) = 0 then -1 else if isMin V d m = 0 then -1 else 0
def cLight (V : St) (w c d m : Int32) : Int32 := if ix w (nv V 33 19) = 0 then -1 else if ix c (cls V w.toNatClampNeg) = 0 then -1 else if isMin V d m = 0 then -1 else 0
def cTakes (V : St) (w d b : Int32) : Int32 := if ix w (nv V 33 19) = 0 then -1 else if ix d 8 = 0 then -1 else if ix b (nv V 33 7) = 0 then -1 else 0
def cHours (V : St) (w d : Int32) : Int32 := if ix w (nv V 33 19) = 0 then -1 else if ix d 8 = 0 then -1 else 0
def cLoss (V : St) (b w d : Int32) : Int32 := if ix w (nv V 33 19) = 0 then -1 else if ix d 8 = 0 then -1 else lack V b
def cBreach (V : St) (b t : Int32) : Int32 := if lack V b = 0 then (if t ≤ nI (nv V 44 b.toNatClampNeg) then -4 else if nI 200 < t then -6 else 0) else lack V b
def cYears (V : St) (n : Int32) : Int32 := if n < nI 1 then -4 else if nI 60 - nI (nv V 33 6) < n then -6 else 0
end
section
set_option maxRecDepth 100000 in
set_option maxHeartbeats 4000000 in
theorem c_X6_refuse (σ V : St) (hV : vw σ = V) (what : Int32) (j : Nat) (hj : -what = nI j) (h : j < 7) : Cl LAY yX6_refuse cX6_refuse 2 (some .int) 0 0 [.ref 33, .int what] σ (EI (fun v τ => v = what ∧ vw τ = rfM V what)) := by
  refine Cl.of 0 rfl rfl EI.ok ?_
  show Rn LAY none RX6 _ _ _ _ 0 [some (.ref 33), some (.int what)] [] _ _
  refine r_aload_n (q := 1) dX6_refuse_0 rfl rfl ?_
  refine gX6_87 (q := 4) dX6_refuse_1 rfl ?_
  refine r_iload_n (q := 5) dX6_refuse_4 rfl rfl ?_
  refine r_ineg (q := 6) dX6_refuse_5 rfl ?_
  refine r_as hj ?_
  refine r_dup2 (q := 7) dX6_refuse_6 rfl ?_
  refine r_ialdW (q := 8) hV dX6_refuse_7 rfl LA58 rfl (by decide) (by omega) ?_
  refine r_iconst (q := 9) (v := nI 1) dX6_refuse_8 rfl (by decide) ?_
  refine r_iadd (q := 10) dX6_refuse_9 rfl ?_
  refine r_iastP (q := 11) hV dX6_refuse_10 rfl LA58 rfl (by omega) (by decide) (fun s10 hV10 => ?_)
  refine r_iload_n (q := 12) dX6_refuse_11 rfl rfl ?_
  exact r_retI dX6_refuse_12 ⟨rfl, by rw [rfM, hj, nI_clamp (by omega)]; exact hV10⟩
set_option maxRecDepth 100000 in
set_option maxHeartbeats 4000000 in
theorem c_X6_refuseBig (σ V : St) (hV : vw σ = V) (what : Int32) (j : Nat) (hj : -what = nI j) (h : j < 7) : Cl LAY yX6_refuseBig cX6_refuseBig 2 (some .int) 0 0 [.ref 33, .int what] σ (EI (fun v τ => v = 1000000 - what ∧ vw τ = rfM V what)) := by
  refine Cl.of 0 rfl rfl EI.ok ?_
  show Rn LAY none RX6 _ _ _ _ 0 [some (.ref 33), some (.int what)] [] _ _
  refine r_aload_n (q := 1) dX6_refuseBig_0 rfl rfl ?_
  refine gX6_87 (q := 4) dX6_refuseBig_1 rfl ?_
  refine r_iload_n (q := 5) dX6_refuseBig_4 rfl rfl ?_
  refine r_ineg (q := 6) dX6_refuseBig_5 rfl ?_
  refine r_as hj ?_
  refine r_dup2 (q := 7) dX6_refuseBig_6 rfl ?_
  refine r_ialdW (q := 8) hV dX6_refuseBig_7 rfl LA58 rfl (by decide) (by omega) ?_
  refine r_iconst (q := 9) (v := nI 1) dX6_refuseBig_8 rfl (by decide) ?_
  refine r_iadd (q := 10) dX6_refuseBig_9 rfl ?_
  refine r_iastP (q := 11) hV dX6_refuseBig_10 rfl LA58 rfl (by omega) (by decide) (fun s10 hV10 => ?_)
  refine r_ldc (q := 13) dX6_refuseBig_11 rfl kX6_96 ?_
  refine r_iload_n (q := 14) dX6_refuseBig_13 rfl rfl ?_
  refine r_isub (q := 15) dX6_refuseBig_14 rfl ?_
  exact r_retI dX6_refuseBig_15 ⟨rfl, by rw [rfM, hj, nI_clamp (by omega)]; exact hV10⟩
theorem ites_n {a b : Nat} (h : a = b) : nI a = nI b := by rw [h]
set_option maxRecDepth 100000 in
set_option maxHeartbeats 4000000 in
theorem c_X6_minute (σ V : St) (hV : vw σ = V) (hI : InvN V) (d x y z : Int32) : Cl LAY yX6_minute cX6_minute 6 (some .int) 2 42 [.ref 33, .int d, .int x, .int y, .int z] σ (EI (fun v τ => v = resO (cMinute V d x y z) (nI (nv V 34 d.toNatClampNeg)) ∧ vw τ = stO (cMinute V d x y z) (wr (wr (wr (wr V 35 (24 * d.toNatClampNeg + nv V 34 d.toNatClampNeg) x) 36 (24 * d.toNatClampNeg + nv V 34 d.toNatClampNeg) y) 37 (24 * d.toNatClampNeg + nv V 34 d.toNatClampNeg) z) 34 d.toNatClampNeg (nI (nv V 34 d.toNatClampNeg + 1))) (rfM V (cMinute V d x y z)))) := by
  refine Cl.of 1 rfl rfl EI.ok ?_
  show Rn LAY none RX6 _ _ _ _ 0 [some (.ref 33), some (.int d), some (.int x), some (.int y), some (.int z), none] [] _ _
  refine r_iload_n (q := 1) dX6_minute_0 rfl rfl ?_
  refine r_sI1 (q := 4) vX6_107 dX6_minute_1 rfl (Nat.le_of_ble_eq_true rfl) (by decide) (by decide) (c_X6_isDay _ _) ?_
  rintro _ _ ⟨rfl, rfl⟩
  refine r_if_neN (t := 13) (q := 7) dX6_minute_4 (by decide) rfl (by have := ix_le d 8; omega) (fun c4 => ?_) (fun c4 => ?_)
  · obtain ⟨d, hd, rfl⟩ := ix_of c4
    have hdc := nI_clamp (n := d) (by omega)
    have hmn := bd hI 34 d 24 rfl rfl
    refine r_iload_n (q := 14) dX6_minute_13 rfl rfl ?_
    refine r_bipush (q := 16) (v := -50) dX6_minute_14 rfl (by decide) ?_
    refine r_icmp_lt (t := 31) (q := 19) dX6_minute_16 (by decide) rfl (fun c16 => ?_) (fun c16 => ?_)
    · refine r_aload_n (q := 32) dX6_minute_31 rfl rfl ?_
      refine r_bipush (q := 34) (v := -4) dX6_minute_32 rfl (by decide) ?_
      refine r_cI1 (q := 37) vX6_111 dX6_minute_34 rfl LYX6 rfl (Nat.le_of_ble_eq_true rfl) (by decide) (by decide) (c_X6_refuse _ V hV (-4) 4 rfl (by decide)) ?_
      rintro _ τ ⟨rfl, hR⟩
      exact r_retI dX6_minute_37 (eo_bad (by first | (simp [cMinute, *]; done) | (unfold cMinute; (try simp only [hdc]); (repeat' split); all_goals first | rfl | contradiction | omega | (exfalso; simp only [Int32.lt_iff_toInt_lt, Int32.le_iff_toInt_le] at *; omega))) (by decide) hR)
    · refine r_iload_n (q := 20) dX6_minute_19 rfl rfl ?_
      refine r_bipush (q := 22) (v := -50) dX6_minute_20 rfl (by decide) ?_
      refine r_icmp_lt (t := 31) (q := 25) dX6_minute_22 (by decide) rfl (fun c22 => ?_) (fun c22 => ?_)
      · refine r_aload_n (q := 32) dX6_minute_31 rfl rfl ?_
        refine r_bipush (q := 34) (v := -4) dX6_minute_32 rfl (by decide) ?_
        refine r_cI1 (q := 37) vX6_111 dX6_minute_34 rfl LYX6 rfl (Nat.le_of_ble_eq_true rfl) (by decide) (by decide) (c_X6_refuse _ V hV (-4) 4 rfl (by decide)) ?_
        rintro _ τ ⟨rfl, hR⟩
        exact r_retI dX6_minute_37 (eo_bad (by first | (simp [cMinute, *]; done) | (unfold cMinute; (try simp only [hdc]); (repeat' split); all_goals first | rfl | contradiction | omega | (exfalso; simp only [Int32.lt_iff_toInt_lt, Int32.le_iff_toInt_le] at *; omega))) (by decide) hR)
      · refine r_iload (q := 27) dX6_minute_25 rfl rfl ?_
        refine r_iconst (q := 28) (v := nI 1) dX6_minute_27 rfl (by decide) ?_
        refine r_icmp_ge (t := 38) (q := 31) dX6_minute_28 (by decide) rfl (fun c28 => ?_) (fun c28 => ?_)
        · refine r_iload_n (q := 39) dX6_minute_38 rfl rfl ?_
          refine r_bipush (q := 41) (v := nI 50) dX6_minute_39 rfl (by decide) ?_
          refine r_icmp_gt (t := 68) (q := 44) dX6_minute_41 (by decide) rfl (fun c41 => ?_) (fun c41 => ?_)
          · refine r_aload_n (q := 69) dX6_minute_68 rfl rfl ?_
            refine r_bipush (q := 71) (v := -6) dX6_minute_69 rfl (by decide) ?_
            refine r_cI1 (q := 74) vX6_111 dX6_minute_71 rfl LYX6 rfl (Nat.le_of_ble_eq_true rfl) (by decide) (by decide) (c_X6_refuse _ V hV (-6) 6 rfl (by decide)) ?_
            rintro _ τ ⟨rfl, hR⟩
            exact r_retI dX6_minute_74 (eo_bad (by first | (simp [cMinute, *]; done) | (unfold cMinute; (try simp only [hdc]); (repeat' split); all_goals first | rfl | contradiction | omega | (exfalso; simp only [Int32.lt_iff_toInt_lt, Int32.le_iff_toInt_le] at *; omega))) (by decide) hR)
          · refine r_iload_n (q := 45) dX6_minute_44 rfl rfl ?_
            refine r_bipush (q := 47) (v := nI 50) dX6_minute_45 rfl (by decide) ?_
            refine r_icmp_gt (t := 68) (q := 50) dX6_minute_47 (by decide) rfl (fun c47 => ?_) (fun c47 => ?_)
            · refine r_aload_n (q := 69) dX6_minute_68 rfl rfl ?_
              refine r_bipush (q := 71) (v := -6) dX6_minute_69 rfl (by decide) ?_
              refine r_cI1 (q := 74) vX6_111 dX6_minute_71 rfl LYX6 rfl (Nat.le_of_ble_eq_true rfl) (by decide) (by decide) (c_X6_refuse _ V hV (-6) 6 rfl (by decide)) ?_
              rintro _ τ ⟨rfl, hR⟩
              exact r_retI dX6_minute_74 (eo_bad (by first | (simp [cMinute, *]; done) | (unfold cMinute; (try simp only [hdc]); (repeat' split); all_goals first | rfl | contradiction | omega | (exfalso; simp only [Int32.lt_iff_toInt_lt, Int32.le_iff_toInt_le] at *; omega))) (by decide) hR)
            · refine r_iload (q := 52) dX6_minute_50 rfl rfl ?_
              refine r_bipush (q := 54) (v := nI 50) dX6_minute_52 rfl (by decide) ?_
              refine r_icmp_gt (t := 68) (q := 57) dX6_minute_54 (by decide) rfl (fun c54 => ?_) (fun c54 => ?_)
              · refine r_aload_n (q := 69) dX6_minute_68 rfl rfl ?_
                refine r_bipush (q := 71) (v := -6) dX6_minute_69 rfl (by decide) ?_
                refine r_cI1 (q := 74) vX6_111 dX6_minute_71 rfl LYX6 rfl (Nat.le_of_ble_eq_true rfl) (by decide) (by decide) (c_X6_refuse _ V hV (-6) 6 rfl (by decide)) ?_
                rintro _ τ ⟨rfl, hR⟩
                exact r_retI dX6_minute_74 (eo_bad (by first | (simp [cMinute, *]; done) | (unfold cMinute; (try simp only [hdc]); (repeat' split); all_goals first | rfl | contradiction | omega | (exfalso; simp only [Int32.lt_iff_toInt_lt, Int32.le_iff_toInt_le] at *; omega))) (by decide) hR)
              · refine r_aload_n (q := 58) dX6_minute_57 rfl rfl ?_
                refine gX6_7 (q := 61) dX6_minute_58 rfl ?_
                refine r_iload_n (q := 62) dX6_minute_61 rfl rfl ?_
                refine r_ialdV (q := 63) hV hI dX6_minute_62 rfl LA34 rfl rfl (by decide) (by omega) ?_
                refine r_bipush (q := 65) (v := nI 24) dX6_minute_63 rfl (by decide) ?_
                refine r_icmp_neN (t := 75) (q := 68) dX6_minute_65 (by decide) rfl (by have := bd hI 34 d 24 rfl rfl; omega) (by omega) (fun c65 => ?_) (fun c65 => ?_)
                · refine r_bipush (q := 77) (v := nI 24) dX6_minute_75 rfl (by decide) ?_
                  refine r_iload_n (q := 78) dX6_minute_77 rfl rfl ?_
                  refine r_imulN (q := 79) dX6_minute_78 rfl ?_
                  refine r_aload_n (q := 80) dX6_minute_79 rfl rfl ?_
                  refine gX6_7 (q := 83) dX6_minute_80 rfl ?_
                  refine r_iload_n (q := 84) dX6_minute_83 rfl rfl ?_
                  refine r_ialdV (q := 85) hV hI dX6_minute_84 rfl LA34 rfl rfl (by decide) (by omega) ?_
                  refine r_iaddN (q := 86) dX6_minute_85 rfl ?_
                  refine r_istore (q := 88) dX6_minute_86 rfl (Nat.le_of_ble_eq_true rfl) ?_
                  refine r_aload_n (q := 89) dX6_minute_88 rfl rfl ?_
                  refine gX6_13 (q := 92) dX6_minute_89 rfl ?_
                  refine r_iload (q := 94) dX6_minute_92 rfl rfl ?_
                  refine r_iload_n (q := 95) dX6_minute_94 rfl rfl ?_
                  refine r_iastP (q := 96) hV dX6_minute_95 rfl LA35 rfl (by omega) (by decide) (fun s95 hV95 => ?_)
                  refine r_aload_n (q := 97) dX6_minute_96 rfl rfl ?_
                  refine gX6_16 (q := 100) dX6_minute_97 rfl ?_
                  refine r_iload (q := 102) dX6_minute_100 rfl rfl ?_
                  refine r_iload_n (q := 103) dX6_minute_102 rfl rfl ?_
                  refine r_iastP (q := 104) hV95 dX6_minute_103 rfl LA36 rfl (by omega) (by decide) (fun s103 hV103 => ?_)
                  refine r_aload_n (q := 105) dX6_minute_104 rfl rfl ?_
                  refine gX6_19 (q := 108) dX6_minute_105 rfl ?_
                  refine r_iload (q := 110) dX6_minute_108 rfl rfl ?_
                  refine r_iload (q := 112) dX6_minute_110 rfl rfl ?_
                  refine r_iastP (q := 113) hV103 dX6_minute_112 rfl LA37 rfl (by omega) (by decide) (fun s112 hV112 => ?_)
                  refine r_aload_n (q := 114) dX6_minute_113 rfl rfl ?_
                  refine gX6_7 (q := 117) dX6_minute_114 rfl ?_
                  refine r_iload_n (q := 118) dX6_minute_117 rfl rfl ?_
                  refine r_dup2 (q := 119) dX6_minute_118 rfl ?_
                  refine r_iald (q := 120) dX6_minute_119 rfl LA34 (by omega) (by decide) ?_
                  refine r_as (y := nI (nv V 34 d)) (by rw [vw_at hV112 rfl]; exact (hI 34 d rfl).1) ?_
                  refine r_iconst (q := 121) (v := nI 1) dX6_minute_120 rfl (by decide) ?_
                  refine r_iaddN (q := 122) dX6_minute_121 rfl ?_
                  refine r_iastP (q := 123) hV112 dX6_minute_122 rfl LA34 rfl (by omega) (by decide) (fun s122 hV122 => ?_)
                  refine r_aload_n (q := 124) dX6_minute_123 rfl rfl ?_
                  refine gX6_7 (q := 127) dX6_minute_124 rfl ?_
                  refine r_iload_n (q := 128) dX6_minute_127 rfl rfl ?_
                  refine r_iald (q := 129) dX6_minute_128 rfl LA34 (by omega) (by decide) ?_
                  refine r_as (y := nI (nv V 34 d + 1)) (by rw [vw_at hV122 rfl, wr_at, if_pos ⟨rfl, rfl⟩]) ?_
                  refine r_iconst (q := 130) (v := nI 1) dX6_minute_129 rfl (by decide) ?_
                  refine r_isubN (q := 131) dX6_minute_130 rfl (by omega) ?_
                  exact r_retI dX6_minute_131 (eo_ok (by first | (simp [cMinute, *]; done) | (unfold cMinute; (try simp only [hdc]); (repeat' split); all_goals first | rfl | contradiction | omega | (exfalso; simp only [Int32.lt_iff_toInt_lt, Int32.le_iff_toInt_le] at *; omega))) (by rw [hdc]; rfl) (by rw [hdc]; exact hV122))
                · refine r_aload_n (q := 69) dX6_minute_68 rfl rfl ?_
                  refine r_bipush (q := 71) (v := -6) dX6_minute_69 rfl (by decide) ?_
                  refine r_cI1 (q := 74) vX6_111 dX6_minute_71 rfl LYX6 rfl (Nat.le_of_ble_eq_true rfl) (by decide) (by decide) (c_X6_refuse _ V hV (-6) 6 rfl (by decide)) ?_
                  rintro _ τ ⟨rfl, hR⟩
                  exact r_retI dX6_minute_74 (eo_bad (by first | (simp [cMinute, *]; done) | (unfold cMinute; (try simp only [hdc]); (repeat' split); all_goals first | rfl | contradiction | omega | (exfalso; simp only [Int32.lt_iff_toInt_lt, Int32.le_iff_toInt_le] at *; omega))) (by decide) hR)
        · refine r_aload_n (q := 32) dX6_minute_31 rfl rfl ?_
          refine r_bipush (q := 34) (v := -4) dX6_minute_32 rfl (by decide) ?_
          refine r_cI1 (q := 37) vX6_111 dX6_minute_34 rfl LYX6 rfl (Nat.le_of_ble_eq_true rfl) (by decide) (by decide) (c_X6_refuse _ V hV (-4) 4 rfl (by decide)) ?_
          rintro _ τ ⟨rfl, hR⟩
          exact r_retI dX6_minute_37 (eo_bad (by first | (simp [cMinute, *]; done) | (unfold cMinute; (try simp only [hdc]); (repeat' split); all_goals first | rfl | contradiction | omega | (exfalso; simp only [Int32.lt_iff_toInt_lt, Int32.le_iff_toInt_le] at *; omega))) (by decide) hR)
  · refine r_aload_n (q := 8) dX6_minute_7 rfl rfl ?_
    refine r_iconst (q := 9) (v := -1) dX6_minute_8 rfl (by decide) ?_
    refine r_cI1 (q := 12) vX6_111 dX6_minute_9 rfl LYX6 rfl (Nat.le_of_ble_eq_true rfl) (by decide) (by decide) (c_X6_refuse _ V hV (-1) 1 rfl (by decide)) ?_
    rintro _ τ ⟨rfl, hR⟩
    exact r_retI dX6_minute_12 (eo_bad (by first | (simp [cMinute, *]; done) | (unfold cMinute; (try simp only [hdc]); (repeat' split); all_goals first | rfl | contradiction | omega | (exfalso; simp only [Int32.lt_iff_toInt_lt, Int32.le_iff_toInt_le] at *; omega))) (by decide) hR)
set_option maxRecDepth 100000 in
set_option maxHeartbeats 4000000 in
theorem c_X6_block (σ V : St) (hV : vw σ = V) (hI : InvN V) (k x0 x1 y0 y1 f t : Int32) : Cl LAY yX6_block cX6_block 8 (some .int) 1 22 [.ref 33, .int k, .int x0, .int x1, .int y0, .int y1, .int f, .int t] σ (EI (fun v τ => v = resO (cBlock V k x0 x1 y0 y1 f t) (nI (nv V 33 7)) ∧ vw τ = stO (cBlock V k x0 x1 y0 y1 f t) (wr (wr (wr (wr (wr (wr (wr (wr (wr V 39 (nv V 33 7) k) 40 (nv V 33 7) x0) 41 (nv V 33 7) x1) 42 (nv V 33 7) y0) 43 (nv V 33 7) y1) 44 (nv V 33 7) f) 45 (nv V 33 7) t) 46 (nv V 33 7) (nI 200)) 33 7 (nI (nv V 33 7 + 1))) (rfM V (cBlock V k x0 x1 y0 y1 f t)))) := by
  have hnb := bd hI 33 7 40 rfl rfl
  refine Cl.of 0 rfl rfl EI.ok ?_
  show Rn LAY none RX6 _ _ _ _ 0 [some (.ref 33), some (.int k), some (.int x0), some (.int x1), some (.int y0), some (.int y1), some (.int f), some (.int t)] [] _ _
  refine r_iload_n (q := 1) dX6_block_0 rfl rfl ?_
  refine r_iconst (q := 2) (v := nI 0) dX6_block_1 rfl (by decide) ?_
  refine r_iconst (q := 3) (v := nI 3) dX6_block_2 rfl (by decide) ?_
  refine r_sI3 (q := 6) vX6_100 dX6_block_3 rfl (Nat.le_of_ble_eq_true rfl) (by decide) (by decide) (c_X6_in _ _ _ _) ?_
  rintro _ _ ⟨rfl, rfl⟩
  refine r_if_neN (t := 16) (q := 9) dX6_block_6 (by decide) rfl (by have := inN_le k (nI 0) (nI 3); omega) (fun c6 => ?_) (fun c6 => ?_)
  · refine r_iload_n (q := 17) dX6_block_16 rfl rfl ?_
    refine r_if_lt (t := 49) (q := 20) dX6_block_17 (by decide) rfl (fun c17 => ?_) (fun c17 => ?_)
    · refine r_aload_n (q := 50) dX6_block_49 rfl rfl ?_
      refine r_bipush (q := 52) (v := -4) dX6_block_50 rfl (by decide) ?_
      refine r_cI1 (q := 55) vX6_111 dX6_block_52 rfl LYX6 rfl (Nat.le_of_ble_eq_true rfl) (by decide) (by decide) (c_X6_refuse _ V hV (-4) 4 rfl (by decide)) ?_
      rintro _ τ ⟨rfl, hR⟩
      exact r_retI dX6_block_55 (eo_bad (by first | (simp [cBlock, *]; done) | (unfold cBlock; (try simp only []); (repeat' split); all_goals first | rfl | contradiction | omega | (exfalso; simp only [Int32.lt_iff_toInt_lt, Int32.le_iff_toInt_le] at *; omega))) (by decide) hR)
    · refine r_iload (q := 22) dX6_block_20 rfl rfl ?_
      refine r_if_lt (t := 49) (q := 25) dX6_block_22 (by decide) rfl (fun c22 => ?_) (fun c22 => ?_)
      · refine r_aload_n (q := 50) dX6_block_49 rfl rfl ?_
        refine r_bipush (q := 52) (v := -4) dX6_block_50 rfl (by decide) ?_
        refine r_cI1 (q := 55) vX6_111 dX6_block_52 rfl LYX6 rfl (Nat.le_of_ble_eq_true rfl) (by decide) (by decide) (c_X6_refuse _ V hV (-4) 4 rfl (by decide)) ?_
        rintro _ τ ⟨rfl, hR⟩
        exact r_retI dX6_block_55 (eo_bad (by first | (simp [cBlock, *]; done) | (unfold cBlock; (try simp only []); (repeat' split); all_goals first | rfl | contradiction | omega | (exfalso; simp only [Int32.lt_iff_toInt_lt, Int32.le_iff_toInt_le] at *; omega))) (by decide) hR)
      · refine r_iload (q := 27) dX6_block_25 rfl rfl ?_
        refine r_if_lt (t := 49) (q := 30) dX6_block_27 (by decide) rfl (fun c27 => ?_) (fun c27 => ?_)
        · refine r_aload_n (q := 50) dX6_block_49 rfl rfl ?_
          refine r_bipush (q := 52) (v := -4) dX6_block_50 rfl (by decide) ?_
          refine r_cI1 (q := 55) vX6_111 dX6_block_52 rfl LYX6 rfl (Nat.le_of_ble_eq_true rfl) (by decide) (by decide) (c_X6_refuse _ V hV (-4) 4 rfl (by decide)) ?_
          rintro _ τ ⟨rfl, hR⟩
          exact r_retI dX6_block_55 (eo_bad (by first | (simp [cBlock, *]; done) | (unfold cBlock; (try simp only []); (repeat' split); all_goals first | rfl | contradiction | omega | (exfalso; simp only [Int32.lt_iff_toInt_lt, Int32.le_iff_toInt_le] at *; omega))) (by decide) hR)
        · refine r_iload_n (q := 31) dX6_block_30 rfl rfl ?_
          refine r_iload_n (q := 32) dX6_block_31 rfl rfl ?_
          refine r_icmp_le (t := 49) (q := 35) dX6_block_32 (by decide) rfl (fun c32 => ?_) (fun c32 => ?_)
          · refine r_aload_n (q := 50) dX6_block_49 rfl rfl ?_
            refine r_bipush (q := 52) (v := -4) dX6_block_50 rfl (by decide) ?_
            refine r_cI1 (q := 55) vX6_111 dX6_block_52 rfl LYX6 rfl (Nat.le_of_ble_eq_true rfl) (by decide) (by decide) (c_X6_refuse _ V hV (-4) 4 rfl (by decide)) ?_
            rintro _ τ ⟨rfl, hR⟩
            exact r_retI dX6_block_55 (eo_bad (by first | (simp [cBlock, *]; done) | (unfold cBlock; (try simp only []); (repeat' split); all_goals first | rfl | contradiction | omega | (exfalso; simp only [Int32.lt_iff_toInt_lt, Int32.le_iff_toInt_le] at *; omega))) (by decide) hR)
          · refine r_iload (q := 37) dX6_block_35 rfl rfl ?_
            refine r_iload (q := 39) dX6_block_37 rfl rfl ?_
            refine r_icmp_le (t := 49) (q := 42) dX6_block_39 (by decide) rfl (fun c39 => ?_) (fun c39 => ?_)
            · refine r_aload_n (q := 50) dX6_block_49 rfl rfl ?_
              refine r_bipush (q := 52) (v := -4) dX6_block_50 rfl (by decide) ?_
              refine r_cI1 (q := 55) vX6_111 dX6_block_52 rfl LYX6 rfl (Nat.le_of_ble_eq_true rfl) (by decide) (by decide) (c_X6_refuse _ V hV (-4) 4 rfl (by decide)) ?_
              rintro _ τ ⟨rfl, hR⟩
              exact r_retI dX6_block_55 (eo_bad (by first | (simp [cBlock, *]; done) | (unfold cBlock; (try simp only []); (repeat' split); all_goals first | rfl | contradiction | omega | (exfalso; simp only [Int32.lt_iff_toInt_lt, Int32.le_iff_toInt_le] at *; omega))) (by decide) hR)
            · refine r_iload (q := 44) dX6_block_42 rfl rfl ?_
              refine r_iload (q := 46) dX6_block_44 rfl rfl ?_
              refine r_icmp_gt (t := 56) (q := 49) dX6_block_46 (by decide) rfl (fun c46 => ?_) (fun c46 => ?_)
              · refine r_iload_n (q := 57) dX6_block_56 rfl rfl ?_
                refine r_sipush (q := 60) (v := nI 200) dX6_block_57 rfl (by decide) ?_
                refine r_icmp_gt (t := 88) (q := 63) dX6_block_60 (by decide) rfl (fun c60 => ?_) (fun c60 => ?_)
                · refine r_aload_n (q := 89) dX6_block_88 rfl rfl ?_
                  refine r_bipush (q := 91) (v := -6) dX6_block_89 rfl (by decide) ?_
                  refine r_cI1 (q := 94) vX6_111 dX6_block_91 rfl LYX6 rfl (Nat.le_of_ble_eq_true rfl) (by decide) (by decide) (c_X6_refuse _ V hV (-6) 6 rfl (by decide)) ?_
                  rintro _ τ ⟨rfl, hR⟩
                  exact r_retI dX6_block_94 (eo_bad (by first | (simp [cBlock, *]; done) | (unfold cBlock; (try simp only []); (repeat' split); all_goals first | rfl | contradiction | omega | (exfalso; simp only [Int32.lt_iff_toInt_lt, Int32.le_iff_toInt_le] at *; omega))) (by decide) hR)
                · refine r_iload (q := 65) dX6_block_63 rfl rfl ?_
                  refine r_sipush (q := 68) (v := nI 200) dX6_block_65 rfl (by decide) ?_
                  refine r_icmp_gt (t := 88) (q := 71) dX6_block_68 (by decide) rfl (fun c68 => ?_) (fun c68 => ?_)
                  · refine r_aload_n (q := 89) dX6_block_88 rfl rfl ?_
                    refine r_bipush (q := 91) (v := -6) dX6_block_89 rfl (by decide) ?_
                    refine r_cI1 (q := 94) vX6_111 dX6_block_91 rfl LYX6 rfl (Nat.le_of_ble_eq_true rfl) (by decide) (by decide) (c_X6_refuse _ V hV (-6) 6 rfl (by decide)) ?_
                    rintro _ τ ⟨rfl, hR⟩
                    exact r_retI dX6_block_94 (eo_bad (by first | (simp [cBlock, *]; done) | (unfold cBlock; (try simp only []); (repeat' split); all_goals first | rfl | contradiction | omega | (exfalso; simp only [Int32.lt_iff_toInt_lt, Int32.le_iff_toInt_le] at *; omega))) (by decide) hR)
                  · refine r_iload (q := 73) dX6_block_71 rfl rfl ?_
                    refine r_sipush (q := 76) (v := nI 200) dX6_block_73 rfl (by decide) ?_
                    refine r_icmp_gt (t := 88) (q := 79) dX6_block_76 (by decide) rfl (fun c76 => ?_) (fun c76 => ?_)
                    · refine r_aload_n (q := 89) dX6_block_88 rfl rfl ?_
                      refine r_bipush (q := 91) (v := -6) dX6_block_89 rfl (by decide) ?_
                      refine r_cI1 (q := 94) vX6_111 dX6_block_91 rfl LYX6 rfl (Nat.le_of_ble_eq_true rfl) (by decide) (by decide) (c_X6_refuse _ V hV (-6) 6 rfl (by decide)) ?_
                      rintro _ τ ⟨rfl, hR⟩
                      exact r_retI dX6_block_94 (eo_bad (by first | (simp [cBlock, *]; done) | (unfold cBlock; (try simp only []); (repeat' split); all_goals first | rfl | contradiction | omega | (exfalso; simp only [Int32.lt_iff_toInt_lt, Int32.le_iff_toInt_le] at *; omega))) (by decide) hR)
                    · refine r_aload_n (q := 80) dX6_block_79 rfl rfl ?_
                      refine gvX6_97 (q := 83) hV hI dX6_block_80 rfl ?_
                      refine r_bipush (q := 85) (v := nI 40) dX6_block_83 rfl (by decide) ?_
                      refine r_icmp_neN (t := 95) (q := 88) dX6_block_85 (by decide) rfl (by have := bd hI 33 7 40 rfl rfl; omega) (by omega) (fun c85 => ?_) (fun c85 => ?_)
                      · refine r_aload_n (q := 96) dX6_block_95 rfl rfl ?_
                        refine gX6_29 (q := 99) dX6_block_96 rfl ?_
                        refine r_aload_n (q := 100) dX6_block_99 rfl rfl ?_
                        refine gvX6_97 (q := 103) hV hI dX6_block_100 rfl ?_
                        refine r_iload_n (q := 104) dX6_block_103 rfl rfl ?_
                        refine r_iastP (q := 105) hV dX6_block_104 rfl LA39 rfl (by omega) (by decide) (fun s104 hV104 => ?_)
                        refine r_aload_n (q := 106) dX6_block_105 rfl rfl ?_
                        refine gX6_32 (q := 109) dX6_block_106 rfl ?_
                        refine r_aload_n (q := 110) dX6_block_109 rfl rfl ?_
                        refine gX6_97 (q := 113) dX6_block_110 rfl ?_
                        refine r_as (y := nI (nv V 33 7)) (by rw [vw_at hV104 rfl]; exact (hI 33 7 rfl).1) ?_
                        refine r_iload_n (q := 114) dX6_block_113 rfl rfl ?_
                        refine r_iastP (q := 115) hV104 dX6_block_114 rfl LA40 rfl (by omega) (by decide) (fun s114 hV114 => ?_)
                        refine r_aload_n (q := 116) dX6_block_115 rfl rfl ?_
                        refine gX6_35 (q := 119) dX6_block_116 rfl ?_
                        refine r_aload_n (q := 120) dX6_block_119 rfl rfl ?_
                        refine gX6_97 (q := 123) dX6_block_120 rfl ?_
                        refine r_as (y := nI (nv V 33 7)) (by rw [vw_at hV114 rfl]; exact (hI 33 7 rfl).1) ?_
                        refine r_iload_n (q := 124) dX6_block_123 rfl rfl ?_
                        refine r_iastP (q := 125) hV114 dX6_block_124 rfl LA41 rfl (by omega) (by decide) (fun s124 hV124 => ?_)
                        refine r_aload_n (q := 126) dX6_block_125 rfl rfl ?_
                        refine gX6_38 (q := 129) dX6_block_126 rfl ?_
                        refine r_aload_n (q := 130) dX6_block_129 rfl rfl ?_
                        refine gX6_97 (q := 133) dX6_block_130 rfl ?_
                        refine r_as (y := nI (nv V 33 7)) (by rw [vw_at hV124 rfl]; exact (hI 33 7 rfl).1) ?_
                        refine r_iload (q := 135) dX6_block_133 rfl rfl ?_
                        refine r_iastP (q := 136) hV124 dX6_block_135 rfl LA42 rfl (by omega) (by decide) (fun s135 hV135 => ?_)
                        refine r_aload_n (q := 137) dX6_block_136 rfl rfl ?_
                        refine gX6_41 (q := 140) dX6_block_137 rfl ?_
                        refine r_aload_n (q := 141) dX6_block_140 rfl rfl ?_
                        refine gX6_97 (q := 144) dX6_block_141 rfl ?_
                        refine r_as (y := nI (nv V 33 7)) (by rw [vw_at hV135 rfl]; exact (hI 33 7 rfl).1) ?_
                        refine r_iload (q := 146) dX6_block_144 rfl rfl ?_
                        refine r_iastP (q := 147) hV135 dX6_block_146 rfl LA43 rfl (by omega) (by decide) (fun s146 hV146 => ?_)
                        refine r_aload_n (q := 148) dX6_block_147 rfl rfl ?_
                        refine gX6_44 (q := 151) dX6_block_148 rfl ?_
                        refine r_aload_n (q := 152) dX6_block_151 rfl rfl ?_
                        refine gX6_97 (q := 155) dX6_block_152 rfl ?_
                        refine r_as (y := nI (nv V 33 7)) (by rw [vw_at hV146 rfl]; exact (hI 33 7 rfl).1) ?_
                        refine r_iload (q := 157) dX6_block_155 rfl rfl ?_
                        refine r_iastP (q := 158) hV146 dX6_block_157 rfl LA44 rfl (by omega) (by decide) (fun s157 hV157 => ?_)
                        refine r_aload_n (q := 159) dX6_block_158 rfl rfl ?_
                        refine gX6_47 (q := 162) dX6_block_159 rfl ?_
                        refine r_aload_n (q := 163) dX6_block_162 rfl rfl ?_
                        refine gX6_97 (q := 166) dX6_block_163 rfl ?_
                        refine r_as (y := nI (nv V 33 7)) (by rw [vw_at hV157 rfl]; exact (hI 33 7 rfl).1) ?_
                        refine r_iload (q := 168) dX6_block_166 rfl rfl ?_
                        refine r_iastP (q := 169) hV157 dX6_block_168 rfl LA45 rfl (by omega) (by decide) (fun s168 hV168 => ?_)
                        refine r_aload_n (q := 170) dX6_block_169 rfl rfl ?_
                        refine gX6_50 (q := 173) dX6_block_170 rfl ?_
                        refine r_aload_n (q := 174) dX6_block_173 rfl rfl ?_
                        refine gX6_97 (q := 177) dX6_block_174 rfl ?_
                        refine r_as (y := nI (nv V 33 7)) (by rw [vw_at hV168 rfl]; exact (hI 33 7 rfl).1) ?_
                        refine r_sipush (q := 180) (v := nI 200) dX6_block_177 rfl (by decide) ?_
                        refine r_iastP (q := 181) hV168 dX6_block_180 rfl LA46 rfl (by omega) (by decide) (fun s180 hV180 => ?_)
                        refine r_aload_n (q := 182) dX6_block_181 rfl rfl ?_
                        refine r_dup (q := 183) dX6_block_182 rfl ?_
                        refine gX6_97 (q := 186) dX6_block_183 rfl ?_
                        refine r_as (y := nI (nv V 33 7)) (by rw [vw_at hV180 rfl]; exact (hI 33 7 rfl).1) ?_
                        refine r_iconst (q := 187) (v := nI 1) dX6_block_186 rfl (by decide) ?_
                        refine r_iaddN (q := 188) dX6_block_187 rfl ?_
                        refine ppX6_97 (q := 191) hV180 dX6_block_188 rfl (fun s188 hV188 => ?_)
                        refine r_aload_n (q := 192) dX6_block_191 rfl rfl ?_
                        refine gX6_97 (q := 195) dX6_block_192 rfl ?_
                        refine r_as (y := nI (nv V 33 7 + 1)) (by rw [vw_at hV188 rfl, wr_at, if_pos ⟨rfl, rfl⟩]) ?_
                        refine r_iconst (q := 196) (v := nI 1) dX6_block_195 rfl (by decide) ?_
                        refine r_isubN (q := 197) dX6_block_196 rfl (by omega) ?_
                        exact r_retI dX6_block_197 (eo_ok (by first | (simp [cBlock, *]; done) | (unfold cBlock; (try simp only []); (repeat' split); all_goals first | rfl | contradiction | omega | (exfalso; simp only [Int32.lt_iff_toInt_lt, Int32.le_iff_toInt_le] at *; omega))) rfl hV188)
                      · refine r_aload_n (q := 89) dX6_block_88 rfl rfl ?_
                        refine r_bipush (q := 91) (v := -6) dX6_block_89 rfl (by decide) ?_
                        refine r_cI1 (q := 94) vX6_111 dX6_block_91 rfl LYX6 rfl (Nat.le_of_ble_eq_true rfl) (by decide) (by decide) (c_X6_refuse _ V hV (-6) 6 rfl (by decide)) ?_
                        rintro _ τ ⟨rfl, hR⟩
                        exact r_retI dX6_block_94 (eo_bad (by first | (simp [cBlock, *]; done) | (unfold cBlock; (try simp only []); (repeat' split); all_goals first | rfl | contradiction | omega | (exfalso; simp only [Int32.lt_iff_toInt_lt, Int32.le_iff_toInt_le] at *; omega))) (by decide) hR)
              · refine r_aload_n (q := 50) dX6_block_49 rfl rfl ?_
                refine r_bipush (q := 52) (v := -4) dX6_block_50 rfl (by decide) ?_
                refine r_cI1 (q := 55) vX6_111 dX6_block_52 rfl LYX6 rfl (Nat.le_of_ble_eq_true rfl) (by decide) (by decide) (c_X6_refuse _ V hV (-4) 4 rfl (by decide)) ?_
                rintro _ τ ⟨rfl, hR⟩
                exact r_retI dX6_block_55 (eo_bad (by first | (simp [cBlock, *]; done) | (unfold cBlock; (try simp only []); (repeat' split); all_goals first | rfl | contradiction | omega | (exfalso; simp only [Int32.lt_iff_toInt_lt, Int32.le_iff_toInt_le] at *; omega))) (by decide) hR)
  · refine r_aload_n (q := 10) dX6_block_9 rfl rfl ?_
    refine r_bipush (q := 12) (v := -2) dX6_block_10 rfl (by decide) ?_
    refine r_cI1 (q := 15) vX6_111 dX6_block_12 rfl LYX6 rfl (Nat.le_of_ble_eq_true rfl) (by decide) (by decide) (c_X6_refuse _ V hV (-2) 2 rfl (by decide)) ?_
    rintro _ τ ⟨rfl, hR⟩
    exact r_retI dX6_block_15 (eo_bad (by first | (simp [cBlock, *]; done) | (unfold cBlock; (try simp only []); (repeat' split); all_goals first | rfl | contradiction | omega | (exfalso; simp only [Int32.lt_iff_toInt_lt, Int32.le_iff_toInt_le] at *; omega))) (by decide) hR)
set_option maxRecDepth 100000 in
set_option maxHeartbeats 4000000 in
theorem c_X6_share (σ V : St) (hV : vw σ = V) (hI : InvN V) (b d e : Int32) : Cl LAY yX6_share cX6_share 5 (some .int) 2 43 [.ref 33, .int b, .int d, .int e] σ (EI (fun v τ => v = resO (cShare V b d e) (nI (nv V 47 (8 * b.toNatClampNeg + d.toNatClampNeg))) ∧ vw τ = stO (cShare V b d e) (wr V 47 (8 * b.toNatClampNeg + d.toNatClampNeg) e) (rfM V (cShare V b d e)))) := by
  have hnb := bd hI 33 7 40 rfl rfl
  refine Cl.of 1 rfl rfl EI.ok ?_
  show Rn LAY none RX6 _ _ _ _ 0 [some (.ref 33), some (.int b), some (.int d), some (.int e), none] [] _ _
  refine r_aload_n (q := 1) dX6_share_0 rfl rfl ?_
  refine r_iload_n (q := 2) dX6_share_1 rfl rfl ?_
  refine r_cI1 (q := 5) vX6_115 dX6_share_2 rfl LYX6 rfl (Nat.le_of_ble_eq_true rfl) (by decide) (by decide) (c_X6_isBlock _ V hV hI _) ?_
  rintro _ _ ⟨rfl, rfl⟩
  refine r_if_eqN (t := 15) (q := 8) dX6_share_5 (by decide) rfl (by have := ix_le b (nv V 33 7); omega) (fun c5 => ?_) (fun c5 => ?_)
  · refine r_aload_n (q := 16) dX6_share_15 rfl rfl ?_
    refine r_iconst (q := 17) (v := -1) dX6_share_16 rfl (by decide) ?_
    refine r_cI1 (q := 20) vX6_111 dX6_share_17 rfl LYX6 rfl (Nat.le_of_ble_eq_true rfl) (by decide) (by decide) (c_X6_refuse _ V hV (-1) 1 rfl (by decide)) ?_
    rintro _ τ ⟨rfl, hR⟩
    exact r_retI dX6_share_20 (eo_bad (by first | (simp [cShare, *]; done) | (unfold cShare; (try simp only [hbc, hdc]); (repeat' split); all_goals first | rfl | contradiction | omega | (exfalso; simp only [Int32.lt_iff_toInt_lt, Int32.le_iff_toInt_le] at *; omega))) (by decide) hR)
  · obtain ⟨b, hb, rfl⟩ := ix_of c5
    have hbc := nI_clamp (n := b) (by omega)
    refine r_iload_n (q := 9) dX6_share_8 rfl rfl ?_
    refine r_sI1 (q := 12) vX6_107 dX6_share_9 rfl (Nat.le_of_ble_eq_true rfl) (by decide) (by decide) (c_X6_isDay _ _) ?_
    rintro _ _ ⟨rfl, rfl⟩
    refine r_if_neN (t := 21) (q := 15) dX6_share_12 (by decide) rfl (by have := ix_le d 8; omega) (fun c12 => ?_) (fun c12 => ?_)
    · obtain ⟨d, hd, rfl⟩ := ix_of c12
      have hdc := nI_clamp (n := d) (by omega)
      refine r_aload_n (q := 22) dX6_share_21 rfl rfl ?_
      refine gX6_29 (q := 25) dX6_share_22 rfl ?_
      refine r_iload_n (q := 26) dX6_share_25 rfl rfl ?_
      refine r_ialdV (q := 27) hV hI dX6_share_26 rfl LA39 rfl rfl (by decide) (by omega) ?_
      refine r_iconst (q := 28) (v := nI 1) dX6_share_27 rfl (by decide) ?_
      refine r_icmp_eqN (t := 38) (q := 31) dX6_share_28 (by decide) rfl (by have := bd hI 39 b 3 rfl rfl; omega) (by omega) (fun c28 => ?_) (fun c28 => ?_)
      · refine r_iload_n (q := 39) dX6_share_38 rfl rfl ?_
        refine r_if_ge (t := 49) (q := 42) dX6_share_39 (by decide) rfl (fun c39 => ?_) (fun c39 => ?_)
        · refine r_iload_n (q := 50) dX6_share_49 rfl rfl ?_
          refine r_bipush (q := 52) (v := nI 8) dX6_share_50 rfl (by decide) ?_
          refine r_icmp_le (t := 62) (q := 55) dX6_share_52 (by decide) rfl (fun c52 => ?_) (fun c52 => ?_)
          · refine r_aload_n (q := 63) dX6_share_62 rfl rfl ?_
            refine gX6_53 (q := 66) dX6_share_63 rfl ?_
            refine r_bipush (q := 68) (v := nI 8) dX6_share_66 rfl (by decide) ?_
            refine r_iload_n (q := 69) dX6_share_68 rfl rfl ?_
            refine r_imulN (q := 70) dX6_share_69 rfl ?_
            refine r_iload_n (q := 71) dX6_share_70 rfl rfl ?_
            refine r_iaddN (q := 72) dX6_share_71 rfl ?_
            refine r_ialdV (q := 73) hV hI dX6_share_72 rfl LA47 rfl rfl (by decide) (by omega) ?_
            refine r_istore (q := 75) dX6_share_73 rfl (Nat.le_of_ble_eq_true rfl) ?_
            refine r_aload_n (q := 76) dX6_share_75 rfl rfl ?_
            refine gX6_53 (q := 79) dX6_share_76 rfl ?_
            refine r_bipush (q := 81) (v := nI 8) dX6_share_79 rfl (by decide) ?_
            refine r_iload_n (q := 82) dX6_share_81 rfl rfl ?_
            refine r_imulN (q := 83) dX6_share_82 rfl ?_
            refine r_iload_n (q := 84) dX6_share_83 rfl rfl ?_
            refine r_iaddN (q := 85) dX6_share_84 rfl ?_
            refine r_iload_n (q := 86) dX6_share_85 rfl rfl ?_
            refine r_iastP (q := 87) hV dX6_share_86 rfl LA47 rfl (by omega) (by decide) (fun s86 hV86 => ?_)
            refine r_iload (q := 89) dX6_share_87 rfl rfl ?_
            exact r_retI dX6_share_89 (eo_ok (by first | (simp [cShare, *]; done) | (unfold cShare; (try simp only [hbc, hdc]); (repeat' split); all_goals first | rfl | contradiction | omega | (exfalso; simp only [Int32.lt_iff_toInt_lt, Int32.le_iff_toInt_le] at *; omega))) (by rw [hbc, hdc]) (by rw [hbc, hdc]; exact hV86))
          · refine r_aload_n (q := 56) dX6_share_55 rfl rfl ?_
            refine r_bipush (q := 58) (v := -6) dX6_share_56 rfl (by decide) ?_
            refine r_cI1 (q := 61) vX6_111 dX6_share_58 rfl LYX6 rfl (Nat.le_of_ble_eq_true rfl) (by decide) (by decide) (c_X6_refuse _ V hV (-6) 6 rfl (by decide)) ?_
            rintro _ τ ⟨rfl, hR⟩
            exact r_retI dX6_share_61 (eo_bad (by first | (simp [cShare, *]; done) | (unfold cShare; (try simp only [hbc, hdc]); (repeat' split); all_goals first | rfl | contradiction | omega | (exfalso; simp only [Int32.lt_iff_toInt_lt, Int32.le_iff_toInt_le] at *; omega))) (by decide) hR)
        · refine r_aload_n (q := 43) dX6_share_42 rfl rfl ?_
          refine r_bipush (q := 45) (v := -4) dX6_share_43 rfl (by decide) ?_
          refine r_cI1 (q := 48) vX6_111 dX6_share_45 rfl LYX6 rfl (Nat.le_of_ble_eq_true rfl) (by decide) (by decide) (c_X6_refuse _ V hV (-4) 4 rfl (by decide)) ?_
          rintro _ τ ⟨rfl, hR⟩
          exact r_retI dX6_share_48 (eo_bad (by first | (simp [cShare, *]; done) | (unfold cShare; (try simp only [hbc, hdc]); (repeat' split); all_goals first | rfl | contradiction | omega | (exfalso; simp only [Int32.lt_iff_toInt_lt, Int32.le_iff_toInt_le] at *; omega))) (by decide) hR)
      · refine r_aload_n (q := 32) dX6_share_31 rfl rfl ?_
        refine r_bipush (q := 34) (v := -2) dX6_share_32 rfl (by decide) ?_
        refine r_cI1 (q := 37) vX6_111 dX6_share_34 rfl LYX6 rfl (Nat.le_of_ble_eq_true rfl) (by decide) (by decide) (c_X6_refuse _ V hV (-2) 2 rfl (by decide)) ?_
        rintro _ τ ⟨rfl, hR⟩
        exact r_retI dX6_share_37 (eo_bad (by first | (simp [cShare, *]; done) | (unfold cShare; (try simp only [hbc, hdc]); (repeat' split); all_goals first | rfl | contradiction | omega | (exfalso; simp only [Int32.lt_iff_toInt_lt, Int32.le_iff_toInt_le] at *; omega))) (by decide) hR)
    · refine r_aload_n (q := 16) dX6_share_15 rfl rfl ?_
      refine r_iconst (q := 17) (v := -1) dX6_share_16 rfl (by decide) ?_
      refine r_cI1 (q := 20) vX6_111 dX6_share_17 rfl LYX6 rfl (Nat.le_of_ble_eq_true rfl) (by decide) (by decide) (c_X6_refuse _ V hV (-1) 1 rfl (by decide)) ?_
      rintro _ τ ⟨rfl, hR⟩
      exact r_retI dX6_share_20 (eo_bad (by first | (simp [cShare, *]; done) | (unfold cShare; (try simp only [hbc, hdc]); (repeat' split); all_goals first | rfl | contradiction | omega | (exfalso; simp only [Int32.lt_iff_toInt_lt, Int32.le_iff_toInt_le] at *; omega))) (by decide) hR)
set_option maxRecDepth 100000 in
set_option maxHeartbeats 4000000 in
theorem c_X6_most (σ V : St) (hV : vw σ = V) (hI : InvN V) (b x : Int32) : Cl LAY yX6_most cX6_most 4 (some .int) 2 43 [.ref 33, .int b, .int x] σ (EI (fun v τ => v = resO (cMost V b x) (nI (nv V 46 b.toNatClampNeg)) ∧ vw τ = stO (cMost V b x) (wr V 46 b.toNatClampNeg x) (rfM V (cMost V b x)))) := by
  have hnb := bd hI 33 7 40 rfl rfl
  refine Cl.of 1 rfl rfl EI.ok ?_
  show Rn LAY none RX6 _ _ _ _ 0 [some (.ref 33), some (.int b), some (.int x), none] [] _ _
  refine r_aload_n (q := 1) dX6_most_0 rfl rfl ?_
  refine r_iload_n (q := 2) dX6_most_1 rfl rfl ?_
  refine r_cI1 (q := 5) vX6_115 dX6_most_2 rfl LYX6 rfl (Nat.le_of_ble_eq_true rfl) (by decide) (by decide) (c_X6_isBlock _ V hV hI _) ?_
  rintro _ _ ⟨rfl, rfl⟩
  refine r_if_neN (t := 14) (q := 8) dX6_most_5 (by decide) rfl (by have := ix_le b (nv V 33 7); omega) (fun c5 => ?_) (fun c5 => ?_)
  · obtain ⟨b, hb, rfl⟩ := ix_of c5
    have hbc := nI_clamp (n := b) (by omega)
    refine r_aload_n (q := 15) dX6_most_14 rfl rfl ?_
    refine gX6_29 (q := 18) dX6_most_15 rfl ?_
    refine r_iload_n (q := 19) dX6_most_18 rfl rfl ?_
    refine r_ialdV (q := 20) hV hI dX6_most_19 rfl LA39 rfl rfl (by decide) (by omega) ?_
    refine r_iconst (q := 21) (v := nI 1) dX6_most_20 rfl (by decide) ?_
    refine r_icmp_eqN (t := 31) (q := 24) dX6_most_21 (by decide) rfl (by have := bd hI 39 b 3 rfl rfl; omega) (by omega) (fun c21 => ?_) (fun c21 => ?_)
    · refine r_iload_n (q := 32) dX6_most_31 rfl rfl ?_
      refine r_aload_n (q := 33) dX6_most_32 rfl rfl ?_
      refine gX6_47 (q := 36) dX6_most_33 rfl ?_
      refine r_iload_n (q := 37) dX6_most_36 rfl rfl ?_
      refine r_ialdV (q := 38) hV hI dX6_most_37 rfl LA45 rfl rfl (by decide) (by omega) ?_
      refine r_icmp_ge (t := 48) (q := 41) dX6_most_38 (by decide) rfl (fun c38 => ?_) (fun c38 => ?_)
      · refine r_iload_n (q := 49) dX6_most_48 rfl rfl ?_
        refine r_sipush (q := 52) (v := nI 200) dX6_most_49 rfl (by decide) ?_
        refine r_icmp_le (t := 62) (q := 55) dX6_most_52 (by decide) rfl (fun c52 => ?_) (fun c52 => ?_)
        · refine r_aload_n (q := 63) dX6_most_62 rfl rfl ?_
          refine gX6_50 (q := 66) dX6_most_63 rfl ?_
          refine r_iload_n (q := 67) dX6_most_66 rfl rfl ?_
          refine r_ialdV (q := 68) hV hI dX6_most_67 rfl LA46 rfl rfl (by decide) (by omega) ?_
          refine r_istore_n (q := 69) dX6_most_68 rfl (Nat.le_of_ble_eq_true rfl) ?_
          refine r_aload_n (q := 70) dX6_most_69 rfl rfl ?_
          refine gX6_50 (q := 73) dX6_most_70 rfl ?_
          refine r_iload_n (q := 74) dX6_most_73 rfl rfl ?_
          refine r_iload_n (q := 75) dX6_most_74 rfl rfl ?_
          refine r_iastP (q := 76) hV dX6_most_75 rfl LA46 rfl (by omega) (by decide) (fun s75 hV75 => ?_)
          refine r_iload_n (q := 77) dX6_most_76 rfl rfl ?_
          exact r_retI dX6_most_77 (eo_ok (by first | (simp [cMost, *]; done) | (unfold cMost; (try simp only [hbc]); (repeat' split); all_goals first | rfl | contradiction | omega | (exfalso; simp only [Int32.lt_iff_toInt_lt, Int32.le_iff_toInt_le] at *; omega))) (by rw [hbc]) (by rw [hbc]; exact hV75))
        · refine r_aload_n (q := 56) dX6_most_55 rfl rfl ?_
          refine r_bipush (q := 58) (v := -6) dX6_most_56 rfl (by decide) ?_
          refine r_cI1 (q := 61) vX6_111 dX6_most_58 rfl LYX6 rfl (Nat.le_of_ble_eq_true rfl) (by decide) (by decide) (c_X6_refuse _ V hV (-6) 6 rfl (by decide)) ?_
          rintro _ τ ⟨rfl, hR⟩
          exact r_retI dX6_most_61 (eo_bad (by first | (simp [cMost, *]; done) | (unfold cMost; (try simp only [hbc]); (repeat' split); all_goals first | rfl | contradiction | omega | (exfalso; simp only [Int32.lt_iff_toInt_lt, Int32.le_iff_toInt_le] at *; omega))) (by decide) hR)
      · refine r_aload_n (q := 42) dX6_most_41 rfl rfl ?_
        refine r_bipush (q := 44) (v := -4) dX6_most_42 rfl (by decide) ?_
        refine r_cI1 (q := 47) vX6_111 dX6_most_44 rfl LYX6 rfl (Nat.le_of_ble_eq_true rfl) (by decide) (by decide) (c_X6_refuse _ V hV (-4) 4 rfl (by decide)) ?_
        rintro _ τ ⟨rfl, hR⟩
        exact r_retI dX6_most_47 (eo_bad (by first | (simp [cMost, *]; done) | (unfold cMost; (try simp only [hbc]); (repeat' split); all_goals first | rfl | contradiction | omega | (exfalso; simp only [Int32.lt_iff_toInt_lt, Int32.le_iff_toInt_le] at *; omega))) (by decide) hR)
    · refine r_aload_n (q := 25) dX6_most_24 rfl rfl ?_
      refine r_bipush (q := 27) (v := -2) dX6_most_25 rfl (by decide) ?_
      refine r_cI1 (q := 30) vX6_111 dX6_most_27 rfl LYX6 rfl (Nat.le_of_ble_eq_true rfl) (by decide) (by decide) (c_X6_refuse _ V hV (-2) 2 rfl (by decide)) ?_
      rintro _ τ ⟨rfl, hR⟩
      exact r_retI dX6_most_30 (eo_bad (by first | (simp [cMost, *]; done) | (unfold cMost; (try simp only [hbc]); (repeat' split); all_goals first | rfl | contradiction | omega | (exfalso; simp only [Int32.lt_iff_toInt_lt, Int32.le_iff_toInt_le] at *; omega))) (by decide) hR)
  · refine r_aload_n (q := 9) dX6_most_8 rfl rfl ?_
    refine r_iconst (q := 10) (v := -1) dX6_most_9 rfl (by decide) ?_
    refine r_cI1 (q := 13) vX6_111 dX6_most_10 rfl LYX6 rfl (Nat.le_of_ble_eq_true rfl) (by decide) (by decide) (c_X6_refuse _ V hV (-1) 1 rfl (by decide)) ?_
    rintro _ τ ⟨rfl, hR⟩
    exact r_retI dX6_most_13 (eo_bad (by first | (simp [cMost, *]; done) | (unfold cMost; (try simp only [hbc]); (repeat' split); all_goals first | rfl | contradiction | omega | (exfalso; simp only [Int32.lt_iff_toInt_lt, Int32.le_iff_toInt_le] at *; omega))) (by decide) hR)
set_option maxRecDepth 100000 in
set_option maxHeartbeats 4000000 in
theorem c_X6_cut (σ V : St) (hV : vw σ = V) (hI : InvN V) (b x : Int32) : Cl LAY yX6_cut cX6_cut 4 (some .int) 2 43 [.ref 33, .int b, .int x] σ (EI (fun v τ => v = resO (cCut V b x) (nI (nv V 45 b.toNatClampNeg)) ∧ vw τ = stO (cCut V b x) (wr V 45 b.toNatClampNeg x) (rfM V (cCut V b x)))) := by
  have hnb := bd hI 33 7 40 rfl rfl
  refine Cl.of 1 rfl rfl EI.ok ?_
  show Rn LAY none RX6 _ _ _ _ 0 [some (.ref 33), some (.int b), some (.int x), none] [] _ _
  refine r_aload_n (q := 1) dX6_cut_0 rfl rfl ?_
  refine r_iload_n (q := 2) dX6_cut_1 rfl rfl ?_
  refine r_cI1 (q := 5) vX6_115 dX6_cut_2 rfl LYX6 rfl (Nat.le_of_ble_eq_true rfl) (by decide) (by decide) (c_X6_isBlock _ V hV hI _) ?_
  rintro _ _ ⟨rfl, rfl⟩
  refine r_if_neN (t := 14) (q := 8) dX6_cut_5 (by decide) rfl (by have := ix_le b (nv V 33 7); omega) (fun c5 => ?_) (fun c5 => ?_)
  · obtain ⟨b, hb, rfl⟩ := ix_of c5
    have hbc := nI_clamp (n := b) (by omega)
    refine r_aload_n (q := 15) dX6_cut_14 rfl rfl ?_
    refine gX6_29 (q := 18) dX6_cut_15 rfl ?_
    refine r_iload_n (q := 19) dX6_cut_18 rfl rfl ?_
    refine r_ialdV (q := 20) hV hI dX6_cut_19 rfl LA39 rfl rfl (by decide) (by omega) ?_
    refine r_iconst (q := 21) (v := nI 1) dX6_cut_20 rfl (by decide) ?_
    refine r_icmp_eqN (t := 31) (q := 24) dX6_cut_21 (by decide) rfl (by have := bd hI 39 b 3 rfl rfl; omega) (by omega) (fun c21 => ?_) (fun c21 => ?_)
    · refine r_aload_n (q := 32) dX6_cut_31 rfl rfl ?_
      refine gX6_60 (q := 35) dX6_cut_32 rfl ?_
      refine r_iload_n (q := 36) dX6_cut_35 rfl rfl ?_
      refine r_zaldV (q := 37) hV hI dX6_cut_36 rfl LA49 rfl rfl (by decide) (by omega) ?_
      refine r_if_eqN (t := 47) (q := 40) dX6_cut_37 (by decide) rfl (by have := bd hI 49 b 1 rfl rfl; omega) (fun c37 => ?_) (fun c37 => ?_)
      · refine r_iload_n (q := 48) dX6_cut_47 rfl rfl ?_
        refine r_aload_n (q := 49) dX6_cut_48 rfl rfl ?_
        refine gX6_44 (q := 52) dX6_cut_49 rfl ?_
        refine r_iload_n (q := 53) dX6_cut_52 rfl rfl ?_
        refine r_ialdV (q := 54) hV hI dX6_cut_53 rfl LA44 rfl rfl (by decide) (by omega) ?_
        refine r_icmp_gt (t := 64) (q := 57) dX6_cut_54 (by decide) rfl (fun c54 => ?_) (fun c54 => ?_)
        · refine r_iload_n (q := 65) dX6_cut_64 rfl rfl ?_
          refine r_aload_n (q := 66) dX6_cut_65 rfl rfl ?_
          refine gX6_47 (q := 69) dX6_cut_66 rfl ?_
          refine r_iload_n (q := 70) dX6_cut_69 rfl rfl ?_
          refine r_ialdV (q := 71) hV hI dX6_cut_70 rfl LA45 rfl rfl (by decide) (by omega) ?_
          refine r_icmp_le (t := 81) (q := 74) dX6_cut_71 (by decide) rfl (fun c71 => ?_) (fun c71 => ?_)
          · refine r_aload_n (q := 82) dX6_cut_81 rfl rfl ?_
            refine gX6_47 (q := 85) dX6_cut_82 rfl ?_
            refine r_iload_n (q := 86) dX6_cut_85 rfl rfl ?_
            refine r_ialdV (q := 87) hV hI dX6_cut_86 rfl LA45 rfl rfl (by decide) (by omega) ?_
            refine r_istore_n (q := 88) dX6_cut_87 rfl (Nat.le_of_ble_eq_true rfl) ?_
            refine r_aload_n (q := 89) dX6_cut_88 rfl rfl ?_
            refine gX6_47 (q := 92) dX6_cut_89 rfl ?_
            refine r_iload_n (q := 93) dX6_cut_92 rfl rfl ?_
            refine r_iload_n (q := 94) dX6_cut_93 rfl rfl ?_
            refine r_iastP (q := 95) hV dX6_cut_94 rfl LA45 rfl (by omega) (by decide) (fun s94 hV94 => ?_)
            refine r_iload_n (q := 96) dX6_cut_95 rfl rfl ?_
            exact r_retI dX6_cut_96 (eo_ok (by first | (simp [cCut, *]; done) | (unfold cCut; (try simp only [hbc]); (repeat' split); all_goals first | rfl | contradiction | omega | (exfalso; simp only [Int32.lt_iff_toInt_lt, Int32.le_iff_toInt_le] at *; omega))) (by rw [hbc]) (by rw [hbc]; exact hV94))
          · refine r_aload_n (q := 75) dX6_cut_74 rfl rfl ?_
            refine r_bipush (q := 77) (v := -6) dX6_cut_75 rfl (by decide) ?_
            refine r_cI1 (q := 80) vX6_111 dX6_cut_77 rfl LYX6 rfl (Nat.le_of_ble_eq_true rfl) (by decide) (by decide) (c_X6_refuse _ V hV (-6) 6 rfl (by decide)) ?_
            rintro _ τ ⟨rfl, hR⟩
            exact r_retI dX6_cut_80 (eo_bad (by first | (simp [cCut, *]; done) | (unfold cCut; (try simp only [hbc]); (repeat' split); all_goals first | rfl | contradiction | omega | (exfalso; simp only [Int32.lt_iff_toInt_lt, Int32.le_iff_toInt_le] at *; omega))) (by decide) hR)
        · refine r_aload_n (q := 58) dX6_cut_57 rfl rfl ?_
          refine r_bipush (q := 60) (v := -4) dX6_cut_58 rfl (by decide) ?_
          refine r_cI1 (q := 63) vX6_111 dX6_cut_60 rfl LYX6 rfl (Nat.le_of_ble_eq_true rfl) (by decide) (by decide) (c_X6_refuse _ V hV (-4) 4 rfl (by decide)) ?_
          rintro _ τ ⟨rfl, hR⟩
          exact r_retI dX6_cut_63 (eo_bad (by first | (simp [cCut, *]; done) | (unfold cCut; (try simp only [hbc]); (repeat' split); all_goals first | rfl | contradiction | omega | (exfalso; simp only [Int32.lt_iff_toInt_lt, Int32.le_iff_toInt_le] at *; omega))) (by decide) hR)
      · refine r_aload_n (q := 41) dX6_cut_40 rfl rfl ?_
        refine r_bipush (q := 43) (v := -3) dX6_cut_41 rfl (by decide) ?_
        refine r_cI1 (q := 46) vX6_111 dX6_cut_43 rfl LYX6 rfl (Nat.le_of_ble_eq_true rfl) (by decide) (by decide) (c_X6_refuse _ V hV (-3) 3 rfl (by decide)) ?_
        rintro _ τ ⟨rfl, hR⟩
        exact r_retI dX6_cut_46 (eo_bad (by first | (simp [cCut, *]; done) | (unfold cCut; (try simp only [hbc]); (repeat' split); all_goals first | rfl | contradiction | omega | (exfalso; simp only [Int32.lt_iff_toInt_lt, Int32.le_iff_toInt_le] at *; omega))) (by decide) hR)
    · refine r_aload_n (q := 25) dX6_cut_24 rfl rfl ?_
      refine r_bipush (q := 27) (v := -2) dX6_cut_25 rfl (by decide) ?_
      refine r_cI1 (q := 30) vX6_111 dX6_cut_27 rfl LYX6 rfl (Nat.le_of_ble_eq_true rfl) (by decide) (by decide) (c_X6_refuse _ V hV (-2) 2 rfl (by decide)) ?_
      rintro _ τ ⟨rfl, hR⟩
      exact r_retI dX6_cut_30 (eo_bad (by first | (simp [cCut, *]; done) | (unfold cCut; (try simp only [hbc]); (repeat' split); all_goals first | rfl | contradiction | omega | (exfalso; simp only [Int32.lt_iff_toInt_lt, Int32.le_iff_toInt_le] at *; omega))) (by decide) hR)
  · refine r_aload_n (q := 9) dX6_cut_8 rfl rfl ?_
    refine r_iconst (q := 10) (v := -1) dX6_cut_9 rfl (by decide) ?_
    refine r_cI1 (q := 13) vX6_111 dX6_cut_10 rfl LYX6 rfl (Nat.le_of_ble_eq_true rfl) (by decide) (by decide) (c_X6_refuse _ V hV (-1) 1 rfl (by decide)) ?_
    rintro _ τ ⟨rfl, hR⟩
    exact r_retI dX6_cut_13 (eo_bad (by first | (simp [cCut, *]; done) | (unfold cCut; (try simp only [hbc]); (repeat' split); all_goals first | rfl | contradiction | omega | (exfalso; simp only [Int32.lt_iff_toInt_lt, Int32.le_iff_toInt_le] at *; omega))) (by decide) hR)
set_option maxRecDepth 100000 in
set_option maxHeartbeats 4000000 in
theorem c_X6_go (σ V : St) (hV : vw σ = V) (hI : InvN V) (b : Int32) : Cl LAY yX6_go cX6_go 2 (some .int) 2 43 [.ref 33, .int b] σ (EI (fun v τ => v = resO (cGo V b) (nI 1) ∧ vw τ = stO (cGo V b) (wr V 49 b.toNatClampNeg (nI 1)) (rfM V (cGo V b)))) := by
  have hnb := bd hI 33 7 40 rfl rfl
  refine Cl.of 0 rfl rfl EI.ok ?_
  show Rn LAY none RX6 _ _ _ _ 0 [some (.ref 33), some (.int b)] [] _ _
  refine r_aload_n (q := 1) dX6_go_0 rfl rfl ?_
  refine r_iload_n (q := 2) dX6_go_1 rfl rfl ?_
  refine r_cI1 (q := 5) vX6_115 dX6_go_2 rfl LYX6 rfl (Nat.le_of_ble_eq_true rfl) (by decide) (by decide) (c_X6_isBlock _ V hV hI _) ?_
  rintro _ _ ⟨rfl, rfl⟩
  refine r_if_neN (t := 14) (q := 8) dX6_go_5 (by decide) rfl (by have := ix_le b (nv V 33 7); omega) (fun c5 => ?_) (fun c5 => ?_)
  · obtain ⟨b, hb, rfl⟩ := ix_of c5
    have hbc := nI_clamp (n := b) (by omega)
    refine r_aload_n (q := 15) dX6_go_14 rfl rfl ?_
    refine gX6_60 (q := 18) dX6_go_15 rfl ?_
    refine r_iload_n (q := 19) dX6_go_18 rfl rfl ?_
    refine r_zaldV (q := 20) hV hI dX6_go_19 rfl LA49 rfl rfl (by decide) (by omega) ?_
    refine r_if_eqN (t := 30) (q := 23) dX6_go_20 (by decide) rfl (by have := bd hI 49 b 1 rfl rfl; omega) (fun c20 => ?_) (fun c20 => ?_)
    · refine r_aload_n (q := 31) dX6_go_30 rfl rfl ?_
      refine gX6_60 (q := 34) dX6_go_31 rfl ?_
      refine r_iload_n (q := 35) dX6_go_34 rfl rfl ?_
      refine r_iconst (q := 36) (v := nI 1) dX6_go_35 rfl (by decide) ?_
      refine r_zastP (q := 37) hV dX6_go_36 rfl LA49 rfl (by omega) (by decide) (Or.inr rfl) (fun s36 hV36 => ?_)
      refine r_iconst (q := 38) (v := nI 1) dX6_go_37 rfl (by decide) ?_
      exact r_retI dX6_go_38 (eo_ok (by first | (simp [cGo, *]; done) | (unfold cGo; (try simp only [hbc]); (repeat' split); all_goals first | rfl | contradiction | omega | (exfalso; simp only [Int32.lt_iff_toInt_lt, Int32.le_iff_toInt_le] at *; omega))) rfl (by rw [hbc]; exact hV36))
    · refine r_aload_n (q := 24) dX6_go_23 rfl rfl ?_
      refine r_bipush (q := 26) (v := -3) dX6_go_24 rfl (by decide) ?_
      refine r_cI1 (q := 29) vX6_111 dX6_go_26 rfl LYX6 rfl (Nat.le_of_ble_eq_true rfl) (by decide) (by decide) (c_X6_refuse _ V hV (-3) 3 rfl (by decide)) ?_
      rintro _ τ ⟨rfl, hR⟩
      exact r_retI dX6_go_29 (eo_bad (by first | (simp [cGo, *]; done) | (unfold cGo; (try simp only [hbc]); (repeat' split); all_goals first | rfl | contradiction | omega | (exfalso; simp only [Int32.lt_iff_toInt_lt, Int32.le_iff_toInt_le] at *; omega))) (by decide) hR)
  · refine r_aload_n (q := 9) dX6_go_8 rfl rfl ?_
    refine r_iconst (q := 10) (v := -1) dX6_go_9 rfl (by decide) ?_
    refine r_cI1 (q := 13) vX6_111 dX6_go_10 rfl LYX6 rfl (Nat.le_of_ble_eq_true rfl) (by decide) (by decide) (c_X6_refuse _ V hV (-1) 1 rfl (by decide)) ?_
    rintro _ τ ⟨rfl, hR⟩
    exact r_retI dX6_go_13 (eo_bad (by first | (simp [cGo, *]; done) | (unfold cGo; (try simp only [hbc]); (repeat' split); all_goals first | rfl | contradiction | omega | (exfalso; simp only [Int32.lt_iff_toInt_lt, Int32.le_iff_toInt_le] at *; omega))) (by decide) hR)
set_option maxRecDepth 100000 in
set_option maxHeartbeats 4000000 in
theorem c_X6_window (σ V : St) (hV : vw σ = V) (hI : InvN V) (s a ua ub za zb : Int32) : Cl LAY yX6_window cX6_window 7 (some .int) 1 22 [.ref 33, .int s, .int a, .int ua, .int ub, .int za, .int zb] σ (EI (fun v τ => v = resO (cWindow V s a ua ub za zb) (nI (nv V 33 19)) ∧ vw τ = stO (cWindow V s a ua ub za zb) (wr (wr (wr (wr (wr (wr (wr V 50 (nv V 33 19) s) 51 (nv V 33 19) a) 52 (nv V 33 19) ua) 53 (nv V 33 19) ub) 54 (nv V 33 19) za) 55 (nv V 33 19) zb) 33 19 (nI (nv V 33 19 + 1))) (rfM V (cWindow V s a ua ub za zb)))) := by
  have hnw := bd hI 33 19 20 rfl rfl
  refine Cl.of 0 rfl rfl EI.ok ?_
  show Rn LAY none RX6 _ _ _ _ 0 [some (.ref 33), some (.int s), some (.int a), some (.int ua), some (.int ub), some (.int za), some (.int zb)] [] _ _
  refine r_iload_n (q := 1) dX6_window_0 rfl rfl ?_
  refine r_iconst (q := 2) (v := nI 0) dX6_window_1 rfl (by decide) ?_
  refine r_iconst (q := 3) (v := nI 3) dX6_window_2 rfl (by decide) ?_
  refine r_sI3 (q := 6) vX6_100 dX6_window_3 rfl (Nat.le_of_ble_eq_true rfl) (by decide) (by decide) (c_X6_in _ _ _ _) ?_
  rintro _ _ ⟨rfl, rfl⟩
  refine r_if_neN (t := 16) (q := 9) dX6_window_6 (by decide) rfl (by have := inN_le s (nI 0) (nI 3); omega) (fun c6 => ?_) (fun c6 => ?_)
  · refine r_iload_n (q := 17) dX6_window_16 rfl rfl ?_
    refine r_if_lt (t := 42) (q := 20) dX6_window_17 (by decide) rfl (fun c17 => ?_) (fun c17 => ?_)
    · refine r_aload_n (q := 43) dX6_window_42 rfl rfl ?_
      refine r_bipush (q := 45) (v := -4) dX6_window_43 rfl (by decide) ?_
      refine r_cI1 (q := 48) vX6_111 dX6_window_45 rfl LYX6 rfl (Nat.le_of_ble_eq_true rfl) (by decide) (by decide) (c_X6_refuse _ V hV (-4) 4 rfl (by decide)) ?_
      rintro _ τ ⟨rfl, hR⟩
      exact r_retI dX6_window_48 (eo_bad (by first | (simp [cWindow, *]; done) | (unfold cWindow; (try simp only []); (repeat' split); all_goals first | rfl | contradiction | omega | (exfalso; simp only [Int32.lt_iff_toInt_lt, Int32.le_iff_toInt_le] at *; omega))) (by decide) hR)
    · refine r_iload_n (q := 21) dX6_window_20 rfl rfl ?_
      refine r_if_lt (t := 42) (q := 24) dX6_window_21 (by decide) rfl (fun c21 => ?_) (fun c21 => ?_)
      · refine r_aload_n (q := 43) dX6_window_42 rfl rfl ?_
        refine r_bipush (q := 45) (v := -4) dX6_window_43 rfl (by decide) ?_
        refine r_cI1 (q := 48) vX6_111 dX6_window_45 rfl LYX6 rfl (Nat.le_of_ble_eq_true rfl) (by decide) (by decide) (c_X6_refuse _ V hV (-4) 4 rfl (by decide)) ?_
        rintro _ τ ⟨rfl, hR⟩
        exact r_retI dX6_window_48 (eo_bad (by first | (simp [cWindow, *]; done) | (unfold cWindow; (try simp only []); (repeat' split); all_goals first | rfl | contradiction | omega | (exfalso; simp only [Int32.lt_iff_toInt_lt, Int32.le_iff_toInt_le] at *; omega))) (by decide) hR)
      · refine r_iload (q := 26) dX6_window_24 rfl rfl ?_
        refine r_if_lt (t := 42) (q := 29) dX6_window_26 (by decide) rfl (fun c26 => ?_) (fun c26 => ?_)
        · refine r_aload_n (q := 43) dX6_window_42 rfl rfl ?_
          refine r_bipush (q := 45) (v := -4) dX6_window_43 rfl (by decide) ?_
          refine r_cI1 (q := 48) vX6_111 dX6_window_45 rfl LYX6 rfl (Nat.le_of_ble_eq_true rfl) (by decide) (by decide) (c_X6_refuse _ V hV (-4) 4 rfl (by decide)) ?_
          rintro _ τ ⟨rfl, hR⟩
          exact r_retI dX6_window_48 (eo_bad (by first | (simp [cWindow, *]; done) | (unfold cWindow; (try simp only []); (repeat' split); all_goals first | rfl | contradiction | omega | (exfalso; simp only [Int32.lt_iff_toInt_lt, Int32.le_iff_toInt_le] at *; omega))) (by decide) hR)
        · refine r_iload (q := 31) dX6_window_29 rfl rfl ?_
          refine r_iload_n (q := 32) dX6_window_31 rfl rfl ?_
          refine r_icmp_le (t := 42) (q := 35) dX6_window_32 (by decide) rfl (fun c32 => ?_) (fun c32 => ?_)
          · refine r_aload_n (q := 43) dX6_window_42 rfl rfl ?_
            refine r_bipush (q := 45) (v := -4) dX6_window_43 rfl (by decide) ?_
            refine r_cI1 (q := 48) vX6_111 dX6_window_45 rfl LYX6 rfl (Nat.le_of_ble_eq_true rfl) (by decide) (by decide) (c_X6_refuse _ V hV (-4) 4 rfl (by decide)) ?_
            rintro _ τ ⟨rfl, hR⟩
            exact r_retI dX6_window_48 (eo_bad (by first | (simp [cWindow, *]; done) | (unfold cWindow; (try simp only []); (repeat' split); all_goals first | rfl | contradiction | omega | (exfalso; simp only [Int32.lt_iff_toInt_lt, Int32.le_iff_toInt_le] at *; omega))) (by decide) hR)
          · refine r_iload (q := 37) dX6_window_35 rfl rfl ?_
            refine r_iload (q := 39) dX6_window_37 rfl rfl ?_
            refine r_icmp_gt (t := 49) (q := 42) dX6_window_39 (by decide) rfl (fun c39 => ?_) (fun c39 => ?_)
            · refine r_iload_n (q := 50) dX6_window_49 rfl rfl ?_
              refine r_sipush (q := 53) (v := nI 200) dX6_window_50 rfl (by decide) ?_
              refine r_icmp_gt (t := 96) (q := 56) dX6_window_53 (by decide) rfl (fun c53 => ?_) (fun c53 => ?_)
              · refine r_aload_n (q := 97) dX6_window_96 rfl rfl ?_
                refine r_bipush (q := 99) (v := -6) dX6_window_97 rfl (by decide) ?_
                refine r_cI1 (q := 102) vX6_111 dX6_window_99 rfl LYX6 rfl (Nat.le_of_ble_eq_true rfl) (by decide) (by decide) (c_X6_refuse _ V hV (-6) 6 rfl (by decide)) ?_
                rintro _ τ ⟨rfl, hR⟩
                exact r_retI dX6_window_102 (eo_bad (by first | (simp [cWindow, *]; done) | (unfold cWindow; (try simp only []); (repeat' split); all_goals first | rfl | contradiction | omega | (exfalso; simp only [Int32.lt_iff_toInt_lt, Int32.le_iff_toInt_le] at *; omega))) (by decide) hR)
              · refine r_iload (q := 58) dX6_window_56 rfl rfl ?_
                refine r_sipush (q := 61) (v := nI 200) dX6_window_58 rfl (by decide) ?_
                refine r_icmp_gt (t := 96) (q := 64) dX6_window_61 (by decide) rfl (fun c61 => ?_) (fun c61 => ?_)
                · refine r_aload_n (q := 97) dX6_window_96 rfl rfl ?_
                  refine r_bipush (q := 99) (v := -6) dX6_window_97 rfl (by decide) ?_
                  refine r_cI1 (q := 102) vX6_111 dX6_window_99 rfl LYX6 rfl (Nat.le_of_ble_eq_true rfl) (by decide) (by decide) (c_X6_refuse _ V hV (-6) 6 rfl (by decide)) ?_
                  rintro _ τ ⟨rfl, hR⟩
                  exact r_retI dX6_window_102 (eo_bad (by first | (simp [cWindow, *]; done) | (unfold cWindow; (try simp only []); (repeat' split); all_goals first | rfl | contradiction | omega | (exfalso; simp only [Int32.lt_iff_toInt_lt, Int32.le_iff_toInt_le] at *; omega))) (by decide) hR)
                · refine r_iload (q := 66) dX6_window_64 rfl rfl ?_
                  refine r_sipush (q := 69) (v := nI 200) dX6_window_66 rfl (by decide) ?_
                  refine r_icmp_gt (t := 96) (q := 72) dX6_window_69 (by decide) rfl (fun c69 => ?_) (fun c69 => ?_)
                  · refine r_aload_n (q := 97) dX6_window_96 rfl rfl ?_
                    refine r_bipush (q := 99) (v := -6) dX6_window_97 rfl (by decide) ?_
                    refine r_cI1 (q := 102) vX6_111 dX6_window_99 rfl LYX6 rfl (Nat.le_of_ble_eq_true rfl) (by decide) (by decide) (c_X6_refuse _ V hV (-6) 6 rfl (by decide)) ?_
                    rintro _ τ ⟨rfl, hR⟩
                    exact r_retI dX6_window_102 (eo_bad (by first | (simp [cWindow, *]; done) | (unfold cWindow; (try simp only []); (repeat' split); all_goals first | rfl | contradiction | omega | (exfalso; simp only [Int32.lt_iff_toInt_lt, Int32.le_iff_toInt_le] at *; omega))) (by decide) hR)
                  · refine r_iload (q := 74) dX6_window_72 rfl rfl ?_
                    refine r_iload_n (q := 75) dX6_window_74 rfl rfl ?_
                    refine r_isub (q := 76) dX6_window_75 rfl ?_
                    refine r_iload (q := 78) dX6_window_76 rfl rfl ?_
                    refine r_iload (q := 80) dX6_window_78 rfl rfl ?_
                    refine r_isub (q := 81) dX6_window_80 rfl ?_
                    refine r_imul (q := 82) dX6_window_81 rfl ?_
                    refine r_bipush (q := 84) (v := nI 64) dX6_window_82 rfl (by decide) ?_
                    refine r_icmp_gt (t := 96) (q := 87) dX6_window_84 (by decide) rfl (fun c84 => ?_) (fun c84 => ?_)
                    · refine r_aload_n (q := 97) dX6_window_96 rfl rfl ?_
                      refine r_bipush (q := 99) (v := -6) dX6_window_97 rfl (by decide) ?_
                      refine r_cI1 (q := 102) vX6_111 dX6_window_99 rfl LYX6 rfl (Nat.le_of_ble_eq_true rfl) (by decide) (by decide) (c_X6_refuse _ V hV (-6) 6 rfl (by decide)) ?_
                      rintro _ τ ⟨rfl, hR⟩
                      exact r_retI dX6_window_102 (eo_bad (by first | (simp [cWindow, *]; done) | (unfold cWindow; (try simp only []); (repeat' split); all_goals first | rfl | contradiction | omega | (exfalso; simp only [Int32.lt_iff_toInt_lt, Int32.le_iff_toInt_le] at *; omega))) (by decide) hR)
                    · refine r_aload_n (q := 88) dX6_window_87 rfl rfl ?_
                      refine gvX6_104 (q := 91) hV hI dX6_window_88 rfl ?_
                      refine r_bipush (q := 93) (v := nI 20) dX6_window_91 rfl (by decide) ?_
                      refine r_icmp_neN (t := 103) (q := 96) dX6_window_93 (by decide) rfl (by have := bd hI 33 19 20 rfl rfl; omega) (by omega) (fun c93 => ?_) (fun c93 => ?_)
                      · refine r_aload_n (q := 104) dX6_window_103 rfl rfl ?_
                        refine gX6_63 (q := 107) dX6_window_104 rfl ?_
                        refine r_aload_n (q := 108) dX6_window_107 rfl rfl ?_
                        refine gvX6_104 (q := 111) hV hI dX6_window_108 rfl ?_
                        refine r_iload_n (q := 112) dX6_window_111 rfl rfl ?_
                        refine r_iastP (q := 113) hV dX6_window_112 rfl LA50 rfl (by omega) (by decide) (fun s112 hV112 => ?_)
                        refine r_aload_n (q := 114) dX6_window_113 rfl rfl ?_
                        refine gX6_66 (q := 117) dX6_window_114 rfl ?_
                        refine r_aload_n (q := 118) dX6_window_117 rfl rfl ?_
                        refine gX6_104 (q := 121) dX6_window_118 rfl ?_
                        refine r_as (y := nI (nv V 33 19)) (by rw [vw_at hV112 rfl]; exact (hI 33 19 rfl).1) ?_
                        refine r_iload_n (q := 122) dX6_window_121 rfl rfl ?_
                        refine r_iastP (q := 123) hV112 dX6_window_122 rfl LA51 rfl (by omega) (by decide) (fun s122 hV122 => ?_)
                        refine r_aload_n (q := 124) dX6_window_123 rfl rfl ?_
                        refine gX6_69 (q := 127) dX6_window_124 rfl ?_
                        refine r_aload_n (q := 128) dX6_window_127 rfl rfl ?_
                        refine gX6_104 (q := 131) dX6_window_128 rfl ?_
                        refine r_as (y := nI (nv V 33 19)) (by rw [vw_at hV122 rfl]; exact (hI 33 19 rfl).1) ?_
                        refine r_iload_n (q := 132) dX6_window_131 rfl rfl ?_
                        refine r_iastP (q := 133) hV122 dX6_window_132 rfl LA52 rfl (by omega) (by decide) (fun s132 hV132 => ?_)
                        refine r_aload_n (q := 134) dX6_window_133 rfl rfl ?_
                        refine gX6_72 (q := 137) dX6_window_134 rfl ?_
                        refine r_aload_n (q := 138) dX6_window_137 rfl rfl ?_
                        refine gX6_104 (q := 141) dX6_window_138 rfl ?_
                        refine r_as (y := nI (nv V 33 19)) (by rw [vw_at hV132 rfl]; exact (hI 33 19 rfl).1) ?_
                        refine r_iload (q := 143) dX6_window_141 rfl rfl ?_
                        refine r_iastP (q := 144) hV132 dX6_window_143 rfl LA53 rfl (by omega) (by decide) (fun s143 hV143 => ?_)
                        refine r_aload_n (q := 145) dX6_window_144 rfl rfl ?_
                        refine gX6_75 (q := 148) dX6_window_145 rfl ?_
                        refine r_aload_n (q := 149) dX6_window_148 rfl rfl ?_
                        refine gX6_104 (q := 152) dX6_window_149 rfl ?_
                        refine r_as (y := nI (nv V 33 19)) (by rw [vw_at hV143 rfl]; exact (hI 33 19 rfl).1) ?_
                        refine r_iload (q := 154) dX6_window_152 rfl rfl ?_
                        refine r_iastP (q := 155) hV143 dX6_window_154 rfl LA54 rfl (by omega) (by decide) (fun s154 hV154 => ?_)
                        refine r_aload_n (q := 156) dX6_window_155 rfl rfl ?_
                        refine gX6_78 (q := 159) dX6_window_156 rfl ?_
                        refine r_aload_n (q := 160) dX6_window_159 rfl rfl ?_
                        refine gX6_104 (q := 163) dX6_window_160 rfl ?_
                        refine r_as (y := nI (nv V 33 19)) (by rw [vw_at hV154 rfl]; exact (hI 33 19 rfl).1) ?_
                        refine r_iload (q := 165) dX6_window_163 rfl rfl ?_
                        refine r_iastP (q := 166) hV154 dX6_window_165 rfl LA55 rfl (by omega) (by decide) (fun s165 hV165 => ?_)
                        refine r_aload_n (q := 167) dX6_window_166 rfl rfl ?_
                        refine r_dup (q := 168) dX6_window_167 rfl ?_
                        refine gX6_104 (q := 171) dX6_window_168 rfl ?_
                        refine r_as (y := nI (nv V 33 19)) (by rw [vw_at hV165 rfl]; exact (hI 33 19 rfl).1) ?_
                        refine r_iconst (q := 172) (v := nI 1) dX6_window_171 rfl (by decide) ?_
                        refine r_iaddN (q := 173) dX6_window_172 rfl ?_
                        refine ppX6_104 (q := 176) hV165 dX6_window_173 rfl (fun s173 hV173 => ?_)
                        refine r_aload_n (q := 177) dX6_window_176 rfl rfl ?_
                        refine gX6_104 (q := 180) dX6_window_177 rfl ?_
                        refine r_as (y := nI (nv V 33 19 + 1)) (by rw [vw_at hV173 rfl, wr_at, if_pos ⟨rfl, rfl⟩]) ?_
                        refine r_iconst (q := 181) (v := nI 1) dX6_window_180 rfl (by decide) ?_
                        refine r_isubN (q := 182) dX6_window_181 rfl (by omega) ?_
                        exact r_retI dX6_window_182 (eo_ok (by first | (simp [cWindow, *]; done) | (unfold cWindow; (try simp only []); (repeat' split); all_goals first | rfl | contradiction | omega | (exfalso; simp only [Int32.lt_iff_toInt_lt, Int32.le_iff_toInt_le] at *; omega))) rfl hV173)
                      · refine r_aload_n (q := 97) dX6_window_96 rfl rfl ?_
                        refine r_bipush (q := 99) (v := -6) dX6_window_97 rfl (by decide) ?_
                        refine r_cI1 (q := 102) vX6_111 dX6_window_99 rfl LYX6 rfl (Nat.le_of_ble_eq_true rfl) (by decide) (by decide) (c_X6_refuse _ V hV (-6) 6 rfl (by decide)) ?_
                        rintro _ τ ⟨rfl, hR⟩
                        exact r_retI dX6_window_102 (eo_bad (by first | (simp [cWindow, *]; done) | (unfold cWindow; (try simp only []); (repeat' split); all_goals first | rfl | contradiction | omega | (exfalso; simp only [Int32.lt_iff_toInt_lt, Int32.le_iff_toInt_le] at *; omega))) (by decide) hR)
            · refine r_aload_n (q := 43) dX6_window_42 rfl rfl ?_
              refine r_bipush (q := 45) (v := -4) dX6_window_43 rfl (by decide) ?_
              refine r_cI1 (q := 48) vX6_111 dX6_window_45 rfl LYX6 rfl (Nat.le_of_ble_eq_true rfl) (by decide) (by decide) (c_X6_refuse _ V hV (-4) 4 rfl (by decide)) ?_
              rintro _ τ ⟨rfl, hR⟩
              exact r_retI dX6_window_48 (eo_bad (by first | (simp [cWindow, *]; done) | (unfold cWindow; (try simp only []); (repeat' split); all_goals first | rfl | contradiction | omega | (exfalso; simp only [Int32.lt_iff_toInt_lt, Int32.le_iff_toInt_le] at *; omega))) (by decide) hR)
  · refine r_aload_n (q := 10) dX6_window_9 rfl rfl ?_
    refine r_bipush (q := 12) (v := -2) dX6_window_10 rfl (by decide) ?_
    refine r_cI1 (q := 15) vX6_111 dX6_window_12 rfl LYX6 rfl (Nat.le_of_ble_eq_true rfl) (by decide) (by decide) (c_X6_refuse _ V hV (-2) 2 rfl (by decide)) ?_
    rintro _ τ ⟨rfl, hR⟩
    exact r_retI dX6_window_15 (eo_bad (by first | (simp [cWindow, *]; done) | (unfold cWindow; (try simp only []); (repeat' split); all_goals first | rfl | contradiction | omega | (exfalso; simp only [Int32.lt_iff_toInt_lt, Int32.le_iff_toInt_le] at *; omega))) (by decide) hR)
set_option maxRecDepth 100000 in
set_option maxHeartbeats 4000000 in
theorem c_X6_part (σ V : St) (hV : vw σ = V) (hI : InvN V) (e : Int32) : Cl LAY yX6_part cX6_part 3 (some .int) 1 21 [.ref 33, .int e] σ (EI (fun v τ => v = resO (cPart e) (nI (nv V 33 5)) ∧ vw τ = stO (cPart e) (wr V 33 5 e) (rfM V (cPart e)))) := by
  refine Cl.of 1 rfl rfl EI.ok ?_
  show Rn LAY none RX6 _ _ _ _ 0 [some (.ref 33), some (.int e), none] [] _ _
  refine r_iload_n (q := 1) dX6_part_0 rfl rfl ?_
  refine r_iconst (q := 2) (v := nI 1) dX6_part_1 rfl (by decide) ?_
  refine r_icmp_ge (t := 12) (q := 5) dX6_part_2 (by decide) rfl (fun c2 => ?_) (fun c2 => ?_)
  · refine r_iload_n (q := 13) dX6_part_12 rfl rfl ?_
    refine r_bipush (q := 15) (v := nI 8) dX6_part_13 rfl (by decide) ?_
    refine r_icmp_le (t := 25) (q := 18) dX6_part_15 (by decide) rfl (fun c15 => ?_) (fun c15 => ?_)
    · refine r_aload_n (q := 26) dX6_part_25 rfl rfl ?_
      refine gvX6_25 (q := 29) hV hI dX6_part_26 rfl ?_
      refine r_istore_n (q := 30) dX6_part_29 rfl (Nat.le_of_ble_eq_true rfl) ?_
      refine r_aload_n (q := 31) dX6_part_30 rfl rfl ?_
      refine r_iload_n (q := 32) dX6_part_31 rfl rfl ?_
      refine ppX6_25 (q := 35) hV dX6_part_32 rfl (fun s32 hV32 => ?_)
      refine r_iload_n (q := 36) dX6_part_35 rfl rfl ?_
      exact r_retI dX6_part_36 (eo_ok (by first | (simp [cPart, *]; done) | (unfold cPart; (try simp only []); (repeat' split); all_goals first | rfl | contradiction | omega | (exfalso; simp only [Int32.lt_iff_toInt_lt, Int32.le_iff_toInt_le] at *; omega))) rfl hV32)
    · refine r_aload_n (q := 19) dX6_part_18 rfl rfl ?_
      refine r_bipush (q := 21) (v := -6) dX6_part_19 rfl (by decide) ?_
      refine r_cI1 (q := 24) vX6_111 dX6_part_21 rfl LYX6 rfl (Nat.le_of_ble_eq_true rfl) (by decide) (by decide) (c_X6_refuse _ V hV (-6) 6 rfl (by decide)) ?_
      rintro _ τ ⟨rfl, hR⟩
      exact r_retI dX6_part_24 (eo_bad (by first | (simp [cPart, *]; done) | (unfold cPart; (try simp only []); (repeat' split); all_goals first | rfl | contradiction | omega | (exfalso; simp only [Int32.lt_iff_toInt_lt, Int32.le_iff_toInt_le] at *; omega))) (by decide) hR)
  · refine r_aload_n (q := 6) dX6_part_5 rfl rfl ?_
    refine r_bipush (q := 8) (v := -4) dX6_part_6 rfl (by decide) ?_
    refine r_cI1 (q := 11) vX6_111 dX6_part_8 rfl LYX6 rfl (Nat.le_of_ble_eq_true rfl) (by decide) (by decide) (c_X6_refuse _ V hV (-4) 4 rfl (by decide)) ?_
    rintro _ τ ⟨rfl, hR⟩
    exact r_retI dX6_part_11 (eo_bad (by first | (simp [cPart, *]; done) | (unfold cPart; (try simp only []); (repeat' split); all_goals first | rfl | contradiction | omega | (exfalso; simp only [Int32.lt_iff_toInt_lt, Int32.le_iff_toInt_le] at *; omega))) (by decide) hR)
set_option maxRecDepth 100000 in
set_option maxHeartbeats 4000000 in
theorem c_X6_law (σ V : St) (hV : vw σ = V) (hI : InvN V) (d e : Int32) : Cl LAY yX6_law cX6_law 4 (some .int) 2 42 [.ref 33, .int d, .int e] σ (EI (fun v τ => v = resO (cLaw d e) (nI (nv V 38 d.toNatClampNeg)) ∧ vw τ = stO (cLaw d e) (wr V 38 d.toNatClampNeg e) (rfM V (cLaw d e)))) := by
  refine Cl.of 1 rfl rfl EI.ok ?_
  show Rn LAY none RX6 _ _ _ _ 0 [some (.ref 33), some (.int d), some (.int e), none] [] _ _
  refine r_iload_n (q := 1) dX6_law_0 rfl rfl ?_
  refine r_sI1 (q := 4) vX6_107 dX6_law_1 rfl (Nat.le_of_ble_eq_true rfl) (by decide) (by decide) (c_X6_isDay _ _) ?_
  rintro _ _ ⟨rfl, rfl⟩
  refine r_if_neN (t := 13) (q := 7) dX6_law_4 (by decide) rfl (by have := ix_le d 8; omega) (fun c4 => ?_) (fun c4 => ?_)
  · obtain ⟨d, hd, rfl⟩ := ix_of c4
    have hdc := nI_clamp (n := d) (by omega)
    refine r_iload_n (q := 14) dX6_law_13 rfl rfl ?_
    refine r_if_ge (t := 24) (q := 17) dX6_law_14 (by decide) rfl (fun c14 => ?_) (fun c14 => ?_)
    · refine r_iload_n (q := 25) dX6_law_24 rfl rfl ?_
      refine r_bipush (q := 27) (v := nI 24) dX6_law_25 rfl (by decide) ?_
      refine r_icmp_le (t := 37) (q := 30) dX6_law_27 (by decide) rfl (fun c27 => ?_) (fun c27 => ?_)
      · refine r_aload_n (q := 38) dX6_law_37 rfl rfl ?_
        refine gX6_22 (q := 41) dX6_law_38 rfl ?_
        refine r_iload_n (q := 42) dX6_law_41 rfl rfl ?_
        refine r_ialdV (q := 43) hV hI dX6_law_42 rfl LA38 rfl rfl (by decide) (by omega) ?_
        refine r_istore_n (q := 44) dX6_law_43 rfl (Nat.le_of_ble_eq_true rfl) ?_
        refine r_aload_n (q := 45) dX6_law_44 rfl rfl ?_
        refine gX6_22 (q := 48) dX6_law_45 rfl ?_
        refine r_iload_n (q := 49) dX6_law_48 rfl rfl ?_
        refine r_iload_n (q := 50) dX6_law_49 rfl rfl ?_
        refine r_iastP (q := 51) hV dX6_law_50 rfl LA38 rfl (by omega) (by decide) (fun s50 hV50 => ?_)
        refine r_iload_n (q := 52) dX6_law_51 rfl rfl ?_
        exact r_retI dX6_law_52 (eo_ok (by first | (simp [cLaw, *]; done) | (unfold cLaw; (try simp only [hdc]); (repeat' split); all_goals first | rfl | contradiction | omega | (exfalso; simp only [Int32.lt_iff_toInt_lt, Int32.le_iff_toInt_le] at *; omega))) (by rw [hdc]) (by rw [hdc]; exact hV50))
      · refine r_aload_n (q := 31) dX6_law_30 rfl rfl ?_
        refine r_bipush (q := 33) (v := -6) dX6_law_31 rfl (by decide) ?_
        refine r_cI1 (q := 36) vX6_111 dX6_law_33 rfl LYX6 rfl (Nat.le_of_ble_eq_true rfl) (by decide) (by decide) (c_X6_refuse _ V hV (-6) 6 rfl (by decide)) ?_
        rintro _ τ ⟨rfl, hR⟩
        exact r_retI dX6_law_36 (eo_bad (by first | (simp [cLaw, *]; done) | (unfold cLaw; (try simp only [hdc]); (repeat' split); all_goals first | rfl | contradiction | omega | (exfalso; simp only [Int32.lt_iff_toInt_lt, Int32.le_iff_toInt_le] at *; omega))) (by decide) hR)
    · refine r_aload_n (q := 18) dX6_law_17 rfl rfl ?_
      refine r_bipush (q := 20) (v := -4) dX6_law_18 rfl (by decide) ?_
      refine r_cI1 (q := 23) vX6_111 dX6_law_20 rfl LYX6 rfl (Nat.le_of_ble_eq_true rfl) (by decide) (by decide) (c_X6_refuse _ V hV (-4) 4 rfl (by decide)) ?_
      rintro _ τ ⟨rfl, hR⟩
      exact r_retI dX6_law_23 (eo_bad (by first | (simp [cLaw, *]; done) | (unfold cLaw; (try simp only [hdc]); (repeat' split); all_goals first | rfl | contradiction | omega | (exfalso; simp only [Int32.lt_iff_toInt_lt, Int32.le_iff_toInt_le] at *; omega))) (by decide) hR)
  · refine r_aload_n (q := 8) dX6_law_7 rfl rfl ?_
    refine r_iconst (q := 9) (v := -1) dX6_law_8 rfl (by decide) ?_
    refine r_cI1 (q := 12) vX6_111 dX6_law_9 rfl LYX6 rfl (Nat.le_of_ble_eq_true rfl) (by decide) (by decide) (c_X6_refuse _ V hV (-1) 1 rfl (by decide)) ?_
    rintro _ τ ⟨rfl, hR⟩
    exact r_retI dX6_law_12 (eo_bad (by first | (simp [cLaw, *]; done) | (unfold cLaw; (try simp only [hdc]); (repeat' split); all_goals first | rfl | contradiction | omega | (exfalso; simp only [Int32.lt_iff_toInt_lt, Int32.le_iff_toInt_le] at *; omega))) (by decide) hR)
theorem lack_cases (V : St) (x : Int32) : lack V x = 0 ∨ lack V x = -1 ∨ lack V x = -2 ∨ lack V x = -3 := by
  unfold lack
  (repeat' split)
  all_goals simp
theorem lack_0 {V : St} {x : Int32} (h : lack V x = 0) : ¬ ix x (nv V 33 7) = 0 ∧ nv V 39 x.toNatClampNeg = 3 ∧ nv V 49 x.toNatClampNeg = 0 ∧ nv V 48 x.toNatClampNeg = 0 := by
  unfold lack at h
  revert h
  (repeat' split)
  all_goals intro h
  all_goals first | (exfalso; revert h; decide) | exact ⟨by assumption, by assumption, by assumption, by assumption⟩
theorem lack_neg {V : St} {x : Int32} (h : ¬ 0 ≤ lack V x) : ∃ j, j < 7 ∧ -lack V x = nI j ∧ lack V x ≠ 0 := by
  rcases lack_cases V x with e | e | e | e <;> rw [e] at h ⊢
  · exact absurd (by decide) h
  · exact ⟨1, by decide, by decide, by decide⟩
  · exact ⟨2, by decide, by decide, by decide⟩
  · exact ⟨3, by decide, by decide, by decide⟩
theorem lack_pos {V : St} {x : Int32} (h : 0 ≤ lack V x) : lack V x = 0 := by
  rcases lack_cases V x with e | e | e | e
  · exact e
  all_goals (rw [e] at h; exact absurd h (by decide))
set_option maxRecDepth 100000 in
set_option maxHeartbeats 4000000 in
theorem c_X6_build (σ V : St) (hV : vw σ = V) (hI : InvN V) (b : Int32) : Cl LAY yX6_build cX6_build 3 (some .int) 3 64 [.ref 33, .int b] σ (EI (fun v τ => v = resO (lack V b) (nI 1) ∧ vw τ = stO (lack V b) (wr V 48 b.toNatClampNeg (nI 1)) (rfM V (lack V b)))) := by
  have hnb := bd hI 33 7 40 rfl rfl
  refine Cl.of 1 rfl rfl EI.ok ?_
  show Rn LAY none RX6 _ _ _ _ 0 [some (.ref 33), some (.int b), none] [] _ _
  refine r_aload_n (q := 1) dX6_build_0 rfl rfl ?_
  refine r_iload_n (q := 2) dX6_build_1 rfl rfl ?_
  refine r_cI1 (q := 5) vX6_118 dX6_build_2 rfl LYX6 rfl (Nat.le_of_ble_eq_true rfl) (by decide) (by decide) (c_X6_lackOfPlan _ V hV hI _) ?_
  rintro _ _ ⟨rfl, rfl⟩
  refine r_istore_n (q := 6) dX6_build_5 rfl (Nat.le_of_ble_eq_true rfl) ?_
  refine r_iload_n (q := 7) dX6_build_6 rfl rfl ?_
  refine r_if_ge (t := 16) (q := 10) dX6_build_7 (by decide) rfl (fun c7 => ?_) (fun c7 => ?_)
  · have h0 := lack_pos c7
    obtain ⟨h1, h2, h3, h4⟩ := lack_0 h0
    obtain ⟨b, hb, rfl⟩ := ix_of h1
    have hbc := nI_clamp (n := b) (by omega)
    refine r_aload_n (q := 17) dX6_build_16 rfl rfl ?_
    refine gX6_56 (q := 20) dX6_build_17 rfl ?_
    refine r_iload_n (q := 21) dX6_build_20 rfl rfl ?_
    refine r_iconst (q := 22) (v := nI 1) dX6_build_21 rfl (by decide) ?_
    refine r_zastP (q := 23) hV dX6_build_22 rfl LA48 rfl (by omega) (by decide) (Or.inr rfl) (fun s22 hV22 => ?_)
    refine r_iconst (q := 24) (v := nI 1) dX6_build_23 rfl (by decide) ?_
    exact r_retI dX6_build_24 (eo_ok h0 rfl (by rw [hbc]; exact hV22))
  · obtain ⟨j, hj7, hj, hne⟩ := lack_neg c7
    refine r_aload_n (q := 11) dX6_build_10 rfl rfl ?_
    refine r_iload_n (q := 12) dX6_build_11 rfl rfl ?_
    refine r_cI1 (q := 15) vX6_111 dX6_build_12 rfl LYX6 rfl (Nat.le_of_ble_eq_true rfl) (by decide) (by decide) (c_X6_refuse _ V hV _ j hj hj7) ?_
    rintro _ τ ⟨rfl, hR⟩
    exact r_retI dX6_build_15 (eo_bad rfl hne hR)
end
section
/-! ===== what light depends on ===== -/
def GEo (V V' : St) : Prop := V' 33 5 = V 33 5 ∧ V' 33 7 = V 33 7 ∧ V' 33 29 = V 33 29 ∧ V' 33 30 = V 33 30 ∧ V' 34 = V 34 ∧ V' 35 = V 35 ∧ V' 36 = V 36 ∧ V' 37 = V 37 ∧ V' 39 = V 39 ∧ V' 40 = V 40 ∧ V' 41 = V 41 ∧ V' 42 = V 42 ∧ V' 43 = V 43 ∧ V' 44 = V 44 ∧ V' 45 = V 45 ∧ V' 47 = V 47 ∧ V' 48 = V 48 ∧ V' 49 = V 49
def GEw (V V' : St) (w : Nat) : Prop := V' 50 w = V 50 w ∧ V' 51 w = V 51 w ∧ V' 52 w = V 52 w ∧ V' 53 w = V 53 w ∧ V' 54 w = V 54 w ∧ V' 55 w = V 55 w
theorem GEo.rf (V : St) : GEo V V := by
  unfold GEo
  simp
theorem GEw.rf (V : St) (w : Nat) : GEw V V w := by
  unfold GEw
  simp
section CONGR
variable {V V' : St} {w : Nat}
theorem cls_c (h : GEw V V' w) : cls V' w = cls V w := by
  obtain ⟨h1, h2, h3, h4, h5, h6⟩ := h
  simp only [cls, nv, h3, h4, h5, h6]
theorem front_c (ho : GEo V V') (h : GEw V V' w) (k : Nat) : front V' w k = front V w k := by
  obtain ⟨o1, o2, o3, o4, o5, o6, o7, o8, o9, o10, o11, o12, o13, o14, o15, o16, o17, o18⟩ := ho
  obtain ⟨h1, h2, h3, h4, h5, h6⟩ := h
  unfold front nv
  rw [h1, o6, o7]
theorem topT_c (ho : GEo V V') (b : Nat) : topT V' b = topT V b := by
  obtain ⟨o1, o2, o3, o4, o5, o6, o7, o8, o9, o10, o11, o12, o13, o14, o15, o16, o17, o18⟩ := ho
  unfold topT nv
  rw [o3, o4, o15]
theorem pt_c (h : GEw V V' w) (c : Nat) : ptX V' w c = ptX V w c ∧ ptY V' w c = ptY V w c ∧ ptZ V' w c = ptZ V w c := by
  obtain ⟨h1, h2, h3, h4, h5, h6⟩ := h
  unfold ptX ptY ptZ ptU nv
  rw [h1, h2, h3, h4, h5]
  exact ⟨rfl, rfl, rfl⟩
theorem lowP_c (ho : GEo V V') (h : GEw V V' w) (c k b t : Nat) : lowP V' w c k b t = lowP V w c k b t := by
  obtain ⟨p1, p2, p3⟩ := pt_c h c
  obtain ⟨o1, o2, o3, o4, o5, o6, o7, o8, o9, o10, o11, o12, o13, o14, o15, o16, o17, o18⟩ := ho
  simp only [lowP, p1, p2, p3, nv, o6, o7, o8, o10, o11, o12, o13, o14]
theorem highP_c (ho : GEo V V') (h : GEw V V' w) (c k b t : Nat) : highP V' w c k b t = highP V w c k b t := by
  obtain ⟨p1, p2, p3⟩ := pt_c h c
  obtain ⟨o1, o2, o3, o4, o5, o6, o7, o8, o9, o10, o11, o12, o13, o14, o15, o16, o17, o18⟩ := ho
  simp only [highP, p1, p2, p3, nv, o6, o7, o8, o10, o11, o12, o13, o14]
theorem outP_c (ho : GEo V V') (h : GEw V V' w) (c k b t : Nat) : outP V' w c k b t = outP V w c k b t := by
  obtain ⟨p1, p2, p3⟩ := pt_c h c
  obtain ⟨o1, o2, o3, o4, o5, o6, o7, o8, o9, o10, o11, o12, o13, o14, o15, o16, o17, o18⟩ := ho
  simp only [outP, p1, p2, p3, nv, o6, o7, o8, o10, o11, o12, o13, o14]
theorem hitn_c (ho : GEo V V') (h : GEw V V' w) (c k b t : Nat) : hitn V' w c k b t = hitn V w c k b t := by
  unfold hitn
  rw [lowP_c ho h, highP_c ho h, outP_c ho h]
theorem opq_c (ho : GEo V V') (d b : Nat) : opq V' d b = opq V d b := by
  obtain ⟨o1, o2, o3, o4, o5, o6, o7, o8, o9, o10, o11, o12, o13, o14, o15, o16, o17, o18⟩ := ho
  unfold opq there nv
  rw [o3, o9, o16, o17, o18]
theorem lightR_c (ho : GEo V V') (h : GEw V V' w) (c d k b : Nat) : lightR V' w c d k b = lightR V w c d k b := by
  induction b with
  | zero => rfl
  | succ b ih =>
    have o := ho
    obtain ⟨o1, o2, o3, o4, o5, o6, o7, o8, o9, o10, o11, o12, o13, o14, o15, o16, o17, o18⟩ := o
    show lightS V' w c d k b (lightR V' w c d k b) = lightS V w c d k b (lightR V w c d k b)
    rw [ih]
    unfold lightS
    rw [opq_c ho, topT_c ho, hitn_c ho h]
    unfold nv
    rw [o9, o16]
theorem lightN_c (ho : GEo V V') (h : GEw V V' w) (c d m : Nat) : lightN V' w c d m = lightN V w c d m := by
  unfold lightN nv
  rw [front_c ho h, lightR_c ho h, ho.2.1]
theorem sunR_c (ho : GEo V V') (h : GEw V V' w) (d m c : Nat) : sunR V' w d m c = sunR V w d m c := by
  induction c with
  | zero => rfl
  | succ c ih =>
    show sunR V' w d m c + lightN V' w c d m = sunR V w d m c + lightN V w c d m
    rw [ih, lightN_c ho h]
theorem litN_c (ho : GEo V V') (h : GEw V V' w) (d m : Nat) : litN V' w d m = litN V w d m := by
  unfold litN sunN nv
  rw [cls_c h, sunR_c ho h, ho.1]
theorem hoursR_c (ho : GEo V V') (h : GEw V V' w) (d m : Nat) : hoursR V' w d m = hoursR V w d m := by
  induction m with
  | zero => rfl
  | succ m ih =>
    show hoursR V' w d m + litN V' w d m = hoursR V w d m + litN V w d m
    rw [ih, litN_c ho h]
theorem hoursN_c (ho : GEo V V') (h : GEw V V' w) (d : Nat) : hoursN V' w d = hoursN V w d := by
  unfold hoursN nv
  rw [hoursR_c ho h, ho.2.2.2.2.1]
theorem fallR_c (ho : GEo V V') (h : GEw V V' w) (hl : V' 38 = V 38) (n d : Nat) : fallR V' w d n = fallR V w d n := by
  induction n generalizing d with
  | zero => rfl
  | succ n ih =>
    rw [fallR, fallR, hoursN_c ho h, ih]
    unfold nv
    rw [hl]
theorem fallI_c (ho : GEo V V') (h : GEw V V' w) (hl : V' 38 = V 38) : fallI V' w = fallI V w := fallR_c ho h hl 8 0
end CONGR
theorem fallR_cases (V : St) (w : Nat) : ∀ n d, fallR V w d n = -9 ∨ ∃ e, e < d + n ∧ fallR V w d n = nI e := by
  intro n
  induction n with
  | zero => intro d; exact Or.inl rfl
  | succ n ih =>
    intro d
    rw [fallR]
    split
    · rcases ih (d + 1) with h | ⟨e, h1, h2⟩
      · exact Or.inl h
      · exact Or.inr ⟨e, by omega, h2⟩
    · split
      · exact Or.inr ⟨d, by omega, rfl⟩
      · rcases ih (d + 1) with h | ⟨e, h1, h2⟩
        · exact Or.inl h
        · exact Or.inr ⟨e, by omega, h2⟩
theorem fallI_cases (V : St) (w : Nat) : fallI V w = -9 ∨ ∃ e, e < 8 ∧ fallI V w = nI e := by
  rcases fallR_cases V w 8 0 with h | ⟨e, h1, h2⟩
  · exact Or.inl h
  · exact Or.inr ⟨e, by omega, h2⟩
/-! ===== thought ===== -/
def thk (V : St) (b : Int32) (t : Int32) : St := wr (wr V 33 29 b) 33 30 t
theorem thk_at (V : St) (b t : Int32) (k i : Nat) (h : ¬ (k = 33 ∧ (i = 29 ∨ i = 30))) : thk V b t k i = V k i := by
  unfold thk
  rw [wr_at, wr_at, if_neg (by omega), if_neg (by omega)]
theorem thk_nv (V : St) (b t : Int32) (k i : Nat) (h : ¬ (k = 33 ∧ (i = 29 ∨ i = 30))) : nv (thk V b t) k i = nv V k i := by
  unfold nv
  rw [thk_at V b t k i h]
theorem thk_WF {V : St} (hF : WF V) (b : Int32) {t : Nat} (ht : t ≤ 200) : WF (thk V b (nI t)) := by
  obtain ⟨hI, hW, hG⟩ := hF
  refine ⟨fun k i hn => ?_, fun w => ?_, fun k => ?_, fun d m hd hm => ?_⟩
  · by_cases h : k = 33 ∧ (i = 29 ∨ i = 30)
    · obtain ⟨rfl, rfl | rfl⟩ := h
      · cases hn
      · have e : thk V b (nI t) 33 30 = nI t := by unfold thk; rw [wr_at, if_pos ⟨rfl, rfl⟩]
        have e2 : nv (thk V b (nI t)) 33 30 = t := by unfold nv; rw [e]; exact nI_clamp (by omega)
        rw [e, e2]
        exact ⟨rfl, ht⟩
    · rw [thk_nv V b _ k i h, thk_at V b _ k i h]
      exact hI k i hn
  · have := hW w
    simp only [cls, thk_nv V b (nI t) 52 w (by omega), thk_nv V b (nI t) 53 w (by omega), thk_nv V b (nI t) 54 w (by omega), thk_nv V b (nI t) 55 w (by omega), thk_nv V b (nI t) 33 19 (by omega)]
    exact this
  · rw [thk_at V b _ 35 k (by omega), thk_at V b _ 36 k (by omega)]
    exact hG.1 k
  · rw [thk_nv V b _ 34 d (by omega)] at hm
    rw [thk_nv V b _ 37 _ (by omega)]
    exact hG.2 d m hd hm
theorem thk_back {V : St} (h1 : V 33 29 = -1) (h2 : V 33 30 = nI 0) (b t : Int32) : thk (thk V b t) (-1) (nI 0) = V := by
  funext k i
  unfold thk
  rw [wr_at, wr_at, wr_at, wr_at]
  by_cases e1 : k = 33 ∧ i = 30
  · rw [if_pos e1, e1.1, e1.2, h2]
  · rw [if_neg e1]
    by_cases e2 : k = 33 ∧ i = 29
    · rw [if_pos e2, e2.1, e2.2, h1]
    · rw [if_neg e2, if_neg e1, if_neg e2]
end
section
theorem takR_lt {V : St} {w c d k b a : Nat} (h : takR V w c d k b = some a) : a < b := by
  induction b generalizing a with
  | zero => cases h
  | succ b ih =>
    have h2 : takS V w c d k b (takR V w c d k b) = some a := h
    unfold takS at h2
    split at h2
    · have := ih h2; omega
    · split at h2
      · have := ih h2; omega
      · cases ho : takR V w c d k b with
        | none => rw [ho] at h2; cases h2; omega
        | some x =>
          rw [ho] at h2
          dsimp only at h2
          have := ih ho
          split at h2 <;> cases h2 <;> omega
theorem takV_none {o : Option Nat} (hb : ∀ a, o = some a → a < 1000) (h : takV o = -9) : o = none := by
  cases o with
  | none => rfl
  | some a =>
    have h1 := hb a rfl
    have h2 : (nI a).toInt = (-9 : Int32).toInt := by rw [← h]; rfl
    rw [nI_toInt (by omega)] at h2
    have : (-9 : Int32).toInt = -9 := rfl
    omega
theorem takV_some {o : Option Nat} (h : ¬ takV o = -9) : ∃ a, o = some a := by
  cases o with
  | none => exact absurd rfl h
  | some a => exact ⟨a, rfl⟩
def PR (V : St) (w c k : Nat) (o : Option Nat) (bt bu : Int32) : Prop := ∀ a, o = some a → ∃ q, LR (bt, bu) q ∧ SL (lowP V w c k a (topT V a)) q
theorem near_key {V : St} {w c k a b : Nat} {l p : Int32 × Int32} {zl zp : Int × Int} (hl : LR l zl) (sl : SL (lowP V w c k b (topT V b)) zl) (hp : LR p zp) (sp : SL (lowP V w c k a (topT V a)) zp) : p.1 * l.2 ≤ l.1 * p.2 ↔ near V w c k b a = 0 := by
  obtain ⟨l1, l2, l3, l4, l5, l6⟩ := hl
  obtain ⟨r1, r2, r3, r4, r5, r6⟩ := hp
  have m1 := mulB (A := 1000) (B := 100) (a := zp.1) (b := zl.2) (by omega) (by omega) (by omega) (by omega)
  have m2 := mulB (A := 1000) (B := 100) (a := zl.1) (b := zp.2) (by omega) (by omega) (by omega) (by omega)
  rw [t_le (t_mul r1 l2 (by omega) (by omega)) (t_mul l1 r2 (by omega) (by omega))]
  have key := SL_lt sl sp
  unfold near
  by_cases hc : (lowP V w c k b (topT V b)).1 * (lowP V w c k a (topT V a)).2 < (lowP V w c k a (topT V a)).1 * (lowP V w c k b (topT V b)).2
  · rw [if_pos hc]
    have := key.mpr hc
    exact ⟨fun h => by omega, fun h => by omega⟩
  · rw [if_neg hc]
    have : ¬ zl.1 * zp.2 < zp.1 * zl.2 := fun h => hc (key.mp h)
    exact ⟨fun _ => rfl, fun _ => by omega⟩
set_option maxRecDepth 100000 in
set_option maxHeartbeats 4000000 in
theorem l_X6_takerOf {V : St} (hF : WF V) {w c d m k : Nat} (h20 : w < 20) (hn : w < nv V 33 19) (hc : c < cls V w) (hd : d < 8) (hk : k < 192) (hz : 1 ≤ nv V 37 k) : ∀ (n b : Nat) (σ : St) (bt bu : Int32) (z9 : Option Value), vw σ = V → shown V w c k σ → b + n = nv V 33 7 → PR V w c k (takR V w c d k b) bt bu → Rn LAY none RX6 cX6_takerOf 10 2 48 44 [some (.ref 33), some (.int (nI w)), some (.int (nI c)), some (.int (nI d)), some (.int (nI m)), some (.int (takV (takR V w c d k b))), some (.int bt), some (.int bu), some (.int (nI b)), z9] [] σ (EI (fun v τ => v = takV (takR V w c d k (nv V 33 7)) ∧ vw τ = V)) := by
  have hI := hF.1
  have hnb := bd hI 33 7 40 rfl rfl
  intro n
  induction n with
  | zero =>
    intro b σ bt bu z9 hV hs hb hpr
    refine r_iload (q := 46) dX6_takerOf_44 rfl rfl ?_
    refine r_aload_n (q := 47) dX6_takerOf_46 rfl rfl ?_
    refine gvX6_97 (q := 50) hV hI dX6_takerOf_47 rfl ?_
    refine r_icmp_geN (t := 168) (q := 53) dX6_takerOf_50 (by decide) rfl (by omega) (by have := bd hI 33 7 40 rfl rfl; omega) (fun c50 => ?_) (fun c50 => absurd (by omega) c50)
    refine r_iload (q := 170) dX6_takerOf_168 rfl rfl ?_
    exact r_retI dX6_takerOf_170 ⟨by rw [show nv V 33 7 = b by omega], hV⟩
  | succ n ih =>
    intro b σ bt bu z9 hV hs hb hpr
    refine r_iload (q := 46) dX6_takerOf_44 rfl rfl ?_
    refine r_aload_n (q := 47) dX6_takerOf_46 rfl rfl ?_
    refine gvX6_97 (q := 50) hV hI dX6_takerOf_47 rfl ?_
    refine r_icmp_geN (t := 168) (q := 53) dX6_takerOf_50 (by decide) rfl (by omega) (by have := bd hI 33 7 40 rfl rfl; omega) (fun c50 => absurd c50 (by omega)) (fun c50 => ?_)
    refine r_aload_n (q := 54) dX6_takerOf_53 rfl rfl ?_
    refine gX6_29 (q := 57) dX6_takerOf_54 rfl ?_
    refine r_iload (q := 59) dX6_takerOf_57 rfl rfl ?_
    refine r_ialdV (q := 60) hV hI dX6_takerOf_59 rfl LA39 rfl rfl (by decide) (by omega) ?_
    refine r_iconst (q := 61) (v := nI 2) dX6_takerOf_60 rfl (by decide) ?_
    refine r_icmp_eqN (t := 92) (q := 64) dX6_takerOf_61 (by decide) rfl (by have := bd hI 39 b 3 rfl rfl; omega) (by omega) (fun c61 => ?_) (fun c61 => ?_)
    · refine r_iconst (q := 93) (v := nI 1) dX6_takerOf_92 rfl (by decide) ?_
      refine r_goto (q := 97) dX6_takerOf_93 (by decide) ?_
      refine r_istore (q := 99) dX6_takerOf_97 rfl (Nat.le_of_ble_eq_true rfl) ?_
      refine r_iload (q := 101) dX6_takerOf_99 rfl rfl ?_
      refine r_if_neN (t := 162) (q := 104) dX6_takerOf_101 (by decide) rfl (by omega) (fun c101 => ?_) (fun c101 => absurd c101 (by decide))
      refine r_iinc (q := 165) (v := nI (b + 1)) dX6_takerOf_162 rfl rfl (by rw [show Int32.ofInt 1 = nI 1 from rfl]; exact nI_add _ _) ?_
      refine r_goto (q := 44) dX6_takerOf_165 (by decide) ?_
      have h8 := bd hI 47 (8 * b + d) 8 rfl rfl
      have e : takR V w c d k (b + 1) = takR V w c d k b := by
        show takS V w c d k b (takR V w c d k b) = _
        simp only [takS, opq]; (repeat' split); all_goals first | rfl | contradiction | omega | (exfalso; omega)
      have ih2 := ih (b + 1) _ bt bu (some (.int (nI 1))) hV hs (by omega) (by rw [e]; exact hpr)
      rw [e] at ih2
      exact ih2
    · refine r_aload_n (q := 65) dX6_takerOf_64 rfl rfl ?_
      refine gX6_29 (q := 68) dX6_takerOf_65 rfl ?_
      refine r_iload (q := 70) dX6_takerOf_68 rfl rfl ?_
      refine r_ialdV (q := 71) hV hI dX6_takerOf_70 rfl LA39 rfl rfl (by decide) (by omega) ?_
      refine r_iconst (q := 72) (v := nI 1) dX6_takerOf_71 rfl (by decide) ?_
      refine r_icmp_neN (t := 96) (q := 75) dX6_takerOf_72 (by decide) rfl (by have := bd hI 39 b 3 rfl rfl; omega) (by omega) (fun c72 => ?_) (fun c72 => ?_)
      · refine r_iconst (q := 97) (v := nI 0) dX6_takerOf_96 rfl (by decide) ?_
        refine r_istore (q := 99) dX6_takerOf_97 rfl (Nat.le_of_ble_eq_true rfl) ?_
        refine r_iload (q := 101) dX6_takerOf_99 rfl rfl ?_
        refine r_if_neN (t := 162) (q := 104) dX6_takerOf_101 (by decide) rfl (by omega) (fun c101 => absurd rfl c101) (fun c101 => ?_)
        refine r_aload_n (q := 105) dX6_takerOf_104 rfl rfl ?_
        refine r_iload (q := 107) dX6_takerOf_105 rfl rfl ?_
        refine r_cI1 (q := 110) vX6_173 dX6_takerOf_107 rfl LYX6 rfl (Nat.le_of_ble_eq_true rfl) (by decide) (by decide) (c_X6_isThere _ V hV hI b (by omega)) ?_
        rintro _ _ ⟨rfl, rfl⟩
        refine r_if_eqN (t := 162) (q := 113) dX6_takerOf_110 (by decide) rfl (by have := there_le V b; omega) (fun c110 => ?_) (fun c110 => ?_)
        · refine r_iinc (q := 165) (v := nI (b + 1)) dX6_takerOf_162 rfl rfl (by rw [show Int32.ofInt 1 = nI 1 from rfl]; exact nI_add _ _) ?_
          refine r_goto (q := 44) dX6_takerOf_165 (by decide) ?_
          have h8 := bd hI 47 (8 * b + d) 8 rfl rfl
          have e : takR V w c d k (b + 1) = takR V w c d k b := by
            show takS V w c d k b (takR V w c d k b) = _
            simp only [takS, opq]; (repeat' split); all_goals first | rfl | contradiction | omega | (exfalso; omega)
          have ih2 := ih (b + 1) _ bt bu (some (.int (nI 0))) hV hs (by omega) (by rw [e]; exact hpr)
          rw [e] at ih2
          exact ih2
        · refine r_aload_n (q := 114) dX6_takerOf_113 rfl rfl ?_
          refine r_iload (q := 116) dX6_takerOf_114 rfl rfl ?_
          refine r_cI1 (q := 119) vX6_176 dX6_takerOf_116 rfl LYX6 rfl (Nat.le_of_ble_eq_true rfl) (by decide) (by decide) (c_X6_stands _ V hV hI w c k b hs (by omega)) ?_
          rintro _ τ ⟨rfl, hV1, o1, hl1⟩
          rw [sHit_eq hF _ hn hc hz]
          have hs1 := o1.shown hs
          obtain ⟨q, hq1, hq2⟩ := sLow_t hF (k := k) (b := b) hn hc
          have a1 : τ 33 31 = (sLow V w c k b).1 := congrArg Prod.fst hl1
          have a2 : τ 33 32 = (sLow V w c k b).2 := congrArg Prod.snd hl1
          refine r_if_eqN (t := 162) (q := 122) dX6_takerOf_119 (by decide) rfl (by have := hitn_le V w c k b (topT V b); omega) (fun c119 => ?_) (fun c119 => ?_)
          · refine r_iinc (q := 165) (v := nI (b + 1)) dX6_takerOf_162 rfl rfl (by rw [show Int32.ofInt 1 = nI 1 from rfl]; exact nI_add _ _) ?_
            refine r_goto (q := 44) dX6_takerOf_165 (by decide) ?_
            have h8 := bd hI 47 (8 * b + d) 8 rfl rfl
            have e : takR V w c d k (b + 1) = takR V w c d k b := by
              show takS V w c d k b (takR V w c d k b) = _
              simp only [takS, opq]; (repeat' split); all_goals first | rfl | contradiction | omega | (exfalso; omega)
            have ih2 := ih (b + 1) _ bt bu (some (.int (nI 0))) hV1 hs1 (by omega) (by rw [e]; exact hpr)
            rw [e] at ih2
            exact ih2
          · refine r_iload (q := 124) dX6_takerOf_122 rfl rfl ?_
            refine r_bipush (q := 126) (v := -9) dX6_takerOf_124 rfl (by decide) ?_
            refine r_icmp_eq (t := 146) (q := 129) dX6_takerOf_126 (by decide) rfl (fun c126 => ?_) (fun c126 => ?_)
            · have ho := takV_none (fun x hx => by have := takR_lt hx; omega) c126
              refine r_iload (q := 148) dX6_takerOf_146 rfl rfl ?_
              refine r_istore (q := 150) dX6_takerOf_148 rfl (Nat.le_of_ble_eq_true rfl) ?_
              refine r_aload_n (q := 151) dX6_takerOf_150 rfl rfl ?_
              refine gX6_149 (q := 154) dX6_takerOf_151 rfl ?_
              refine r_as a1 ?_
              refine r_istore (q := 156) dX6_takerOf_154 rfl (Nat.le_of_ble_eq_true rfl) ?_
              refine r_aload_n (q := 157) dX6_takerOf_156 rfl rfl ?_
              refine gX6_146 (q := 160) dX6_takerOf_157 rfl ?_
              refine r_as a2 ?_
              refine r_istore (q := 162) dX6_takerOf_160 rfl (Nat.le_of_ble_eq_true rfl) ?_
              refine r_iinc (q := 165) (v := nI (b + 1)) dX6_takerOf_162 rfl rfl (by rw [show Int32.ofInt 1 = nI 1 from rfl]; exact nI_add _ _) ?_
              refine r_goto (q := 44) dX6_takerOf_165 (by decide) ?_
              have h8 := bd hI 47 (8 * b + d) 8 rfl rfl
              have hop : opq V d b = 1 := by simp only [opq]; (repeat' split); all_goals first | rfl | contradiction | omega | (exfalso; omega)
              have e : takR V w c d k (b + 1) = some b := by
                show takS V w c d k b (takR V w c d k b) = _
                unfold takS
                rw [if_neg (by omega), if_neg c119, ho]
              have hpr2 : PR V w c k (takR V w c d k (b + 1)) (sLow V w c k b).1 (sLow V w c k b).2 := by
                rw [e]
                intro y hy
                cases hy
                exact ⟨q, hq1, hq2⟩
              have ih2 := ih (b + 1) _ _ _ (some (.int (nI 0))) hV1 hs1 (by omega) hpr2
              rw [e] at ih2
              exact ih2
            · obtain ⟨x, ho⟩ := takV_some c126
              obtain ⟨q2, hp1, hp2⟩ := hpr x ho
              refine r_aload_n (q := 130) dX6_takerOf_129 rfl rfl ?_
              refine gX6_149 (q := 133) dX6_takerOf_130 rfl ?_
              refine r_as a1 ?_
              refine r_iload (q := 135) dX6_takerOf_133 rfl rfl ?_
              refine r_imul (q := 136) dX6_takerOf_135 rfl ?_
              refine r_iload (q := 138) dX6_takerOf_136 rfl rfl ?_
              refine r_aload_n (q := 139) dX6_takerOf_138 rfl rfl ?_
              refine gX6_146 (q := 142) dX6_takerOf_139 rfl ?_
              refine r_as a2 ?_
              refine r_imul (q := 143) dX6_takerOf_142 rfl ?_
              refine r_icmp_ge (t := 162) (q := 146) dX6_takerOf_143 (by decide) rfl (fun c143 => ?_) (fun c143 => ?_)
              · refine r_iinc (q := 165) (v := nI (b + 1)) dX6_takerOf_162 rfl rfl (by rw [show Int32.ofInt 1 = nI 1 from rfl]; exact nI_add _ _) ?_
                refine r_goto (q := 44) dX6_takerOf_165 (by decide) ?_
                have h8 := bd hI 47 (8 * b + d) 8 rfl rfl
                have hop : opq V d b = 1 := by simp only [opq]; (repeat' split); all_goals first | rfl | contradiction | omega | (exfalso; omega)
                have e : takR V w c d k (b + 1) = takR V w c d k b := by
                  show takS V w c d k b (takR V w c d k b) = _
                  unfold takS
                  rw [if_neg (by omega), if_neg c119, ho]
                  show (if near V w c k b x = 0 then some x else some b) = _
                  rw [if_pos ((near_key hq1 hq2 hp1 hp2).mp c143)]
                have ih2 := ih (b + 1) _ bt bu (some (.int (nI 0))) hV1 hs1 (by omega) (by rw [e]; exact hpr)
                rw [e] at ih2
                exact ih2
              · refine r_iload (q := 148) dX6_takerOf_146 rfl rfl ?_
                refine r_istore (q := 150) dX6_takerOf_148 rfl (Nat.le_of_ble_eq_true rfl) ?_
                refine r_aload_n (q := 151) dX6_takerOf_150 rfl rfl ?_
                refine gX6_149 (q := 154) dX6_takerOf_151 rfl ?_
                refine r_as a1 ?_
                refine r_istore (q := 156) dX6_takerOf_154 rfl (Nat.le_of_ble_eq_true rfl) ?_
                refine r_aload_n (q := 157) dX6_takerOf_156 rfl rfl ?_
                refine gX6_146 (q := 160) dX6_takerOf_157 rfl ?_
                refine r_as a2 ?_
                refine r_istore (q := 162) dX6_takerOf_160 rfl (Nat.le_of_ble_eq_true rfl) ?_
                refine r_iinc (q := 165) (v := nI (b + 1)) dX6_takerOf_162 rfl rfl (by rw [show Int32.ofInt 1 = nI 1 from rfl]; exact nI_add _ _) ?_
                refine r_goto (q := 44) dX6_takerOf_165 (by decide) ?_
                have h8 := bd hI 47 (8 * b + d) 8 rfl rfl
                have hop : opq V d b = 1 := by simp only [opq]; (repeat' split); all_goals first | rfl | contradiction | omega | (exfalso; omega)
                have e : takR V w c d k (b + 1) = some b := by
                  show takS V w c d k b (takR V w c d k b) = _
                  unfold takS
                  rw [if_neg (by omega), if_neg c119, ho]
                  show (if near V w c k b x = 0 then some x else some b) = _
                  rw [if_neg (fun h => c143 ((near_key hq1 hq2 hp1 hp2).mpr h))]
                have hpr2 : PR V w c k (takR V w c d k (b + 1)) (sLow V w c k b).1 (sLow V w c k b).2 := by
                  rw [e]
                  intro y hy
                  cases hy
                  exact ⟨q, hq1, hq2⟩
                have ih2 := ih (b + 1) _ _ _ (some (.int (nI 0))) hV1 hs1 (by omega) hpr2
                rw [e] at ih2
                exact ih2
      · refine r_aload_n (q := 76) dX6_takerOf_75 rfl rfl ?_
        refine gX6_53 (q := 79) dX6_takerOf_76 rfl ?_
        refine r_bipush (q := 81) (v := nI 8) dX6_takerOf_79 rfl (by decide) ?_
        refine r_iload (q := 83) dX6_takerOf_81 rfl rfl ?_
        refine r_imulN (q := 84) dX6_takerOf_83 rfl ?_
        refine r_iload_n (q := 85) dX6_takerOf_84 rfl rfl ?_
        refine r_iaddN (q := 86) dX6_takerOf_85 rfl ?_
        refine r_ialdV (q := 87) hV hI dX6_takerOf_86 rfl LA47 rfl rfl (by decide) (by omega) ?_
        refine r_bipush (q := 89) (v := nI 8) dX6_takerOf_87 rfl (by decide) ?_
        refine r_icmp_neN (t := 96) (q := 92) dX6_takerOf_89 (by decide) rfl (by have := bd hI 47 (((8 * b) + d)) 8 rfl rfl; omega) (by omega) (fun c89 => ?_) (fun c89 => ?_)
        · refine r_iconst (q := 97) (v := nI 0) dX6_takerOf_96 rfl (by decide) ?_
          refine r_istore (q := 99) dX6_takerOf_97 rfl (Nat.le_of_ble_eq_true rfl) ?_
          refine r_iload (q := 101) dX6_takerOf_99 rfl rfl ?_
          refine r_if_neN (t := 162) (q := 104) dX6_takerOf_101 (by decide) rfl (by omega) (fun c101 => absurd rfl c101) (fun c101 => ?_)
          refine r_aload_n (q := 105) dX6_takerOf_104 rfl rfl ?_
          refine r_iload (q := 107) dX6_takerOf_105 rfl rfl ?_
          refine r_cI1 (q := 110) vX6_173 dX6_takerOf_107 rfl LYX6 rfl (Nat.le_of_ble_eq_true rfl) (by decide) (by decide) (c_X6_isThere _ V hV hI b (by omega)) ?_
          rintro _ _ ⟨rfl, rfl⟩
          refine r_if_eqN (t := 162) (q := 113) dX6_takerOf_110 (by decide) rfl (by have := there_le V b; omega) (fun c110 => ?_) (fun c110 => ?_)
          · refine r_iinc (q := 165) (v := nI (b + 1)) dX6_takerOf_162 rfl rfl (by rw [show Int32.ofInt 1 = nI 1 from rfl]; exact nI_add _ _) ?_
            refine r_goto (q := 44) dX6_takerOf_165 (by decide) ?_
            have h8 := bd hI 47 (8 * b + d) 8 rfl rfl
            have e : takR V w c d k (b + 1) = takR V w c d k b := by
              show takS V w c d k b (takR V w c d k b) = _
              simp only [takS, opq]; (repeat' split); all_goals first | rfl | contradiction | omega | (exfalso; omega)
            have ih2 := ih (b + 1) _ bt bu (some (.int (nI 0))) hV hs (by omega) (by rw [e]; exact hpr)
            rw [e] at ih2
            exact ih2
          · refine r_aload_n (q := 114) dX6_takerOf_113 rfl rfl ?_
            refine r_iload (q := 116) dX6_takerOf_114 rfl rfl ?_
            refine r_cI1 (q := 119) vX6_176 dX6_takerOf_116 rfl LYX6 rfl (Nat.le_of_ble_eq_true rfl) (by decide) (by decide) (c_X6_stands _ V hV hI w c k b hs (by omega)) ?_
            rintro _ τ ⟨rfl, hV1, o1, hl1⟩
            rw [sHit_eq hF _ hn hc hz]
            have hs1 := o1.shown hs
            obtain ⟨q, hq1, hq2⟩ := sLow_t hF (k := k) (b := b) hn hc
            have a1 : τ 33 31 = (sLow V w c k b).1 := congrArg Prod.fst hl1
            have a2 : τ 33 32 = (sLow V w c k b).2 := congrArg Prod.snd hl1
            refine r_if_eqN (t := 162) (q := 122) dX6_takerOf_119 (by decide) rfl (by have := hitn_le V w c k b (topT V b); omega) (fun c119 => ?_) (fun c119 => ?_)
            · refine r_iinc (q := 165) (v := nI (b + 1)) dX6_takerOf_162 rfl rfl (by rw [show Int32.ofInt 1 = nI 1 from rfl]; exact nI_add _ _) ?_
              refine r_goto (q := 44) dX6_takerOf_165 (by decide) ?_
              have h8 := bd hI 47 (8 * b + d) 8 rfl rfl
              have e : takR V w c d k (b + 1) = takR V w c d k b := by
                show takS V w c d k b (takR V w c d k b) = _
                simp only [takS, opq]; (repeat' split); all_goals first | rfl | contradiction | omega | (exfalso; omega)
              have ih2 := ih (b + 1) _ bt bu (some (.int (nI 0))) hV1 hs1 (by omega) (by rw [e]; exact hpr)
              rw [e] at ih2
              exact ih2
            · refine r_iload (q := 124) dX6_takerOf_122 rfl rfl ?_
              refine r_bipush (q := 126) (v := -9) dX6_takerOf_124 rfl (by decide) ?_
              refine r_icmp_eq (t := 146) (q := 129) dX6_takerOf_126 (by decide) rfl (fun c126 => ?_) (fun c126 => ?_)
              · have ho := takV_none (fun x hx => by have := takR_lt hx; omega) c126
                refine r_iload (q := 148) dX6_takerOf_146 rfl rfl ?_
                refine r_istore (q := 150) dX6_takerOf_148 rfl (Nat.le_of_ble_eq_true rfl) ?_
                refine r_aload_n (q := 151) dX6_takerOf_150 rfl rfl ?_
                refine gX6_149 (q := 154) dX6_takerOf_151 rfl ?_
                refine r_as a1 ?_
                refine r_istore (q := 156) dX6_takerOf_154 rfl (Nat.le_of_ble_eq_true rfl) ?_
                refine r_aload_n (q := 157) dX6_takerOf_156 rfl rfl ?_
                refine gX6_146 (q := 160) dX6_takerOf_157 rfl ?_
                refine r_as a2 ?_
                refine r_istore (q := 162) dX6_takerOf_160 rfl (Nat.le_of_ble_eq_true rfl) ?_
                refine r_iinc (q := 165) (v := nI (b + 1)) dX6_takerOf_162 rfl rfl (by rw [show Int32.ofInt 1 = nI 1 from rfl]; exact nI_add _ _) ?_
                refine r_goto (q := 44) dX6_takerOf_165 (by decide) ?_
                have h8 := bd hI 47 (8 * b + d) 8 rfl rfl
                have hop : opq V d b = 1 := by simp only [opq]; (repeat' split); all_goals first | rfl | contradiction | omega | (exfalso; omega)
                have e : takR V w c d k (b + 1) = some b := by
                  show takS V w c d k b (takR V w c d k b) = _
                  unfold takS
                  rw [if_neg (by omega), if_neg c119, ho]
                have hpr2 : PR V w c k (takR V w c d k (b + 1)) (sLow V w c k b).1 (sLow V w c k b).2 := by
                  rw [e]
                  intro y hy
                  cases hy
                  exact ⟨q, hq1, hq2⟩
                have ih2 := ih (b + 1) _ _ _ (some (.int (nI 0))) hV1 hs1 (by omega) hpr2
                rw [e] at ih2
                exact ih2
              · obtain ⟨x, ho⟩ := takV_some c126
                obtain ⟨q2, hp1, hp2⟩ := hpr x ho
                refine r_aload_n (q := 130) dX6_takerOf_129 rfl rfl ?_
                refine gX6_149 (q := 133) dX6_takerOf_130 rfl ?_
                refine r_as a1 ?_
                refine r_iload (q := 135) dX6_takerOf_133 rfl rfl ?_
                refine r_imul (q := 136) dX6_takerOf_135 rfl ?_
                refine r_iload (q := 138) dX6_takerOf_136 rfl rfl ?_
                refine r_aload_n (q := 139) dX6_takerOf_138 rfl rfl ?_
                refine gX6_146 (q := 142) dX6_takerOf_139 rfl ?_
                refine r_as a2 ?_
                refine r_imul (q := 143) dX6_takerOf_142 rfl ?_
                refine r_icmp_ge (t := 162) (q := 146) dX6_takerOf_143 (by decide) rfl (fun c143 => ?_) (fun c143 => ?_)
                · refine r_iinc (q := 165) (v := nI (b + 1)) dX6_takerOf_162 rfl rfl (by rw [show Int32.ofInt 1 = nI 1 from rfl]; exact nI_add _ _) ?_
                  refine r_goto (q := 44) dX6_takerOf_165 (by decide) ?_
                  have h8 := bd hI 47 (8 * b + d) 8 rfl rfl
                  have hop : opq V d b = 1 := by simp only [opq]; (repeat' split); all_goals first | rfl | contradiction | omega | (exfalso; omega)
                  have e : takR V w c d k (b + 1) = takR V w c d k b := by
                    show takS V w c d k b (takR V w c d k b) = _
                    unfold takS
                    rw [if_neg (by omega), if_neg c119, ho]
                    show (if near V w c k b x = 0 then some x else some b) = _
                    rw [if_pos ((near_key hq1 hq2 hp1 hp2).mp c143)]
                  have ih2 := ih (b + 1) _ bt bu (some (.int (nI 0))) hV1 hs1 (by omega) (by rw [e]; exact hpr)
                  rw [e] at ih2
                  exact ih2
                · refine r_iload (q := 148) dX6_takerOf_146 rfl rfl ?_
                  refine r_istore (q := 150) dX6_takerOf_148 rfl (Nat.le_of_ble_eq_true rfl) ?_
                  refine r_aload_n (q := 151) dX6_takerOf_150 rfl rfl ?_
                  refine gX6_149 (q := 154) dX6_takerOf_151 rfl ?_
                  refine r_as a1 ?_
                  refine r_istore (q := 156) dX6_takerOf_154 rfl (Nat.le_of_ble_eq_true rfl) ?_
                  refine r_aload_n (q := 157) dX6_takerOf_156 rfl rfl ?_
                  refine gX6_146 (q := 160) dX6_takerOf_157 rfl ?_
                  refine r_as a2 ?_
                  refine r_istore (q := 162) dX6_takerOf_160 rfl (Nat.le_of_ble_eq_true rfl) ?_
                  refine r_iinc (q := 165) (v := nI (b + 1)) dX6_takerOf_162 rfl rfl (by rw [show Int32.ofInt 1 = nI 1 from rfl]; exact nI_add _ _) ?_
                  refine r_goto (q := 44) dX6_takerOf_165 (by decide) ?_
                  have h8 := bd hI 47 (8 * b + d) 8 rfl rfl
                  have hop : opq V d b = 1 := by simp only [opq]; (repeat' split); all_goals first | rfl | contradiction | omega | (exfalso; omega)
                  have e : takR V w c d k (b + 1) = some b := by
                    show takS V w c d k b (takR V w c d k b) = _
                    unfold takS
                    rw [if_neg (by omega), if_neg c119, ho]
                    show (if near V w c k b x = 0 then some x else some b) = _
                    rw [if_neg (fun h => c143 ((near_key hq1 hq2 hp1 hp2).mpr h))]
                  have hpr2 : PR V w c k (takR V w c d k (b + 1)) (sLow V w c k b).1 (sLow V w c k b).2 := by
                    rw [e]
                    intro y hy
                    cases hy
                    exact ⟨q, hq1, hq2⟩
                  have ih2 := ih (b + 1) _ _ _ (some (.int (nI 0))) hV1 hs1 (by omega) hpr2
                  rw [e] at ih2
                  exact ih2
        · refine r_iconst (q := 93) (v := nI 1) dX6_takerOf_92 rfl (by decide) ?_
          refine r_goto (q := 97) dX6_takerOf_93 (by decide) ?_
          refine r_istore (q := 99) dX6_takerOf_97 rfl (Nat.le_of_ble_eq_true rfl) ?_
          refine r_iload (q := 101) dX6_takerOf_99 rfl rfl ?_
          refine r_if_neN (t := 162) (q := 104) dX6_takerOf_101 (by decide) rfl (by omega) (fun c101 => ?_) (fun c101 => absurd c101 (by decide))
          refine r_iinc (q := 165) (v := nI (b + 1)) dX6_takerOf_162 rfl rfl (by rw [show Int32.ofInt 1 = nI 1 from rfl]; exact nI_add _ _) ?_
          refine r_goto (q := 44) dX6_takerOf_165 (by decide) ?_
          have h8 := bd hI 47 (8 * b + d) 8 rfl rfl
          have e : takR V w c d k (b + 1) = takR V w c d k b := by
            show takS V w c d k b (takR V w c d k b) = _
            simp only [takS, opq]; (repeat' split); all_goals first | rfl | contradiction | omega | (exfalso; omega)
          have ih2 := ih (b + 1) _ bt bu (some (.int (nI 1))) hV hs (by omega) (by rw [e]; exact hpr)
          rw [e] at ih2
          exact ih2
set_option maxRecDepth 100000 in
set_option maxHeartbeats 4000000 in
theorem c_X6_takerOf (σ V : St) (hV : vw σ = V) (hF : WF V) (w c d m : Nat) (h20 : w < 20) (hn : w < nv V 33 19) (hc : c < cls V w) (hd : d < 8) (hm : m < nv V 34 d) : Cl LAY yX6_takerOf cX6_takerOf 10 (some .int) 2 48 [.ref 33, .int (nI w), .int (nI c), .int (nI d), .int (nI m)] σ (EI (fun v τ => v = takN V w c d m ∧ vw τ = V)) := by
  refine Cl.of 5 rfl rfl EI.ok ?_
  show Rn LAY none RX6 _ _ _ _ 0 [some (.ref 33), some (.int (nI w)), some (.int (nI c)), some (.int (nI d)), some (.int (nI m)), none, none, none, none, none] [] _ _
  have hI := hF.1
  have hmn := bd hI 34 d 24 rfl rfl
  have hz := hF.2.2.2 d m hd hm
  refine r_aload_n (q := 1) dX6_takerOf_0 rfl rfl ?_
  refine r_iload_n (q := 2) dX6_takerOf_1 rfl rfl ?_
  refine r_bipush (q := 4) (v := nI 24) dX6_takerOf_2 rfl (by decide) ?_
  refine r_iload_n (q := 5) dX6_takerOf_4 rfl rfl ?_
  refine r_imulN (q := 6) dX6_takerOf_5 rfl ?_
  refine r_iload (q := 8) dX6_takerOf_6 rfl rfl ?_
  refine r_iaddN (q := 9) dX6_takerOf_8 rfl ?_
  refine r_cI2 (q := 12) vX6_165 dX6_takerOf_9 rfl LYX6 rfl (Nat.le_of_ble_eq_true rfl) (by decide) (by decide) (c_X6_isInFront _ V hV hI w (24 * d + m) h20 (by omega)) ?_
  rintro _ _ ⟨rfl, rfl⟩
  refine r_if_neN (t := 18) (q := 15) dX6_takerOf_12 (by decide) rfl (by have := front_le V w (24 * d + m); omega) (fun c12 => ?_) (fun c12 => ?_)
  · refine r_aload_n (q := 19) dX6_takerOf_18 rfl rfl ?_
    refine r_iload_n (q := 20) dX6_takerOf_19 rfl rfl ?_
    refine r_iload_n (q := 21) dX6_takerOf_20 rfl rfl ?_
    refine r_bipush (q := 23) (v := nI 24) dX6_takerOf_21 rfl (by decide) ?_
    refine r_iload_n (q := 24) dX6_takerOf_23 rfl rfl ?_
    refine r_imulN (q := 25) dX6_takerOf_24 rfl ?_
    refine r_iload (q := 27) dX6_takerOf_25 rfl rfl ?_
    refine r_iaddN (q := 28) dX6_takerOf_27 rfl ?_
    refine r_cV3 (q := 31) vX6_169 dX6_takerOf_28 rfl LYX6 rfl (Nat.le_of_ble_eq_true rfl) (by decide) (by decide) (c_X6_show _ V hV hI hF.2.1 w c (24 * d + m) h20 hn (by omega) (by have := (hF.2.1 w).2.2.1; omega)) ?_
    rintro τ ⟨hV1, hs⟩
    refine r_bipush (q := 33) (v := -9) dX6_takerOf_31 rfl (by decide) ?_
    refine r_istore (q := 35) dX6_takerOf_33 rfl (Nat.le_of_ble_eq_true rfl) ?_
    refine r_iconst (q := 36) (v := nI 0) dX6_takerOf_35 rfl (by decide) ?_
    refine r_istore (q := 38) dX6_takerOf_36 rfl (Nat.le_of_ble_eq_true rfl) ?_
    refine r_iconst (q := 39) (v := nI 1) dX6_takerOf_38 rfl (by decide) ?_
    refine r_istore (q := 41) dX6_takerOf_39 rfl (Nat.le_of_ble_eq_true rfl) ?_
    refine r_iconst (q := 42) (v := nI 0) dX6_takerOf_41 rfl (by decide) ?_
    refine r_istore (q := 44) dX6_takerOf_42 rfl (Nat.le_of_ble_eq_true rfl) ?_
    refine (l_X6_takerOf hF h20 hn hc hd (by omega) hz (nv V 33 7) 0 _ _ _ none hV1 hs (by omega) (fun x hx => by cases hx)).mono ?_
    rintro r τ ⟨v, rfl, rfl, h⟩
    exact ⟨_, rfl, by rw [takN, if_neg c12], h⟩
  · refine r_bipush (q := 17) (v := -8) dX6_takerOf_15 rfl (by decide) ?_
    exact r_retI dX6_takerOf_17 ⟨by rw [takN, if_pos c12], hV⟩
theorem isMin_of {V : St} {x y : Int32} (h : ¬ isMin V x y = 0) : ∃ d m, d < 8 ∧ m < nv V 34 d ∧ x = nI d ∧ y = nI m := by
  unfold isMin at h
  split at h
  · omega
  · rename_i h1
    obtain ⟨d, hd, rfl⟩ := ix_of h1
    rw [nI_clamp (by omega)] at h
    obtain ⟨m, hm, rfl⟩ := ix_of h
    exact ⟨d, m, hd, hm, rfl, rfl⟩
set_option maxRecDepth 100000 in
set_option maxHeartbeats 4000000 in
theorem c_X6_sun (σ V : St) (hV : vw σ = V) (hF : WF V) (w d m : Int32) : Cl LAY yX6_sun cX6_sun 4 (some .int) 4 100 [.ref 33, .int w, .int d, .int m] σ (EI (fun v τ => v = resO (cSun V w d m) (nI (sunN V w.toNatClampNeg d.toNatClampNeg m.toNatClampNeg)) ∧ vw τ = stO (cSun V w d m) (V) (rfM V (cSun V w d m)))) := by
  have hI := hF.1
  have hnw := bd hI 33 19 20 rfl rfl
  have hnb := bd hI 33 7 40 rfl rfl
  refine Cl.of 0 rfl rfl EI.ok ?_
  show Rn LAY none RX6 _ _ _ _ 0 [some (.ref 33), some (.int w), some (.int d), some (.int m)] [] _ _
  refine r_aload_n (q := 1) dX6_sun_0 rfl rfl ?_
  refine r_iload_n (q := 2) dX6_sun_1 rfl rfl ?_
  refine r_cI1 (q := 5) vX6_194 dX6_sun_2 rfl LYX6 rfl (Nat.le_of_ble_eq_true rfl) (by decide) (by decide) (c_X6_isWindow _ V hV hI _) ?_
  rintro _ _ ⟨rfl, rfl⟩
  refine r_if_eqN (t := 27) (q := 8) dX6_sun_5 (by decide) rfl (by have := ix_le w (nv V 33 19); omega) (fun c5 => ?_) (fun c5 => ?_)
  · refine r_aload_n (q := 28) dX6_sun_27 rfl rfl ?_
    refine r_iconst (q := 29) (v := -1) dX6_sun_28 rfl (by decide) ?_
    refine r_cI1 (q := 32) vX6_111 dX6_sun_29 rfl LYX6 rfl (Nat.le_of_ble_eq_true rfl) (by decide) (by decide) (c_X6_refuse _ V hV (-1) 1 rfl (by decide)) ?_
    rintro _ τ ⟨rfl, hR⟩
    exact r_retI dX6_sun_32 (eo_bad (by first | (simp [cSun, *]; done) | (unfold cSun; (try simp only [hwc, hdc, hmc]); (repeat' split); all_goals first | rfl | contradiction | omega | (exfalso; simp only [Int32.lt_iff_toInt_lt, Int32.le_iff_toInt_le] at *; omega))) (by decide) hR)
  · obtain ⟨w, hw, rfl⟩ := ix_of c5
    have hwc := nI_clamp (n := w) (by omega)
    refine r_aload_n (q := 9) dX6_sun_8 rfl rfl ?_
    refine r_iload_n (q := 10) dX6_sun_9 rfl rfl ?_
    refine r_iload_n (q := 11) dX6_sun_10 rfl rfl ?_
    refine r_cI2 (q := 14) vX6_197 dX6_sun_11 rfl LYX6 rfl (Nat.le_of_ble_eq_true rfl) (by decide) (by decide) (c_X6_isMinute _ V hV hI _ _) ?_
    rintro _ _ ⟨rfl, rfl⟩
    refine r_if_eqN (t := 27) (q := 17) dX6_sun_14 (by decide) rfl (by have := isMin_le V d m; omega) (fun c14 => ?_) (fun c14 => ?_)
    · refine r_aload_n (q := 28) dX6_sun_27 rfl rfl ?_
      refine r_iconst (q := 29) (v := -1) dX6_sun_28 rfl (by decide) ?_
      refine r_cI1 (q := 32) vX6_111 dX6_sun_29 rfl LYX6 rfl (Nat.le_of_ble_eq_true rfl) (by decide) (by decide) (c_X6_refuse _ V hV (-1) 1 rfl (by decide)) ?_
      rintro _ τ ⟨rfl, hR⟩
      exact r_retI dX6_sun_32 (eo_bad (by first | (simp [cSun, *]; done) | (unfold cSun; (try simp only [hwc, hdc, hmc]); (repeat' split); all_goals first | rfl | contradiction | omega | (exfalso; simp only [Int32.lt_iff_toInt_lt, Int32.le_iff_toInt_le] at *; omega))) (by decide) hR)
    · obtain ⟨d, m, hd, hm, rfl, rfl⟩ := isMin_of c14
      have hmn := bd hI 34 d 24 rfl rfl
      have hdc := nI_clamp (n := d) (by omega)
      have hmc := nI_clamp (n := m) (by omega)
      refine r_aload_n (q := 18) dX6_sun_17 rfl rfl ?_
      refine r_iload_n (q := 19) dX6_sun_18 rfl rfl ?_
      refine r_iload_n (q := 20) dX6_sun_19 rfl rfl ?_
      refine r_iload_n (q := 21) dX6_sun_20 rfl rfl ?_
      refine r_cI3 (q := 24) vX6_186 dX6_sun_21 rfl LYX6 rfl (Nat.le_of_ble_eq_true rfl) (by decide) (by decide) (c_X6_sunOf _ V hV hF w d m (by omega) hw hd hm) ?_
      rintro _ τ ⟨rfl, hV1⟩
      refine r_goto (q := 32) dX6_sun_24 (by decide) ?_
      exact r_retI dX6_sun_32 (eo_ok (by first | (simp [cSun, *]; done) | (unfold cSun; (try simp only [hwc, hdc, hmc]); (repeat' split); all_goals first | rfl | contradiction | omega | (exfalso; simp only [Int32.lt_iff_toInt_lt, Int32.le_iff_toInt_le] at *; omega))) (by rw [hwc, hdc, hmc]) hV1)
set_option maxRecDepth 100000 in
set_option maxHeartbeats 4000000 in
theorem c_X6_light (σ V : St) (hV : vw σ = V) (hF : WF V) (w c d m : Int32) : Cl LAY yX6_light cX6_light 5 (some .int) 3 75 [.ref 33, .int w, .int c, .int d, .int m] σ (EI (fun v τ => v = resO (cLight V w c d m) (nI (lightN V w.toNatClampNeg c.toNatClampNeg d.toNatClampNeg m.toNatClampNeg)) ∧ vw τ = stO (cLight V w c d m) (V) (rfM V (cLight V w c d m)))) := by
  have hI := hF.1
  have hnw := bd hI 33 19 20 rfl rfl
  have hnb := bd hI 33 7 40 rfl rfl
  refine Cl.of 0 rfl rfl EI.ok ?_
  show Rn LAY none RX6 _ _ _ _ 0 [some (.ref 33), some (.int w), some (.int c), some (.int d), some (.int m)] [] _ _
  refine r_aload_n (q := 1) dX6_light_0 rfl rfl ?_
  refine r_iload_n (q := 2) dX6_light_1 rfl rfl ?_
  refine r_cI1 (q := 5) vX6_194 dX6_light_2 rfl LYX6 rfl (Nat.le_of_ble_eq_true rfl) (by decide) (by decide) (c_X6_isWindow _ V hV hI _) ?_
  rintro _ _ ⟨rfl, rfl⟩
  refine r_if_eqN (t := 45) (q := 8) dX6_light_5 (by decide) rfl (by have := ix_le w (nv V 33 19); omega) (fun c5 => ?_) (fun c5 => ?_)
  · refine r_aload_n (q := 46) dX6_light_45 rfl rfl ?_
    refine r_iconst (q := 47) (v := -1) dX6_light_46 rfl (by decide) ?_
    refine r_cI1 (q := 50) vX6_111 dX6_light_47 rfl LYX6 rfl (Nat.le_of_ble_eq_true rfl) (by decide) (by decide) (c_X6_refuse _ V hV (-1) 1 rfl (by decide)) ?_
    rintro _ τ ⟨rfl, hR⟩
    exact r_retI dX6_light_50 (eo_bad (by first | (simp [cLight, *]; done) | (unfold cLight; (try simp only [hwc, hcc, hdc, hmc]); (repeat' split); all_goals first | rfl | contradiction | omega | (exfalso; simp only [Int32.lt_iff_toInt_lt, Int32.le_iff_toInt_le] at *; omega))) (by decide) hR)
  · obtain ⟨w, hw, rfl⟩ := ix_of c5
    have hwc := nI_clamp (n := w) (by omega)
    refine r_iload_n (q := 9) dX6_light_8 rfl rfl ?_
    refine r_iconst (q := 10) (v := nI 0) dX6_light_9 rfl (by decide) ?_
    refine r_aload_n (q := 11) dX6_light_10 rfl rfl ?_
    refine r_iload_n (q := 12) dX6_light_11 rfl rfl ?_
    refine r_cI1 (q := 15) vX6_179 dX6_light_12 rfl LYX6 rfl (Nat.le_of_ble_eq_true rfl) (by decide) (by decide) (c_X6_cellsOf _ V hV hI hF.2.1 w (by omega)) ?_
    rintro _ _ ⟨rfl, rfl⟩
    refine r_iconst (q := 16) (v := nI 1) dX6_light_15 rfl (by decide) ?_
    refine r_isub (q := 17) dX6_light_16 rfl ?_
    refine r_sI3 (q := 20) vX6_100 dX6_light_17 rfl (Nat.le_of_ble_eq_true rfl) (by decide) (by decide) (c_X6_in _ _ _ _) ?_
    rintro _ _ ⟨rfl, rfl⟩
    refine r_if_eqN (t := 45) (q := 23) dX6_light_20 (by decide) rfl (by have := inN_le c (nI 0) (nI (cls V w) - nI 1); omega) (fun c20 => ?_) (fun c20 => ?_)
    · rw [ix_in _ (by have := (hF.2.1 w).2.2.1; omega)] at c20
      refine r_aload_n (q := 46) dX6_light_45 rfl rfl ?_
      refine r_iconst (q := 47) (v := -1) dX6_light_46 rfl (by decide) ?_
      refine r_cI1 (q := 50) vX6_111 dX6_light_47 rfl LYX6 rfl (Nat.le_of_ble_eq_true rfl) (by decide) (by decide) (c_X6_refuse _ V hV (-1) 1 rfl (by decide)) ?_
      rintro _ τ ⟨rfl, hR⟩
      exact r_retI dX6_light_50 (eo_bad (by first | (simp [cLight, *]; done) | (unfold cLight; (try simp only [hwc, hcc, hdc, hmc]); (repeat' split); all_goals first | rfl | contradiction | omega | (exfalso; simp only [Int32.lt_iff_toInt_lt, Int32.le_iff_toInt_le] at *; omega))) (by decide) hR)
    · rw [ix_in _ (by have := (hF.2.1 w).2.2.1; omega)] at c20
      have hcl := (hF.2.1 w).2.2.1
      obtain ⟨c, hc, rfl⟩ := ix_of c20
      have hcc := nI_clamp (n := c) (by omega)
      refine r_aload_n (q := 24) dX6_light_23 rfl rfl ?_
      refine r_iload_n (q := 25) dX6_light_24 rfl rfl ?_
      refine r_iload (q := 27) dX6_light_25 rfl rfl ?_
      refine r_cI2 (q := 30) vX6_197 dX6_light_27 rfl LYX6 rfl (Nat.le_of_ble_eq_true rfl) (by decide) (by decide) (c_X6_isMinute _ V hV hI _ _) ?_
      rintro _ _ ⟨rfl, rfl⟩
      refine r_if_eqN (t := 45) (q := 33) dX6_light_30 (by decide) rfl (by have := isMin_le V d m; omega) (fun c30 => ?_) (fun c30 => ?_)
      · refine r_aload_n (q := 46) dX6_light_45 rfl rfl ?_
        refine r_iconst (q := 47) (v := -1) dX6_light_46 rfl (by decide) ?_
        refine r_cI1 (q := 50) vX6_111 dX6_light_47 rfl LYX6 rfl (Nat.le_of_ble_eq_true rfl) (by decide) (by decide) (c_X6_refuse _ V hV (-1) 1 rfl (by decide)) ?_
        rintro _ τ ⟨rfl, hR⟩
        exact r_retI dX6_light_50 (eo_bad (by first | (simp [cLight, *]; done) | (unfold cLight; (try simp only [hwc, hcc, hdc, hmc]); (repeat' split); all_goals first | rfl | contradiction | omega | (exfalso; simp only [Int32.lt_iff_toInt_lt, Int32.le_iff_toInt_le] at *; omega))) (by decide) hR)
      · obtain ⟨d, m, hd, hm, rfl, rfl⟩ := isMin_of c30
        have hmn := bd hI 34 d 24 rfl rfl
        have hdc := nI_clamp (n := d) (by omega)
        have hmc := nI_clamp (n := m) (by omega)
        refine r_aload_n (q := 34) dX6_light_33 rfl rfl ?_
        refine r_iload_n (q := 35) dX6_light_34 rfl rfl ?_
        refine r_iload_n (q := 36) dX6_light_35 rfl rfl ?_
        refine r_iload_n (q := 37) dX6_light_36 rfl rfl ?_
        refine r_iload (q := 39) dX6_light_37 rfl rfl ?_
        refine r_cI4 (q := 42) vX6_182 dX6_light_39 rfl LYX6 rfl (Nat.le_of_ble_eq_true rfl) (by decide) (by decide) (c_X6_lightOf _ V hV hF w c d m (by omega) hw hc hd hm) ?_
        rintro _ τ ⟨rfl, hV1⟩
        refine r_goto (q := 50) dX6_light_42 (by decide) ?_
        exact r_retI dX6_light_50 (eo_ok (by first | (simp [cLight, *]; done) | (unfold cLight; (try simp only [hwc, hcc, hdc, hmc]); (repeat' split); all_goals first | rfl | contradiction | omega | (exfalso; simp only [Int32.lt_iff_toInt_lt, Int32.le_iff_toInt_le] at *; omega))) (by rw [hwc, hcc, hdc, hmc]) hV1)
set_option maxRecDepth 100000 in
set_option maxHeartbeats 4000000 in
theorem c_X6_taker (σ V : St) (hV : vw σ = V) (hF : WF V) (w c d m : Int32) : Cl LAY yX6_taker cX6_taker 5 (some .int) 3 77 [.ref 33, .int w, .int c, .int d, .int m] σ (EI (fun v τ => v = resB (cLight V w c d m) (takN V w.toNatClampNeg c.toNatClampNeg d.toNatClampNeg m.toNatClampNeg) ∧ vw τ = stO (cLight V w c d m) (V) (rfM V (cLight V w c d m)))) := by
  have hI := hF.1
  have hnw := bd hI 33 19 20 rfl rfl
  have hnb := bd hI 33 7 40 rfl rfl
  refine Cl.of 0 rfl rfl EI.ok ?_
  show Rn LAY none RX6 _ _ _ _ 0 [some (.ref 33), some (.int w), some (.int c), some (.int d), some (.int m)] [] _ _
  refine r_aload_n (q := 1) dX6_taker_0 rfl rfl ?_
  refine r_iload_n (q := 2) dX6_taker_1 rfl rfl ?_
  refine r_cI1 (q := 5) vX6_194 dX6_taker_2 rfl LYX6 rfl (Nat.le_of_ble_eq_true rfl) (by decide) (by decide) (c_X6_isWindow _ V hV hI _) ?_
  rintro _ _ ⟨rfl, rfl⟩
  refine r_if_eqN (t := 45) (q := 8) dX6_taker_5 (by decide) rfl (by have := ix_le w (nv V 33 19); omega) (fun c5 => ?_) (fun c5 => ?_)
  · refine r_aload_n (q := 46) dX6_taker_45 rfl rfl ?_
    refine r_iconst (q := 47) (v := -1) dX6_taker_46 rfl (by decide) ?_
    refine r_cI1 (q := 50) vX6_203 dX6_taker_47 rfl LYX6 rfl (Nat.le_of_ble_eq_true rfl) (by decide) (by decide) (c_X6_refuseBig _ V hV (-1) 1 rfl (by decide)) ?_
    rintro _ τ ⟨rfl, hR⟩
    exact r_retI dX6_taker_50 (eb_bad (by first | (simp [cLight, *]; done) | (unfold cLight; (try simp only [hwc, hcc, hdc, hmc]); (repeat' split); all_goals first | rfl | contradiction | omega | (exfalso; simp only [Int32.lt_iff_toInt_lt, Int32.le_iff_toInt_le] at *; omega))) (by decide) hR)
  · obtain ⟨w, hw, rfl⟩ := ix_of c5
    have hwc := nI_clamp (n := w) (by omega)
    refine r_iload_n (q := 9) dX6_taker_8 rfl rfl ?_
    refine r_iconst (q := 10) (v := nI 0) dX6_taker_9 rfl (by decide) ?_
    refine r_aload_n (q := 11) dX6_taker_10 rfl rfl ?_
    refine r_iload_n (q := 12) dX6_taker_11 rfl rfl ?_
    refine r_cI1 (q := 15) vX6_179 dX6_taker_12 rfl LYX6 rfl (Nat.le_of_ble_eq_true rfl) (by decide) (by decide) (c_X6_cellsOf _ V hV hI hF.2.1 w (by omega)) ?_
    rintro _ _ ⟨rfl, rfl⟩
    refine r_iconst (q := 16) (v := nI 1) dX6_taker_15 rfl (by decide) ?_
    refine r_isub (q := 17) dX6_taker_16 rfl ?_
    refine r_sI3 (q := 20) vX6_100 dX6_taker_17 rfl (Nat.le_of_ble_eq_true rfl) (by decide) (by decide) (c_X6_in _ _ _ _) ?_
    rintro _ _ ⟨rfl, rfl⟩
    refine r_if_eqN (t := 45) (q := 23) dX6_taker_20 (by decide) rfl (by have := inN_le c (nI 0) (nI (cls V w) - nI 1); omega) (fun c20 => ?_) (fun c20 => ?_)
    · rw [ix_in _ (by have := (hF.2.1 w).2.2.1; omega)] at c20
      refine r_aload_n (q := 46) dX6_taker_45 rfl rfl ?_
      refine r_iconst (q := 47) (v := -1) dX6_taker_46 rfl (by decide) ?_
      refine r_cI1 (q := 50) vX6_203 dX6_taker_47 rfl LYX6 rfl (Nat.le_of_ble_eq_true rfl) (by decide) (by decide) (c_X6_refuseBig _ V hV (-1) 1 rfl (by decide)) ?_
      rintro _ τ ⟨rfl, hR⟩
      exact r_retI dX6_taker_50 (eb_bad (by first | (simp [cLight, *]; done) | (unfold cLight; (try simp only [hwc, hcc, hdc, hmc]); (repeat' split); all_goals first | rfl | contradiction | omega | (exfalso; simp only [Int32.lt_iff_toInt_lt, Int32.le_iff_toInt_le] at *; omega))) (by decide) hR)
    · rw [ix_in _ (by have := (hF.2.1 w).2.2.1; omega)] at c20
      have hcl := (hF.2.1 w).2.2.1
      obtain ⟨c, hc, rfl⟩ := ix_of c20
      have hcc := nI_clamp (n := c) (by omega)
      refine r_aload_n (q := 24) dX6_taker_23 rfl rfl ?_
      refine r_iload_n (q := 25) dX6_taker_24 rfl rfl ?_
      refine r_iload (q := 27) dX6_taker_25 rfl rfl ?_
      refine r_cI2 (q := 30) vX6_197 dX6_taker_27 rfl LYX6 rfl (Nat.le_of_ble_eq_true rfl) (by decide) (by decide) (c_X6_isMinute _ V hV hI _ _) ?_
      rintro _ _ ⟨rfl, rfl⟩
      refine r_if_eqN (t := 45) (q := 33) dX6_taker_30 (by decide) rfl (by have := isMin_le V d m; omega) (fun c30 => ?_) (fun c30 => ?_)
      · refine r_aload_n (q := 46) dX6_taker_45 rfl rfl ?_
        refine r_iconst (q := 47) (v := -1) dX6_taker_46 rfl (by decide) ?_
        refine r_cI1 (q := 50) vX6_203 dX6_taker_47 rfl LYX6 rfl (Nat.le_of_ble_eq_true rfl) (by decide) (by decide) (c_X6_refuseBig _ V hV (-1) 1 rfl (by decide)) ?_
        rintro _ τ ⟨rfl, hR⟩
        exact r_retI dX6_taker_50 (eb_bad (by first | (simp [cLight, *]; done) | (unfold cLight; (try simp only [hwc, hcc, hdc, hmc]); (repeat' split); all_goals first | rfl | contradiction | omega | (exfalso; simp only [Int32.lt_iff_toInt_lt, Int32.le_iff_toInt_le] at *; omega))) (by decide) hR)
      · obtain ⟨d, m, hd, hm, rfl, rfl⟩ := isMin_of c30
        have hmn := bd hI 34 d 24 rfl rfl
        have hdc := nI_clamp (n := d) (by omega)
        have hmc := nI_clamp (n := m) (by omega)
        refine r_aload_n (q := 34) dX6_taker_33 rfl rfl ?_
        refine r_iload_n (q := 35) dX6_taker_34 rfl rfl ?_
        refine r_iload_n (q := 36) dX6_taker_35 rfl rfl ?_
        refine r_iload_n (q := 37) dX6_taker_36 rfl rfl ?_
        refine r_iload (q := 39) dX6_taker_37 rfl rfl ?_
        refine r_cI4 (q := 42) vX6_200 dX6_taker_39 rfl LYX6 rfl (Nat.le_of_ble_eq_true rfl) (by decide) (by decide) (c_X6_takerOf _ V hV hF w c d m (by omega) hw hc hd hm) ?_
        rintro _ τ ⟨rfl, hV1⟩
        refine r_goto (q := 50) dX6_taker_42 (by decide) ?_
        exact r_retI dX6_taker_50 (eb_ok (by first | (simp [cLight, *]; done) | (unfold cLight; (try simp only [hwc, hcc, hdc, hmc]); (repeat' split); all_goals first | rfl | contradiction | omega | (exfalso; simp only [Int32.lt_iff_toInt_lt, Int32.le_iff_toInt_le] at *; omega))) (by rw [hwc, hcc, hdc, hmc]) hV1)
set_option maxRecDepth 100000 in
set_option maxHeartbeats 4000000 in
theorem c_X6_hours (σ V : St) (hV : vw σ = V) (hF : WF V) (w d : Int32) : Cl LAY yX6_hours cX6_hours 3 (some .int) 5 124 [.ref 33, .int w, .int d] σ (EI (fun v τ => v = resO (cHours V w d) (nI (hoursN V w.toNatClampNeg d.toNatClampNeg)) ∧ vw τ = stO (cHours V w d) (V) (rfM V (cHours V w d)))) := by
  have hI := hF.1
  have hnw := bd hI 33 19 20 rfl rfl
  have hnb := bd hI 33 7 40 rfl rfl
  refine Cl.of 0 rfl rfl EI.ok ?_
  show Rn LAY none RX6 _ _ _ _ 0 [some (.ref 33), some (.int w), some (.int d)] [] _ _
  refine r_aload_n (q := 1) dX6_hours_0 rfl rfl ?_
  refine r_iload_n (q := 2) dX6_hours_1 rfl rfl ?_
  refine r_cI1 (q := 5) vX6_194 dX6_hours_2 rfl LYX6 rfl (Nat.le_of_ble_eq_true rfl) (by decide) (by decide) (c_X6_isWindow _ V hV hI _) ?_
  rintro _ _ ⟨rfl, rfl⟩
  refine r_if_eqN (t := 24) (q := 8) dX6_hours_5 (by decide) rfl (by have := ix_le w (nv V 33 19); omega) (fun c5 => ?_) (fun c5 => ?_)
  · refine r_aload_n (q := 25) dX6_hours_24 rfl rfl ?_
    refine r_iconst (q := 26) (v := -1) dX6_hours_25 rfl (by decide) ?_
    refine r_cI1 (q := 29) vX6_111 dX6_hours_26 rfl LYX6 rfl (Nat.le_of_ble_eq_true rfl) (by decide) (by decide) (c_X6_refuse _ V hV (-1) 1 rfl (by decide)) ?_
    rintro _ τ ⟨rfl, hR⟩
    exact r_retI dX6_hours_29 (eo_bad (by first | (simp [cHours, *]; done) | (unfold cHours; (try simp only [hwc, hdc]); (repeat' split); all_goals first | rfl | contradiction | omega | (exfalso; simp only [Int32.lt_iff_toInt_lt, Int32.le_iff_toInt_le] at *; omega))) (by decide) hR)
  · obtain ⟨w, hw, rfl⟩ := ix_of c5
    have hwc := nI_clamp (n := w) (by omega)
    refine r_iload_n (q := 9) dX6_hours_8 rfl rfl ?_
    refine r_sI1 (q := 12) vX6_107 dX6_hours_9 rfl (Nat.le_of_ble_eq_true rfl) (by decide) (by decide) (c_X6_isDay _ _) ?_
    rintro _ _ ⟨rfl, rfl⟩
    refine r_if_eqN (t := 24) (q := 15) dX6_hours_12 (by decide) rfl (by have := ix_le d 8; omega) (fun c12 => ?_) (fun c12 => ?_)
    · refine r_aload_n (q := 25) dX6_hours_24 rfl rfl ?_
      refine r_iconst (q := 26) (v := -1) dX6_hours_25 rfl (by decide) ?_
      refine r_cI1 (q := 29) vX6_111 dX6_hours_26 rfl LYX6 rfl (Nat.le_of_ble_eq_true rfl) (by decide) (by decide) (c_X6_refuse _ V hV (-1) 1 rfl (by decide)) ?_
      rintro _ τ ⟨rfl, hR⟩
      exact r_retI dX6_hours_29 (eo_bad (by first | (simp [cHours, *]; done) | (unfold cHours; (try simp only [hwc, hdc]); (repeat' split); all_goals first | rfl | contradiction | omega | (exfalso; simp only [Int32.lt_iff_toInt_lt, Int32.le_iff_toInt_le] at *; omega))) (by decide) hR)
    · obtain ⟨d, hd, rfl⟩ := ix_of c12
      have hdc := nI_clamp (n := d) (by omega)
      refine r_aload_n (q := 16) dX6_hours_15 rfl rfl ?_
      refine r_iload_n (q := 17) dX6_hours_16 rfl rfl ?_
      refine r_iload_n (q := 18) dX6_hours_17 rfl rfl ?_
      refine r_cI2 (q := 21) vX6_190 dX6_hours_18 rfl LYX6 rfl (Nat.le_of_ble_eq_true rfl) (by decide) (by decide) (c_X6_hoursOf _ V hV hF w d (by omega) hw hd) ?_
      rintro _ τ ⟨rfl, hV1⟩
      refine r_goto (q := 29) dX6_hours_21 (by decide) ?_
      exact r_retI dX6_hours_29 (eo_ok (by first | (simp [cHours, *]; done) | (unfold cHours; (try simp only [hwc, hdc]); (repeat' split); all_goals first | rfl | contradiction | omega | (exfalso; simp only [Int32.lt_iff_toInt_lt, Int32.le_iff_toInt_le] at *; omega))) (by rw [hwc, hdc]) hV1)
end
