section
-- ===== PART A: goes FIRST, ahead of the names: the tables' words, and 'selects' of the private methods out of them =====
/-- a private method of a class that the tables say can be made, by its rows of tables_1 -/
def lw_okq (q : MethodName × Nat) : Prop := (q.1.cls ≠ "java/lang/invoke/MethodHandle" ∧ q.1.cls ≠ "java/lang/invoke/VarHandle") ∧ Cond.instantiable q.1.cls q.2 ∈ tables_1 ∧ Cond.privateMethod q.1 ∈ tables_1 ∧ Cond.instanceMethod q.1 ∈ tables_1
theorem lw_p0 : lw_okq (⟨"SunCourt", "refuse", "(I)I"⟩, 10) := ⟨⟨by decide +kernel, by decide +kernel⟩, List.mem_of_getElem? (i := 12) (by decide +kernel), List.mem_of_getElem? (i := 206) (by decide +kernel), List.mem_of_getElem? (i := 207) (by decide +kernel)⟩
theorem lw_p1 : lw_okq (⟨"SunCourt", "forgetLight", "()V"⟩, 10) := ⟨⟨by decide +kernel, by decide +kernel⟩, List.mem_of_getElem? (i := 12) (by decide +kernel), List.mem_of_getElem? (i := 214) (by decide +kernel), List.mem_of_getElem? (i := 215) (by decide +kernel)⟩
theorem lw_p2 : lw_okq (⟨"SunCourt", "sunAt", "(IIIII)I"⟩, 10) := ⟨⟨by decide +kernel, by decide +kernel⟩, List.mem_of_getElem? (i := 12) (by decide +kernel), List.mem_of_getElem? (i := 312) (by decide +kernel), List.mem_of_getElem? (i := 313) (by decide +kernel)⟩
theorem lw_p3 : lw_okq (⟨"SunCourt", "aim", "(III)Z"⟩, 10) := ⟨⟨by decide +kernel, by decide +kernel⟩, List.mem_of_getElem? (i := 12) (by decide +kernel), List.mem_of_getElem? (i := 316) (by decide +kernel), List.mem_of_getElem? (i := 317) (by decide +kernel)⟩
theorem lw_p4 : lw_okq (⟨"SunCourt", "refuseAsTold", "(I)I"⟩, 10) := ⟨⟨by decide +kernel, by decide +kernel⟩, List.mem_of_getElem? (i := 12) (by decide +kernel), List.mem_of_getElem? (i := 377) (by decide +kernel), List.mem_of_getElem? (i := 378) (by decide +kernel)⟩
theorem lw_p5 : lw_okq (⟨"SunCourt", "cellsTaken", "(IIII)I"⟩, 10) := ⟨⟨by decide +kernel, by decide +kernel⟩, List.mem_of_getElem? (i := 12) (by decide +kernel), List.mem_of_getElem? (i := 390) (by decide +kernel), List.mem_of_getElem? (i := 391) (by decide +kernel)⟩
theorem lw_p6 : lw_okq (⟨"SunCourt", "litMinutes", "(II)I"⟩, 10) := ⟨⟨by decide +kernel, by decide +kernel⟩, List.mem_of_getElem? (i := 12) (by decide +kernel), List.mem_of_getElem? (i := 398) (by decide +kernel), List.mem_of_getElem? (i := 399) (by decide +kernel)⟩
theorem lw_p7 : lw_okq (⟨"SunCourt", "isLitBy", "(II)Z"⟩, 10) := ⟨⟨by decide +kernel, by decide +kernel⟩, List.mem_of_getElem? (i := 12) (by decide +kernel), List.mem_of_getElem? (i := 402) (by decide +kernel), List.mem_of_getElem? (i := 403) (by decide +kernel)⟩
theorem lw_p8 : lw_okq (⟨"SunCourt", "hoursWith", "(IIIII)I"⟩, 10) := ⟨⟨by decide +kernel, by decide +kernel⟩, List.mem_of_getElem? (i := 12) (by decide +kernel), List.mem_of_getElem? (i := 416) (by decide +kernel), List.mem_of_getElem? (i := 417) (by decide +kernel)⟩
theorem lw_p9 : lw_okq (⟨"SunCourt", "firstBreach", "(II)I"⟩, 10) := ⟨⟨by decide +kernel, by decide +kernel⟩, List.mem_of_getElem? (i := 12) (by decide +kernel), List.mem_of_getElem? (i := 424) (by decide +kernel), List.mem_of_getElem? (i := 425) (by decide +kernel)⟩
theorem lw_p10 : lw_okq (⟨"SunCourt", "firstFall", "(I)I"⟩, 10) := ⟨⟨by decide +kernel, by decide +kernel⟩, List.mem_of_getElem? (i := 12) (by decide +kernel), List.mem_of_getElem? (i := 432) (by decide +kernel), List.mem_of_getElem? (i := 433) (by decide +kernel)⟩
theorem lw_p11 : lw_okq (⟨"SunCourt", "firstFallWith", "(III)I"⟩, 10) := ⟨⟨by decide +kernel, by decide +kernel⟩, List.mem_of_getElem? (i := 12) (by decide +kernel), List.mem_of_getElem? (i := 436) (by decide +kernel), List.mem_of_getElem? (i := 437) (by decide +kernel)⟩
theorem lw_p12 : lw_okq (⟨"SunCourt", "passYear", "()V"⟩, 10) := ⟨⟨by decide +kernel, by decide +kernel⟩, List.mem_of_getElem? (i := 12) (by decide +kernel), List.mem_of_getElem? (i := 448) (by decide +kernel), List.mem_of_getElem? (i := 449) (by decide +kernel)⟩
theorem lw_p13 : lw_okq (⟨"SunCourt", "lawfulWindows", "()I"⟩, 10) := ⟨⟨by decide +kernel, by decide +kernel⟩, List.mem_of_getElem? (i := 12) (by decide +kernel), List.mem_of_getElem? (i := 478) (by decide +kernel), List.mem_of_getElem? (i := 479) (by decide +kernel)⟩
theorem lw_p14 : lw_okq (⟨"SunCourtModel", "refuse", "(I)I"⟩, 43) := ⟨⟨by decide +kernel, by decide +kernel⟩, List.mem_of_getElem? (i := 487) (by decide +kernel), List.mem_of_getElem? (i := 633) (by decide +kernel), List.mem_of_getElem? (i := 634) (by decide +kernel)⟩
theorem lw_p15 : lw_okq (⟨"SunCourtModel", "isBlock", "(I)Z"⟩, 43) := ⟨⟨by decide +kernel, by decide +kernel⟩, List.mem_of_getElem? (i := 487) (by decide +kernel), List.mem_of_getElem? (i := 645) (by decide +kernel), List.mem_of_getElem? (i := 646) (by decide +kernel)⟩
def lw_privs_1 : List (MethodName × Nat) := [(⟨"SunCourt", "refuse", "(I)I"⟩, 10), (⟨"SunCourt", "forgetLight", "()V"⟩, 10), (⟨"SunCourt", "sunAt", "(IIIII)I"⟩, 10), (⟨"SunCourt", "aim", "(III)Z"⟩, 10), (⟨"SunCourt", "refuseAsTold", "(I)I"⟩, 10), (⟨"SunCourt", "cellsTaken", "(IIII)I"⟩, 10), (⟨"SunCourt", "litMinutes", "(II)I"⟩, 10), (⟨"SunCourt", "isLitBy", "(II)Z"⟩, 10), (⟨"SunCourt", "hoursWith", "(IIIII)I"⟩, 10), (⟨"SunCourt", "firstBreach", "(II)I"⟩, 10), (⟨"SunCourt", "firstFall", "(I)I"⟩, 10), (⟨"SunCourt", "firstFallWith", "(III)I"⟩, 10), (⟨"SunCourt", "passYear", "()V"⟩, 10), (⟨"SunCourt", "lawfulWindows", "()I"⟩, 10), (⟨"SunCourtModel", "refuse", "(I)I"⟩, 43), (⟨"SunCourtModel", "isBlock", "(I)Z"⟩, 43)]
theorem lw_r1 : ∀ q ∈ lw_privs_1, lw_okq q := List.forall_mem_cons.mpr ⟨lw_p0, List.forall_mem_cons.mpr ⟨lw_p1, List.forall_mem_cons.mpr ⟨lw_p2, List.forall_mem_cons.mpr ⟨lw_p3, List.forall_mem_cons.mpr ⟨lw_p4, List.forall_mem_cons.mpr ⟨lw_p5, List.forall_mem_cons.mpr ⟨lw_p6, List.forall_mem_cons.mpr ⟨lw_p7, List.forall_mem_cons.mpr ⟨lw_p8, List.forall_mem_cons.mpr ⟨lw_p9, List.forall_mem_cons.mpr ⟨lw_p10, List.forall_mem_cons.mpr ⟨lw_p11, List.forall_mem_cons.mpr ⟨lw_p12, List.forall_mem_cons.mpr ⟨lw_p13, List.forall_mem_cons.mpr ⟨lw_p14, List.forall_mem_cons.mpr ⟨lw_p15, fun _ h => absurd h List.not_mem_nil⟩⟩⟩⟩⟩⟩⟩⟩⟩⟩⟩⟩⟩⟩⟩⟩
theorem lw_p16 : lw_okq (⟨"SunCourtModel", "lackOfPlan", "(I)I"⟩, 43) := ⟨⟨by decide +kernel, by decide +kernel⟩, List.mem_of_getElem? (i := 487) (by decide +kernel), List.mem_of_getElem? (i := 661) (by decide +kernel), List.mem_of_getElem? (i := 662) (by decide +kernel)⟩
theorem lw_p17 : lw_okq (⟨"SunCourtModel", "isWindow", "(I)Z"⟩, 43) := ⟨⟨by decide +kernel, by decide +kernel⟩, List.mem_of_getElem? (i := 487) (by decide +kernel), List.mem_of_getElem? (i := 685) (by decide +kernel), List.mem_of_getElem? (i := 686) (by decide +kernel)⟩
theorem lw_p18 : lw_okq (⟨"SunCourtModel", "isMinute", "(II)Z"⟩, 43) := ⟨⟨by decide +kernel, by decide +kernel⟩, List.mem_of_getElem? (i := 487) (by decide +kernel), List.mem_of_getElem? (i := 689) (by decide +kernel), List.mem_of_getElem? (i := 690) (by decide +kernel)⟩
theorem lw_p19 : lw_okq (⟨"SunCourtModel", "sunOf", "(III)I"⟩, 43) := ⟨⟨by decide +kernel, by decide +kernel⟩, List.mem_of_getElem? (i := 487) (by decide +kernel), List.mem_of_getElem? (i := 693) (by decide +kernel), List.mem_of_getElem? (i := 694) (by decide +kernel)⟩
theorem lw_p20 : lw_okq (⟨"SunCourtModel", "cellsOf", "(I)I"⟩, 43) := ⟨⟨by decide +kernel, by decide +kernel⟩, List.mem_of_getElem? (i := 487) (by decide +kernel), List.mem_of_getElem? (i := 697) (by decide +kernel), List.mem_of_getElem? (i := 698) (by decide +kernel)⟩
theorem lw_p21 : lw_okq (⟨"SunCourtModel", "isInFront", "(II)Z"⟩, 43) := ⟨⟨by decide +kernel, by decide +kernel⟩, List.mem_of_getElem? (i := 487) (by decide +kernel), List.mem_of_getElem? (i := 701) (by decide +kernel), List.mem_of_getElem? (i := 702) (by decide +kernel)⟩
theorem lw_p22 : lw_okq (⟨"SunCourtModel", "lightOf", "(IIII)I"⟩, 43) := ⟨⟨by decide +kernel, by decide +kernel⟩, List.mem_of_getElem? (i := 487) (by decide +kernel), List.mem_of_getElem? (i := 705) (by decide +kernel), List.mem_of_getElem? (i := 706) (by decide +kernel)⟩
theorem lw_p23 : lw_okq (⟨"SunCourtModel", "show", "(III)V"⟩, 43) := ⟨⟨by decide +kernel, by decide +kernel⟩, List.mem_of_getElem? (i := 487) (by decide +kernel), List.mem_of_getElem? (i := 709) (by decide +kernel), List.mem_of_getElem? (i := 710) (by decide +kernel)⟩
theorem lw_p24 : lw_okq (⟨"SunCourtModel", "isThere", "(I)Z"⟩, 43) := ⟨⟨by decide +kernel, by decide +kernel⟩, List.mem_of_getElem? (i := 487) (by decide +kernel), List.mem_of_getElem? (i := 713) (by decide +kernel), List.mem_of_getElem? (i := 714) (by decide +kernel)⟩
theorem lw_p25 : lw_okq (⟨"SunCourtModel", "stands", "(I)Z"⟩, 43) := ⟨⟨by decide +kernel, by decide +kernel⟩, List.mem_of_getElem? (i := 487) (by decide +kernel), List.mem_of_getElem? (i := 717) (by decide +kernel), List.mem_of_getElem? (i := 718) (by decide +kernel)⟩
theorem lw_p26 : lw_okq (⟨"SunCourtModel", "bound", "(IIII)V"⟩, 43) := ⟨⟨by decide +kernel, by decide +kernel⟩, List.mem_of_getElem? (i := 487) (by decide +kernel), List.mem_of_getElem? (i := 721) (by decide +kernel), List.mem_of_getElem? (i := 722) (by decide +kernel)⟩
theorem lw_p27 : lw_okq (⟨"SunCourtModel", "topOf", "(I)I"⟩, 43) := ⟨⟨by decide +kernel, by decide +kernel⟩, List.mem_of_getElem? (i := 487) (by decide +kernel), List.mem_of_getElem? (i := 725) (by decide +kernel), List.mem_of_getElem? (i := 726) (by decide +kernel)⟩
theorem lw_p28 : lw_okq (⟨"SunCourtModel", "takerOf", "(IIII)I"⟩, 43) := ⟨⟨by decide +kernel, by decide +kernel⟩, List.mem_of_getElem? (i := 487) (by decide +kernel), List.mem_of_getElem? (i := 737) (by decide +kernel), List.mem_of_getElem? (i := 738) (by decide +kernel)⟩
theorem lw_p29 : lw_okq (⟨"SunCourtModel", "refuseBig", "(I)I"⟩, 43) := ⟨⟨by decide +kernel, by decide +kernel⟩, List.mem_of_getElem? (i := 487) (by decide +kernel), List.mem_of_getElem? (i := 741) (by decide +kernel), List.mem_of_getElem? (i := 742) (by decide +kernel)⟩
theorem lw_p30 : lw_okq (⟨"SunCourtModel", "hoursOf", "(II)I"⟩, 43) := ⟨⟨by decide +kernel, by decide +kernel⟩, List.mem_of_getElem? (i := 487) (by decide +kernel), List.mem_of_getElem? (i := 754) (by decide +kernel), List.mem_of_getElem? (i := 755) (by decide +kernel)⟩
theorem lw_p31 : lw_okq (⟨"SunCourtModel", "think", "(II)V"⟩, 43) := ⟨⟨by decide +kernel, by decide +kernel⟩, List.mem_of_getElem? (i := 487) (by decide +kernel), List.mem_of_getElem? (i := 762) (by decide +kernel), List.mem_of_getElem? (i := 763) (by decide +kernel)⟩
def lw_privs_2 : List (MethodName × Nat) := [(⟨"SunCourtModel", "lackOfPlan", "(I)I"⟩, 43), (⟨"SunCourtModel", "isWindow", "(I)Z"⟩, 43), (⟨"SunCourtModel", "isMinute", "(II)Z"⟩, 43), (⟨"SunCourtModel", "sunOf", "(III)I"⟩, 43), (⟨"SunCourtModel", "cellsOf", "(I)I"⟩, 43), (⟨"SunCourtModel", "isInFront", "(II)Z"⟩, 43), (⟨"SunCourtModel", "lightOf", "(IIII)I"⟩, 43), (⟨"SunCourtModel", "show", "(III)V"⟩, 43), (⟨"SunCourtModel", "isThere", "(I)Z"⟩, 43), (⟨"SunCourtModel", "stands", "(I)Z"⟩, 43), (⟨"SunCourtModel", "bound", "(IIII)V"⟩, 43), (⟨"SunCourtModel", "topOf", "(I)I"⟩, 43), (⟨"SunCourtModel", "takerOf", "(IIII)I"⟩, 43), (⟨"SunCourtModel", "refuseBig", "(I)I"⟩, 43), (⟨"SunCourtModel", "hoursOf", "(II)I"⟩, 43), (⟨"SunCourtModel", "think", "(II)V"⟩, 43)]
theorem lw_r2 : ∀ q ∈ lw_privs_2, lw_okq q := List.forall_mem_cons.mpr ⟨lw_p16, List.forall_mem_cons.mpr ⟨lw_p17, List.forall_mem_cons.mpr ⟨lw_p18, List.forall_mem_cons.mpr ⟨lw_p19, List.forall_mem_cons.mpr ⟨lw_p20, List.forall_mem_cons.mpr ⟨lw_p21, List.forall_mem_cons.mpr ⟨lw_p22, List.forall_mem_cons.mpr ⟨lw_p23, List.forall_mem_cons.mpr ⟨lw_p24, List.forall_mem_cons.mpr ⟨lw_p25, List.forall_mem_cons.mpr ⟨lw_p26, List.forall_mem_cons.mpr ⟨lw_p27, List.forall_mem_cons.mpr ⟨lw_p28, List.forall_mem_cons.mpr ⟨lw_p29, List.forall_mem_cons.mpr ⟨lw_p30, List.forall_mem_cons.mpr ⟨lw_p31, fun _ h => absurd h List.not_mem_nil⟩⟩⟩⟩⟩⟩⟩⟩⟩⟩⟩⟩⟩⟩⟩⟩
theorem lw_p32 : lw_okq (⟨"SunCourtModel", "ask", "()V"⟩, 43) := ⟨⟨by decide +kernel, by decide +kernel⟩, List.mem_of_getElem? (i := 487) (by decide +kernel), List.mem_of_getElem? (i := 770) (by decide +kernel), List.mem_of_getElem? (i := 771) (by decide +kernel)⟩
theorem lw_p33 : lw_okq (⟨"SunCourtModel", "isKept", "(I)Z"⟩, 43) := ⟨⟨by decide +kernel, by decide +kernel⟩, List.mem_of_getElem? (i := 487) (by decide +kernel), List.mem_of_getElem? (i := 774) (by decide +kernel), List.mem_of_getElem? (i := 775) (by decide +kernel)⟩
theorem lw_p34 : lw_okq (⟨"SunCourtModel", "fallsOn", "(I)I"⟩, 43) := ⟨⟨by decide +kernel, by decide +kernel⟩, List.mem_of_getElem? (i := 487) (by decide +kernel), List.mem_of_getElem? (i := 778) (by decide +kernel), List.mem_of_getElem? (i := 779) (by decide +kernel)⟩
theorem lw_p35 : lw_okq (⟨"SunCourtModel", "firstBreach", "(II)I"⟩, 43) := ⟨⟨by decide +kernel, by decide +kernel⟩, List.mem_of_getElem? (i := 487) (by decide +kernel), List.mem_of_getElem? (i := 782) (by decide +kernel), List.mem_of_getElem? (i := 783) (by decide +kernel)⟩
def lw_privs_3 : List (MethodName × Nat) := [(⟨"SunCourtModel", "ask", "()V"⟩, 43), (⟨"SunCourtModel", "isKept", "(I)Z"⟩, 43), (⟨"SunCourtModel", "fallsOn", "(I)I"⟩, 43), (⟨"SunCourtModel", "firstBreach", "(II)I"⟩, 43)]
theorem lw_r3 : ∀ q ∈ lw_privs_3, lw_okq q := List.forall_mem_cons.mpr ⟨lw_p32, List.forall_mem_cons.mpr ⟨lw_p33, List.forall_mem_cons.mpr ⟨lw_p34, List.forall_mem_cons.mpr ⟨lw_p35, fun _ h => absurd h List.not_mem_nil⟩⟩⟩⟩
def lw_privs : List (MethodName × Nat) := lw_privs_1 ++ (lw_privs_2 ++ (lw_privs_3))
def lw_tbl : List Cond := k2_sels lw_privs ++ tables_1
theorem lw_privs_ok : ∀ q ∈ lw_privs, lw_okq q := by
  show ∀ q ∈ lw_privs_1 ++ (lw_privs_2 ++ (lw_privs_3)), lw_okq q
  exact List.forall_mem_append.mpr ⟨lw_r1, List.forall_mem_append.mpr ⟨lw_r2, lw_r3⟩⟩
end
section
/-! ===== BEGIN words of one list among another's, by their places ===== -/
theorem goodIn_r {big : List Cond} (ws : List Cond) (ps : List Nat) (hp : ws = ps.filterMap (fun i => big[i]?)) (h : ws.all goodWord = true) : GoodIn big ws := by
  intro w hw
  have h1 := List.all_eq_true.mp h w hw
  rw [hp] at hw
  obtain ⟨i, -, hi⟩ := List.mem_filterMap.mp hw
  have hm : w ∈ big := by first | exact List.mem_of_getElem? hi | exact List.getElem?_mem hi
  exact ⟨hm, good_of_word h1⟩
theorem goodIn_app {big a b : List Cond} (ha : GoodIn big a) (hb : GoodIn big b) : GoodIn big (a ++ b) := fun w h => (List.mem_append.mp h).elim (ha w) (hb w)
theorem goodIn_ca {big a b : List Cond} {c : Cond} (ha : GoodIn big (c :: a)) (hb : GoodIn big b) : GoodIn big (c :: (a ++ b)) := fun w h => (List.mem_cons.mp h).elim (fun e => ha w (List.mem_cons.mpr (Or.inl e))) (fun h => (List.mem_append.mp h).elim (fun h => ha w (List.mem_cons.mpr (Or.inr h))) (hb w))
theorem goodIn_sub {big ws : List Cond} (hm : ∀ w ∈ ws, w ∈ big) (h : ws.all goodWord = true) : GoodIn big ws := fun w hw => ⟨hm w hw, good_of_word (List.all_eq_true.mp h w hw)⟩
/-! ===== END ===== -/

/-! ===== BEGIN printed: names, fields, word lists, decode rows ===== -/
def RX0 : String := "SunCourt$Beam"
def TX0 : u_T := fun k => match k with
  | 0 => ("SunCourt$Beam", "way", "[I", true)
  | 1 => ("SunCourt$Beam", "startLeast", "[I", true)
  | 2 => ("SunCourt$Beam", "startMost", "[I", true)
  | 3 => ("SunCourt$Beam", "enterOver", "I", false)
  | _ => ("SunCourt$Beam", "enterUnder", "I", false)
def tyX0 : Nat → FieldType := fun k => match k with
  | 0 => .array .int
  | 1 => .array .int
  | 2 => .array .int
  | 3 => .int
  | _ => .int
abbrev wsX00 : List Cond := u_ws RX0 TX0 5
theorem nmX0 : ∀ a, a < 5 → ∀ b, b < 5 → a ≠ b → (TX0 a).2.1 ≠ (TX0 b).2.1 := by decide +kernel
theorem tyX0_ok : ∀ k, k < 5 → parseFieldDescriptor (TX0 k).2.2.1 = some (tyX0 k) := by decide +kernel
abbrev cX0_init : ByteArray := prog_2_method_1_code
def yX0_init : MethodName := ⟨RX0, "<init>", "()V"⟩
abbrev cX0_startAt : ByteArray := prog_2_method_2_code
def yX0_startAt : MethodName := ⟨RX0, "startAt", "(III)V"⟩
abbrev cX0_meets : ByteArray := prog_2_method_3_code
def yX0_meets : MethodName := ⟨RX0, "meets", "(LSunCourt$Blocks;II)Z"⟩
def RX1 : String := "SunCourt$Blocks"
def TX1 : u_T := fun k => match k with
  | 0 => ("SunCourt$Blocks", "size", "I", false)
  | 1 => ("SunCourt$Blocks", "kind", "[I", true)
  | 2 => ("SunCourt$Blocks", "lesser", "[I", true)
  | 3 => ("SunCourt$Blocks", "greater", "[I", true)
  | 4 => ("SunCourt$Blocks", "greatestTop", "[I", true)
  | 5 => ("SunCourt$Blocks", "through", "[I", true)
  | 6 => ("SunCourt$Blocks", "there", "[Z", true)
  | _ => ("SunCourt$Blocks", "gone", "[Z", true)
def tyX1 : Nat → FieldType := fun k => match k with
  | 0 => .int
  | 1 => .array .int
  | 2 => .array .int
  | 3 => .array .int
  | 4 => .array .int
  | 5 => .array .int
  | 6 => .array .boolean
  | _ => .array .boolean
abbrev wsX10 : List Cond := u_ws RX1 TX1 8
theorem nmX1 : ∀ a, a < 8 → ∀ b, b < 8 → a ≠ b → (TX1 a).2.1 ≠ (TX1 b).2.1 := by decide +kernel
theorem tyX1_ok : ∀ k, k < 8 → parseFieldDescriptor (TX1 k).2.2.1 = some (tyX1 k) := by decide +kernel
abbrev cX1_init : ByteArray := prog_3_method_1_code
def yX1_init : MethodName := ⟨RX1, "<init>", "()V"⟩
abbrev cX1_has : ByteArray := prog_3_method_2_code
def yX1_has : MethodName := ⟨RX1, "has", "(I)Z"⟩
abbrev cX1_isFull : ByteArray := prog_3_method_3_code
def yX1_isFull : MethodName := ⟨RX1, "isFull", "()Z"⟩
abbrev cX1_add : ByteArray := prog_3_method_4_code
def yX1_add : MethodName := ⟨RX1, "add", "(IIIIIII)I"⟩
abbrev cX1_footOf : ByteArray := prog_3_method_5_code
def yX1_footOf : MethodName := ⟨RX1, "footOf", "(I)I"⟩
abbrev cX1_topOf : ByteArray := prog_3_method_6_code
def yX1_topOf : MethodName := ⟨RX1, "topOf", "(I)I"⟩
abbrev cX1_setTop : ByteArray := prog_3_method_7_code
def yX1_setTop : MethodName := ⟨RX1, "setTop", "(II)V"⟩
abbrev cX1_treeFault : ByteArray := prog_3_method_8_code
def yX1_treeFault : MethodName := ⟨RX1, "treeFault", "(I)I"⟩
abbrev cX1_planFault : ByteArray := prog_3_method_9_code
def yX1_planFault : MethodName := ⟨RX1, "planFault", "(I)I"⟩
abbrev cX1_growTrees : ByteArray := prog_3_method_10_code
def yX1_growTrees : MethodName := ⟨RX1, "growTrees", "()Z"⟩
def RX2 : String := "SunCourt$Shade"
def TX2 : u_T := fun k => match k with
  | 0 => ("SunCourt$Shade", "size", "I", false)
  | 1 => ("SunCourt$Shade", "number", "[I", true)
  | 2 => ("SunCourt$Shade", "top", "[I", true)
  | _ => ("SunCourt$Shade", "passes", "[I", true)
def tyX2 : Nat → FieldType := fun k => match k with
  | 0 => .int
  | 1 => .array .int
  | 2 => .array .int
  | _ => .array .int
abbrev wsX20 : List Cond := u_ws RX2 TX2 4
theorem nmX2 : ∀ a, a < 4 → ∀ b, b < 4 → a ≠ b → (TX2 a).2.1 ≠ (TX2 b).2.1 := by decide +kernel
theorem tyX2_ok : ∀ k, k < 4 → parseFieldDescriptor (TX2 k).2.2.1 = some (tyX2 k) := by decide +kernel
abbrev cX2_init : ByteArray := prog_4_method_1_code
def yX2_init : MethodName := ⟨RX2, "<init>", "()V"⟩
abbrev cX2_gather : ByteArray := prog_4_method_2_code
def yX2_gather : MethodName := ⟨RX2, "gather", "(LSunCourt$Blocks;LSunCourt$Beam;III)V"⟩
abbrev cX2_lightAlong : ByteArray := prog_4_method_3_code
def yX2_lightAlong : MethodName := ⟨RX2, "lightAlong", "(LSunCourt$Blocks;LSunCourt$Beam;)I"⟩
abbrev cX2_nearestAlong : ByteArray := prog_4_method_4_code
def yX2_nearestAlong : MethodName := ⟨RX2, "nearestAlong", "(LSunCourt$Blocks;LSunCourt$Beam;)I"⟩
def RX3 : String := "SunCourt$Sky"
def TX3 : u_T := fun k => match k with
  | 0 => ("SunCourt$Sky", "minutes", "[I", true)
  | _ => ("SunCourt$Sky", "ways", "[I", true)
def tyX3 : Nat → FieldType := fun k => match k with
  | 0 => .array .int
  | _ => .array .int
abbrev wsX30 : List Cond := u_ws RX3 TX3 2
theorem nmX3 : ∀ a, a < 2 → ∀ b, b < 2 → a ≠ b → (TX3 a).2.1 ≠ (TX3 b).2.1 := by decide +kernel
theorem tyX3_ok : ∀ k, k < 2 → parseFieldDescriptor (TX3 k).2.2.1 = some (tyX3 k) := by decide +kernel
abbrev cX3_init : ByteArray := prog_5_method_1_code
def yX3_init : MethodName := ⟨RX3, "<init>", "()V"⟩
abbrev cX3_has : ByteArray := prog_5_method_2_code
def yX3_has : MethodName := ⟨RX3, "has", "(II)Z"⟩
abbrev cX3_isFull : ByteArray := prog_5_method_3_code
def yX3_isFull : MethodName := ⟨RX3, "isFull", "(I)Z"⟩
abbrev cX3_add : ByteArray := prog_5_method_4_code
def yX3_add : MethodName := ⟨RX3, "add", "(IIII)I"⟩
abbrev cX3_minutesInAll : ByteArray := prog_5_method_5_code
def yX3_minutesInAll : MethodName := ⟨RX3, "minutesInAll", "()I"⟩
abbrev cX3_turn : ByteArray := prog_5_method_6_code
def yX3_turn : MethodName := ⟨RX3, "turn", "(IILSunCourt$Beam;)V"⟩
def RX4 : String := "SunCourt$Windows"
def TX4 : u_T := fun k => match k with
  | 0 => ("SunCourt$Windows", "size", "I", false)
  | 1 => ("SunCourt$Windows", "side", "[I", true)
  | 2 => ("SunCourt$Windows", "wallAxis", "[I", true)
  | 3 => ("SunCourt$Windows", "wall", "[I", true)
  | 4 => ("SunCourt$Windows", "leastU", "[I", true)
  | 5 => ("SunCourt$Windows", "leastZ", "[I", true)
  | 6 => ("SunCourt$Windows", "width", "[I", true)
  | 7 => ("SunCourt$Windows", "height", "[I", true)
  | 8 => ("SunCourt$Windows", "right", "[I", true)
  | _ => ("SunCourt$Windows", "released", "[Z", true)
def tyX4 : Nat → FieldType := fun k => match k with
  | 0 => .int
  | 1 => .array .int
  | 2 => .array .int
  | 3 => .array .int
  | 4 => .array .int
  | 5 => .array .int
  | 6 => .array .int
  | 7 => .array .int
  | 8 => .array .int
  | _ => .array .boolean
abbrev wsX40 : List Cond := u_ws RX4 TX4 10
theorem nmX4 : ∀ a, a < 10 → ∀ b, b < 10 → a ≠ b → (TX4 a).2.1 ≠ (TX4 b).2.1 := by decide +kernel
theorem tyX4_ok : ∀ k, k < 10 → parseFieldDescriptor (TX4 k).2.2.1 = some (tyX4 k) := by decide +kernel
abbrev cX4_init : ByteArray := prog_6_method_1_code
def yX4_init : MethodName := ⟨RX4, "<init>", "()V"⟩
abbrev cX4_has : ByteArray := prog_6_method_2_code
def yX4_has : MethodName := ⟨RX4, "has", "(I)Z"⟩
abbrev cX4_hasCell : ByteArray := prog_6_method_3_code
def yX4_hasCell : MethodName := ⟨RX4, "hasCell", "(II)Z"⟩
abbrev cX4_isFull : ByteArray := prog_6_method_4_code
def yX4_isFull : MethodName := ⟨RX4, "isFull", "()Z"⟩
abbrev cX4_add : ByteArray := prog_6_method_5_code
def yX4_add : MethodName := ⟨RX4, "add", "(IIIIII)I"⟩
abbrev cX4_cellsOf : ByteArray := prog_6_method_6_code
def yX4_cellsOf : MethodName := ⟨RX4, "cellsOf", "(I)I"⟩
abbrev cX4_isKept : ByteArray := prog_6_method_7_code
def yX4_isKept : MethodName := ⟨RX4, "isKept", "(I)Z"⟩
abbrev cX4_keptOnes : ByteArray := prog_6_method_8_code
def yX4_keptOnes : MethodName := ⟨RX4, "keptOnes", "()I"⟩
abbrev cX4_faces : ByteArray := prog_6_method_9_code
def yX4_faces : MethodName := ⟨RX4, "faces", "(ILSunCourt$Beam;)Z"⟩
abbrev cX4_standOn : ByteArray := prog_6_method_10_code
def yX4_standOn : MethodName := ⟨RX4, "standOn", "(IILSunCourt$Beam;)V"⟩
abbrev cX4_standOnAll : ByteArray := prog_6_method_11_code
def yX4_standOnAll : MethodName := ⟨RX4, "standOnAll", "(ILSunCourt$Beam;)V"⟩
abbrev cX4_middle : ByteArray := prog_6_method_12_code
def yX4_middle : MethodName := ⟨RX4, "middle", "(I)I"⟩
def RX5 : String := "SunCourt"
def TX5 : u_T := fun k => match k with
  | 0 => ("SunCourt", "sky", "LSunCourt$Sky;", true)
  | 1 => ("SunCourt", "blocks", "LSunCourt$Blocks;", true)
  | 2 => ("SunCourt", "windows", "LSunCourt$Windows;", true)
  | 3 => ("SunCourt", "beam", "LSunCourt$Beam;", true)
  | 4 => ("SunCourt", "shade", "LSunCourt$Shade;", true)
  | 5 => ("SunCourt", "leastHours", "[I", true)
  | 6 => ("SunCourt", "refusals", "[I", true)
  | 7 => ("SunCourt", "litBits", "[I", true)
  | 8 => ("SunCourt", "litPart", "I", false)
  | _ => ("SunCourt", "year", "I", false)
def tyX5 : Nat → FieldType := fun k => match k with
  | 0 => .object "SunCourt$Sky"
  | 1 => .object "SunCourt$Blocks"
  | 2 => .object "SunCourt$Windows"
  | 3 => .object "SunCourt$Beam"
  | 4 => .object "SunCourt$Shade"
  | 5 => .array .int
  | 6 => .array .int
  | 7 => .array .int
  | 8 => .int
  | _ => .int
abbrev wsX50 : List Cond := u_ws RX5 TX5 10
theorem nmX5 : ∀ a, a < 10 → ∀ b, b < 10 → a ≠ b → (TX5 a).2.1 ≠ (TX5 b).2.1 := by decide +kernel
theorem tyX5_ok : ∀ k, k < 10 → parseFieldDescriptor (TX5 k).2.2.1 = some (tyX5 k) := by decide +kernel
abbrev cX5_init : ByteArray := prog_1_method_1_code
def yX5_init : MethodName := ⟨RX5, "<init>", "()V"⟩
abbrev cX5_minute : ByteArray := prog_1_method_2_code
def yX5_minute : MethodName := ⟨RX5, "minute", "(IIII)I"⟩
abbrev cX5_block : ByteArray := prog_1_method_3_code
def yX5_block : MethodName := ⟨RX5, "block", "(IIIIIII)I"⟩
abbrev cX5_share : ByteArray := prog_1_method_4_code
def yX5_share : MethodName := ⟨RX5, "share", "(III)I"⟩
abbrev cX5_most : ByteArray := prog_1_method_5_code
def yX5_most : MethodName := ⟨RX5, "most", "(II)I"⟩
abbrev cX5_cut : ByteArray := prog_1_method_6_code
def yX5_cut : MethodName := ⟨RX5, "cut", "(II)I"⟩
abbrev cX5_build : ByteArray := prog_1_method_7_code
def yX5_build : MethodName := ⟨RX5, "build", "(I)I"⟩
abbrev cX5_go : ByteArray := prog_1_method_8_code
def yX5_go : MethodName := ⟨RX5, "go", "(I)I"⟩
abbrev cX5_window : ByteArray := prog_1_method_9_code
def yX5_window : MethodName := ⟨RX5, "window", "(IIIIII)I"⟩
abbrev cX5_part : ByteArray := prog_1_method_10_code
def yX5_part : MethodName := ⟨RX5, "part", "(I)I"⟩
abbrev cX5_law : ByteArray := prog_1_method_11_code
def yX5_law : MethodName := ⟨RX5, "law", "(II)I"⟩
abbrev cX5_sun : ByteArray := prog_1_method_12_code
def yX5_sun : MethodName := ⟨RX5, "sun", "(III)I"⟩
abbrev cX5_light : ByteArray := prog_1_method_13_code
def yX5_light : MethodName := ⟨RX5, "light", "(IIII)I"⟩
abbrev cX5_taker : ByteArray := prog_1_method_14_code
def yX5_taker : MethodName := ⟨RX5, "taker", "(IIII)I"⟩
abbrev cX5_takes : ByteArray := prog_1_method_15_code
def yX5_takes : MethodName := ⟨RX5, "takes", "(III)I"⟩
abbrev cX5_hours : ByteArray := prog_1_method_16_code
def yX5_hours : MethodName := ⟨RX5, "hours", "(II)I"⟩
abbrev cX5_loss : ByteArray := prog_1_method_17_code
def yX5_loss : MethodName := ⟨RX5, "loss", "(III)I"⟩
abbrev cX5_high : ByteArray := prog_1_method_18_code
def yX5_high : MethodName := ⟨RX5, "high", "(I)I"⟩
abbrev cX5_breach : ByteArray := prog_1_method_19_code
def yX5_breach : MethodName := ⟨RX5, "breach", "(II)I"⟩
abbrev cX5_years : ByteArray := prog_1_method_20_code
def yX5_years : MethodName := ⟨RX5, "years", "(I)I"⟩
abbrev cX5_release : ByteArray := prog_1_method_21_code
def yX5_release : MethodName := ⟨RX5, "release", "(I)Z"⟩
abbrev cX5_blockOf : ByteArray := prog_1_method_22_code
def yX5_blockOf : MethodName := ⟨RX5, "blockOf", "(II)I"⟩
abbrev cX5_windowOf : ByteArray := prog_1_method_23_code
def yX5_windowOf : MethodName := ⟨RX5, "windowOf", "(II)I"⟩
abbrev cX5_count : ByteArray := prog_1_method_24_code
def yX5_count : MethodName := ⟨RX5, "count", "(I)I"⟩
abbrev cX5_isDay : ByteArray := prog_1_method_25_code
def yX5_isDay : MethodName := ⟨RX5, "isDay", "(I)Z"⟩
abbrev cX5_refuse : ByteArray := prog_1_method_26_code
def yX5_refuse : MethodName := ⟨RX5, "refuse", "(I)I"⟩
abbrev cX5_refuseAsTold : ByteArray := prog_1_method_27_code
def yX5_refuseAsTold : MethodName := ⟨RX5, "refuseAsTold", "(I)I"⟩
abbrev cX5_forgetLight : ByteArray := prog_1_method_28_code
def yX5_forgetLight : MethodName := ⟨RX5, "forgetLight", "()V"⟩
abbrev cX5_aim : ByteArray := prog_1_method_29_code
def yX5_aim : MethodName := ⟨RX5, "aim", "(III)Z"⟩
abbrev cX5_sunAt : ByteArray := prog_1_method_30_code
def yX5_sunAt : MethodName := ⟨RX5, "sunAt", "(IIIII)I"⟩
abbrev cX5_cellsTaken : ByteArray := prog_1_method_31_code
def yX5_cellsTaken : MethodName := ⟨RX5, "cellsTaken", "(IIII)I"⟩
abbrev cX5_isLitBy : ByteArray := prog_1_method_32_code
def yX5_isLitBy : MethodName := ⟨RX5, "isLitBy", "(II)Z"⟩
abbrev cX5_litMinutes : ByteArray := prog_1_method_33_code
def yX5_litMinutes : MethodName := ⟨RX5, "litMinutes", "(II)I"⟩
abbrev cX5_hoursWith : ByteArray := prog_1_method_34_code
def yX5_hoursWith : MethodName := ⟨RX5, "hoursWith", "(IIIII)I"⟩
abbrev cX5_firstFall : ByteArray := prog_1_method_35_code
def yX5_firstFall : MethodName := ⟨RX5, "firstFall", "(I)I"⟩
abbrev cX5_firstFallWith : ByteArray := prog_1_method_36_code
def yX5_firstFallWith : MethodName := ⟨RX5, "firstFallWith", "(III)I"⟩
abbrev cX5_firstBreach : ByteArray := prog_1_method_37_code
def yX5_firstBreach : MethodName := ⟨RX5, "firstBreach", "(II)I"⟩
abbrev cX5_lawfulWindows : ByteArray := prog_1_method_38_code
def yX5_lawfulWindows : MethodName := ⟨RX5, "lawfulWindows", "()I"⟩
abbrev cX5_passYear : ByteArray := prog_1_method_39_code
def yX5_passYear : MethodName := ⟨RX5, "passYear", "()V"⟩
def RX6 : String := "SunCourtModel"
def TX6 : u_T := fun k => match k with
  | 0 => ("SunCourtModel", "minutes", "[I", true)
  | 1 => ("SunCourtModel", "wayX", "[I", true)
  | 2 => ("SunCourtModel", "wayY", "[I", true)
  | 3 => ("SunCourtModel", "wayZ", "[I", true)
  | 4 => ("SunCourtModel", "law", "[I", true)
  | 5 => ("SunCourtModel", "part", "I", false)
  | 6 => ("SunCourtModel", "year", "I", false)
  | 7 => ("SunCourtModel", "blocks", "I", false)
  | 8 => ("SunCourtModel", "kind", "[I", true)
  | 9 => ("SunCourtModel", "x0", "[I", true)
  | 10 => ("SunCourtModel", "x1", "[I", true)
  | 11 => ("SunCourtModel", "y0", "[I", true)
  | 12 => ("SunCourtModel", "y1", "[I", true)
  | 13 => ("SunCourtModel", "foot", "[I", true)
  | 14 => ("SunCourtModel", "top", "[I", true)
  | 15 => ("SunCourtModel", "most", "[I", true)
  | 16 => ("SunCourtModel", "share", "[I", true)
  | 17 => ("SunCourtModel", "built", "[Z", true)
  | 18 => ("SunCourtModel", "gone", "[Z", true)
  | 19 => ("SunCourtModel", "windows", "I", false)
  | 20 => ("SunCourtModel", "side", "[I", true)
  | 21 => ("SunCourtModel", "at", "[I", true)
  | 22 => ("SunCourtModel", "u0", "[I", true)
  | 23 => ("SunCourtModel", "u1", "[I", true)
  | 24 => ("SunCourtModel", "z0", "[I", true)
  | 25 => ("SunCourtModel", "z1", "[I", true)
  | 26 => ("SunCourtModel", "right", "[I", true)
  | 27 => ("SunCourtModel", "released", "[Z", true)
  | 28 => ("SunCourtModel", "refused", "[I", true)
  | 29 => ("SunCourtModel", "thought", "I", false)
  | 30 => ("SunCourtModel", "thoughtTop", "I", false)
  | 31 => ("SunCourtModel", "lowTop", "I", false)
  | 32 => ("SunCourtModel", "lowUnder", "I", false)
  | 33 => ("SunCourtModel", "highTop", "I", false)
  | 34 => ("SunCourtModel", "highUnder", "I", false)
  | 35 => ("SunCourtModel", "isOut", "Z", false)
  | 36 => ("SunCourtModel", "pointX", "I", false)
  | 37 => ("SunCourtModel", "pointY", "I", false)
  | 38 => ("SunCourtModel", "pointZ", "I", false)
  | 39 => ("SunCourtModel", "toX", "I", false)
  | 40 => ("SunCourtModel", "toY", "I", false)
  | 41 => ("SunCourtModel", "toZ", "I", false)
  | _ => ("SunCourtModel", "asked", "[Z", true)
def tyX6 : Nat → FieldType := fun k => match k with
  | 0 => .array .int
  | 1 => .array .int
  | 2 => .array .int
  | 3 => .array .int
  | 4 => .array .int
  | 5 => .int
  | 6 => .int
  | 7 => .int
  | 8 => .array .int
  | 9 => .array .int
  | 10 => .array .int
  | 11 => .array .int
  | 12 => .array .int
  | 13 => .array .int
  | 14 => .array .int
  | 15 => .array .int
  | 16 => .array .int
  | 17 => .array .boolean
  | 18 => .array .boolean
  | 19 => .int
  | 20 => .array .int
  | 21 => .array .int
  | 22 => .array .int
  | 23 => .array .int
  | 24 => .array .int
  | 25 => .array .int
  | 26 => .array .int
  | 27 => .array .boolean
  | 28 => .array .int
  | 29 => .int
  | 30 => .int
  | 31 => .int
  | 32 => .int
  | 33 => .int
  | 34 => .int
  | 35 => .boolean
  | 36 => .int
  | 37 => .int
  | 38 => .int
  | 39 => .int
  | 40 => .int
  | 41 => .int
  | _ => .array .boolean
abbrev wsX60 : List Cond := u_ws RX6 TX6 43
theorem nmX6 : ∀ a, a < 43 → ∀ b, b < 43 → a ≠ b → (TX6 a).2.1 ≠ (TX6 b).2.1 := by decide +kernel
theorem tyX6_ok : ∀ k, k < 43 → parseFieldDescriptor (TX6 k).2.2.1 = some (tyX6 k) := by decide +kernel
abbrev cX6_init : ByteArray := prog_8_method_1_code
def yX6_init : MethodName := ⟨RX6, "<init>", "()V"⟩
abbrev cX6_in : ByteArray := prog_8_method_3_code
def yX6_in : MethodName := ⟨RX6, "in", "(III)Z"⟩
abbrev cX6_refuse : ByteArray := prog_8_method_4_code
def yX6_refuse : MethodName := ⟨RX6, "refuse", "(I)I"⟩
abbrev cX6_refuseBig : ByteArray := prog_8_method_5_code
def yX6_refuseBig : MethodName := ⟨RX6, "refuseBig", "(I)I"⟩
abbrev cX6_isBlock : ByteArray := prog_8_method_6_code
def yX6_isBlock : MethodName := ⟨RX6, "isBlock", "(I)Z"⟩
abbrev cX6_isWindow : ByteArray := prog_8_method_7_code
def yX6_isWindow : MethodName := ⟨RX6, "isWindow", "(I)Z"⟩
abbrev cX6_isDay : ByteArray := prog_8_method_8_code
def yX6_isDay : MethodName := ⟨RX6, "isDay", "(I)Z"⟩
abbrev cX6_isMinute : ByteArray := prog_8_method_9_code
def yX6_isMinute : MethodName := ⟨RX6, "isMinute", "(II)Z"⟩
abbrev cX6_cellsOf : ByteArray := prog_8_method_10_code
def yX6_cellsOf : MethodName := ⟨RX6, "cellsOf", "(I)I"⟩
abbrev cX6_minute : ByteArray := prog_8_method_11_code
def yX6_minute : MethodName := ⟨RX6, "minute", "(IIII)I"⟩
abbrev cX6_block : ByteArray := prog_8_method_12_code
def yX6_block : MethodName := ⟨RX6, "block", "(IIIIIII)I"⟩
abbrev cX6_share : ByteArray := prog_8_method_13_code
def yX6_share : MethodName := ⟨RX6, "share", "(III)I"⟩
abbrev cX6_most : ByteArray := prog_8_method_14_code
def yX6_most : MethodName := ⟨RX6, "most", "(II)I"⟩
abbrev cX6_cut : ByteArray := prog_8_method_15_code
def yX6_cut : MethodName := ⟨RX6, "cut", "(II)I"⟩
abbrev cX6_lackOfPlan : ByteArray := prog_8_method_16_code
def yX6_lackOfPlan : MethodName := ⟨RX6, "lackOfPlan", "(I)I"⟩
abbrev cX6_build : ByteArray := prog_8_method_17_code
def yX6_build : MethodName := ⟨RX6, "build", "(I)I"⟩
abbrev cX6_go : ByteArray := prog_8_method_18_code
def yX6_go : MethodName := ⟨RX6, "go", "(I)I"⟩
abbrev cX6_window : ByteArray := prog_8_method_19_code
def yX6_window : MethodName := ⟨RX6, "window", "(IIIIII)I"⟩
abbrev cX6_part : ByteArray := prog_8_method_20_code
def yX6_part : MethodName := ⟨RX6, "part", "(I)I"⟩
abbrev cX6_law : ByteArray := prog_8_method_21_code
def yX6_law : MethodName := ⟨RX6, "law", "(II)I"⟩
abbrev cX6_isThere : ByteArray := prog_8_method_22_code
def yX6_isThere : MethodName := ⟨RX6, "isThere", "(I)Z"⟩
abbrev cX6_topOf : ByteArray := prog_8_method_23_code
def yX6_topOf : MethodName := ⟨RX6, "topOf", "(I)I"⟩
abbrev cX6_show : ByteArray := prog_8_method_24_code
def yX6_show : MethodName := ⟨RX6, "show", "(III)V"⟩
abbrev cX6_isInFront : ByteArray := prog_8_method_25_code
def yX6_isInFront : MethodName := ⟨RX6, "isInFront", "(II)Z"⟩
abbrev cX6_bound : ByteArray := prog_8_method_26_code
def yX6_bound : MethodName := ⟨RX6, "bound", "(IIII)V"⟩
abbrev cX6_stands : ByteArray := prog_8_method_27_code
def yX6_stands : MethodName := ⟨RX6, "stands", "(I)Z"⟩
abbrev cX6_lightOf : ByteArray := prog_8_method_28_code
def yX6_lightOf : MethodName := ⟨RX6, "lightOf", "(IIII)I"⟩
abbrev cX6_sunOf : ByteArray := prog_8_method_29_code
def yX6_sunOf : MethodName := ⟨RX6, "sunOf", "(III)I"⟩
abbrev cX6_hoursOf : ByteArray := prog_8_method_30_code
def yX6_hoursOf : MethodName := ⟨RX6, "hoursOf", "(II)I"⟩
abbrev cX6_fallsOn : ByteArray := prog_8_method_31_code
def yX6_fallsOn : MethodName := ⟨RX6, "fallsOn", "(I)I"⟩
abbrev cX6_sun : ByteArray := prog_8_method_32_code
def yX6_sun : MethodName := ⟨RX6, "sun", "(III)I"⟩
abbrev cX6_light : ByteArray := prog_8_method_33_code
def yX6_light : MethodName := ⟨RX6, "light", "(IIII)I"⟩
abbrev cX6_takerOf : ByteArray := prog_8_method_34_code
def yX6_takerOf : MethodName := ⟨RX6, "takerOf", "(IIII)I"⟩
abbrev cX6_taker : ByteArray := prog_8_method_35_code
def yX6_taker : MethodName := ⟨RX6, "taker", "(IIII)I"⟩
abbrev cX6_takes : ByteArray := prog_8_method_36_code
def yX6_takes : MethodName := ⟨RX6, "takes", "(III)I"⟩
abbrev cX6_hours : ByteArray := prog_8_method_37_code
def yX6_hours : MethodName := ⟨RX6, "hours", "(II)I"⟩
abbrev cX6_think : ByteArray := prog_8_method_38_code
def yX6_think : MethodName := ⟨RX6, "think", "(II)V"⟩
abbrev cX6_loss : ByteArray := prog_8_method_39_code
def yX6_loss : MethodName := ⟨RX6, "loss", "(III)I"⟩
abbrev cX6_isKept : ByteArray := prog_8_method_40_code
def yX6_isKept : MethodName := ⟨RX6, "isKept", "(I)Z"⟩
abbrev cX6_ask : ByteArray := prog_8_method_41_code
def yX6_ask : MethodName := ⟨RX6, "ask", "()V"⟩
abbrev cX6_firstBreach : ByteArray := prog_8_method_42_code
def yX6_firstBreach : MethodName := ⟨RX6, "firstBreach", "(II)I"⟩
abbrev cX6_high : ByteArray := prog_8_method_43_code
def yX6_high : MethodName := ⟨RX6, "high", "(I)I"⟩
abbrev cX6_breach : ByteArray := prog_8_method_44_code
def yX6_breach : MethodName := ⟨RX6, "breach", "(II)I"⟩
abbrev cX6_years : ByteArray := prog_8_method_45_code
def yX6_years : MethodName := ⟨RX6, "years", "(I)I"⟩
abbrev cX6_release : ByteArray := prog_8_method_46_code
def yX6_release : MethodName := ⟨RX6, "release", "(I)Z"⟩
abbrev cX6_blockOf : ByteArray := prog_8_method_47_code
def yX6_blockOf : MethodName := ⟨RX6, "blockOf", "(II)I"⟩
abbrev cX6_windowOf : ByteArray := prog_8_method_48_code
def yX6_windowOf : MethodName := ⟨RX6, "windowOf", "(II)I"⟩
abbrev cX6_count : ByteArray := prog_8_method_49_code
def yX6_count : MethodName := ⟨RX6, "count", "(I)I"⟩
def RJ6 : String := "java/lang/Integer"
def TJ6 : u_T := fun k => match k with
  | _ => ("", "", "", false)
def tyJ6 : Nat → FieldType := fun k => match k with
  | _ => .int
abbrev wsJ60 : List Cond := u_ws RJ6 TJ6 0
theorem nmJ6 : ∀ a, a < 0 → ∀ b, b < 0 → a ≠ b → (TJ6 a).2.1 ≠ (TJ6 b).2.1 := by decide +kernel
theorem tyJ6_ok : ∀ k, k < 0 → parseFieldDescriptor (TJ6 k).2.2.1 = some (tyJ6 k) := by decide +kernel
abbrev cJ6_bitCount_0f7a4 : ByteArray := prog_9_method_49_code
def yJ6_bitCount_0f7a4 : MethodName := ⟨RJ6, "bitCount", "(I)I"⟩
def RJ9 : String := "java/lang/Math"
def TJ9 : u_T := fun k => match k with
  | _ => ("", "", "", false)
def tyJ9 : Nat → FieldType := fun k => match k with
  | _ => .int
abbrev wsJ90 : List Cond := u_ws RJ9 TJ9 0
theorem nmJ9 : ∀ a, a < 0 → ∀ b, b < 0 → a ≠ b → (TJ9 a).2.1 ≠ (TJ9 b).2.1 := by decide +kernel
theorem tyJ9_ok : ∀ k, k < 0 → parseFieldDescriptor (TJ9 k).2.2.1 = some (tyJ9 k) := by decide +kernel
abbrev cJ9_max_7cf53 : ByteArray := prog_10_method_65_code
def yJ9_max_7cf53 : MethodName := ⟨RJ9, "max", "(II)I"⟩
def RJ7 : String := "java/util/Arrays"
def TJ7 : u_T := fun k => match k with
  | _ => ("", "", "", false)
def tyJ7 : Nat → FieldType := fun k => match k with
  | _ => .int
abbrev wsJ70 : List Cond := u_ws RJ7 TJ7 0
theorem nmJ7 : ∀ a, a < 0 → ∀ b, b < 0 → a ≠ b → (TJ7 a).2.1 ≠ (TJ7 b).2.1 := by decide +kernel
theorem tyJ7_ok : ∀ k, k < 0 → parseFieldDescriptor (TJ7 k).2.2.1 = some (tyJ7 k) := by decide +kernel
abbrev cJ7_fill_53178 : ByteArray := prog_11_method_103_code
def yJ7_fill_53178 : MethodName := ⟨RJ7, "fill", "([II)V"⟩
def RL : String := "SunCourtLaw"
abbrev cL_law : ByteArray := code
def yL_law : MethodName := ⟨RL, "law", "([I)Z"⟩
abbrev vwCl : List vw_C := [(RX0, TX0, 5), (RX1, TX1, 8), (RX2, TX2, 4), (RX3, TX3, 2), (RX4, TX4, 10), (RX5, TX5, 10), (RX6, TX6, 43)]
/-- the words that every method's contract takes -/
def lw_big : List Cond := lw_tbl.filter goodWord
theorem big_of {w : Cond} (h : w ∈ lw_tbl) (g : goodWord w = true) : w ∈ lw_big := List.mem_filter.mpr ⟨h, g⟩
theorem big_s {w : Cond} {i : Nat} (h : (k2_sels lw_privs)[i]? = some w) (g : goodWord w = true) : w ∈ lw_big := big_of (List.mem_append_left _ (List.mem_of_getElem? h)) g
theorem big_t {w : Cond} (h : w ∈ tables_1) (g : goodWord w = true) : w ∈ lw_big := big_of (List.mem_append_right _ h) g
theorem big_1 {w : Cond} {i : Nat} (h : tables_1_1[i]? = some w) (g : goodWord w = true) : w ∈ lw_big := big_t (List.mem_append_left _ (List.mem_of_getElem? h)) g
theorem big_2 {w : Cond} {i : Nat} (h : tables_1_2[i]? = some w) (g : goodWord w = true) : w ∈ lw_big := big_t (List.mem_append_right _ (List.mem_append_left _ (List.mem_of_getElem? h))) g
theorem big_3 {w : Cond} {i : Nat} (h : tables_1_3[i]? = some w) (g : goodWord w = true) : w ∈ lw_big := big_t (List.mem_append_right _ (List.mem_append_right _ (List.mem_append_left _ (List.mem_of_getElem? h)))) g
theorem big_4 {w : Cond} {i : Nat} (h : tables_1_4[i]? = some w) (g : goodWord w = true) : w ∈ lw_big := big_t (List.mem_append_right _ (List.mem_append_right _ (List.mem_append_right _ (List.mem_of_getElem? h)))) g
theorem big_in : ∀ w ∈ lw_big, w ∈ lw_tbl := fun _ h => (List.mem_filter.mp h).1
theorem big_good {w : Cond} (h : w ∈ lw_big) : goodWord w = true := (List.mem_filter.mp h).2
theorem layX0_k : ∀ k, k < 5 → u_lay RX0 TX0 k ∈ lw_big := fun k hk => match k, hk with
  | 0, _ => big_1 (i := 133) rfl rfl
  | 1, _ => big_1 (i := 135) rfl rfl
  | 2, _ => big_1 (i := 137) rfl rfl
  | 3, _ => big_1 (i := 139) rfl rfl
  | 4, _ => big_1 (i := 141) rfl rfl
  | _ + 5, h => absurd h (by omega)
theorem inlX0 : ∀ w ∈ u_ws RX0 TX0 5, w ∈ lw_big := fun w h => by
  obtain ⟨k, hk, rfl⟩ := List.mem_map.mp h
  exact layX0_k k (List.mem_range.mp hk)
theorem layX1_k : ∀ k, k < 8 → u_lay RX1 TX1 k ∈ lw_big := fun k hk => match k, hk with
  | 0, _ => big_1 (i := 59) rfl rfl
  | 1, _ => big_1 (i := 61) rfl rfl
  | 2, _ => big_1 (i := 63) rfl rfl
  | 3, _ => big_1 (i := 65) rfl rfl
  | 4, _ => big_1 (i := 67) rfl rfl
  | 5, _ => big_1 (i := 69) rfl rfl
  | 6, _ => big_1 (i := 71) rfl rfl
  | 7, _ => big_1 (i := 73) rfl rfl
  | _ + 8, h => absurd h (by omega)
theorem inlX1 : ∀ w ∈ u_ws RX1 TX1 8, w ∈ lw_big := fun w h => by
  obtain ⟨k, hk, rfl⟩ := List.mem_map.mp h
  exact layX1_k k (List.mem_range.mp hk)
theorem layX2_k : ∀ k, k < 4 → u_lay RX2 TX2 k ∈ lw_big := fun k hk => match k, hk with
  | 0, _ => big_1 (i := 155) rfl rfl
  | 1, _ => big_1 (i := 157) rfl rfl
  | 2, _ => big_1 (i := 159) rfl rfl
  | 3, _ => big_1 (i := 161) rfl rfl
  | _ + 4, h => absurd h (by omega)
theorem inlX2 : ∀ w ∈ u_ws RX2 TX2 4, w ∈ lw_big := fun w h => by
  obtain ⟨k, hk, rfl⟩ := List.mem_map.mp h
  exact layX2_k k (List.mem_range.mp hk)
theorem layX3_k : ∀ k, k < 2 → u_lay RX3 TX3 k ∈ lw_big := fun k hk => match k, hk with
  | 0, _ => big_1 (i := 28) rfl rfl
  | 1, _ => big_1 (i := 30) rfl rfl
  | _ + 2, h => absurd h (by omega)
theorem inlX3 : ∀ w ∈ u_ws RX3 TX3 2, w ∈ lw_big := fun w h => by
  obtain ⟨k, hk, rfl⟩ := List.mem_map.mp h
  exact layX3_k k (List.mem_range.mp hk)
theorem layX4_k : ∀ k, k < 10 → u_lay RX4 TX4 k ∈ lw_big := fun k hk => match k, hk with
  | 0, _ => big_1 (i := 97) rfl rfl
  | 1, _ => big_1 (i := 99) rfl rfl
  | 2, _ => big_1 (i := 101) rfl rfl
  | 3, _ => big_1 (i := 103) rfl rfl
  | 4, _ => big_1 (i := 105) rfl rfl
  | 5, _ => big_1 (i := 107) rfl rfl
  | 6, _ => big_1 (i := 109) rfl rfl
  | 7, _ => big_1 (i := 111) rfl rfl
  | 8, _ => big_1 (i := 113) rfl rfl
  | 9, _ => big_1 (i := 115) rfl rfl
  | _ + 10, h => absurd h (by omega)
theorem inlX4 : ∀ w ∈ u_ws RX4 TX4 10, w ∈ lw_big := fun w h => by
  obtain ⟨k, hk, rfl⟩ := List.mem_map.mp h
  exact layX4_k k (List.mem_range.mp hk)
theorem layX5_k : ∀ k, k < 10 → u_lay RX5 TX5 k ∈ lw_big := fun k hk => match k, hk with
  | 0, _ => big_1 (i := 177) rfl rfl
  | 1, _ => big_1 (i := 179) rfl rfl
  | 2, _ => big_1 (i := 181) rfl rfl
  | 3, _ => big_1 (i := 183) rfl rfl
  | 4, _ => big_1 (i := 185) rfl rfl
  | 5, _ => big_1 (i := 187) rfl rfl
  | 6, _ => big_1 (i := 189) rfl rfl
  | 7, _ => big_1 (i := 191) rfl rfl
  | 8, _ => big_1 (i := 193) rfl rfl
  | 9, _ => big_1 (i := 195) rfl rfl
  | _ + 10, h => absurd h (by omega)
theorem inlX5 : ∀ w ∈ u_ws RX5 TX5 10, w ∈ lw_big := fun w h => by
  obtain ⟨k, hk, rfl⟩ := List.mem_map.mp h
  exact layX5_k k (List.mem_range.mp hk)
theorem layX6_k : ∀ k, k < 43 → u_lay RX6 TX6 k ∈ lw_big := fun k hk => match k, hk with
  | 0, _ => big_3 (i := 55) rfl rfl
  | 1, _ => big_3 (i := 57) rfl rfl
  | 2, _ => big_3 (i := 59) rfl rfl
  | 3, _ => big_3 (i := 61) rfl rfl
  | 4, _ => big_3 (i := 63) rfl rfl
  | 5, _ => big_3 (i := 65) rfl rfl
  | 6, _ => big_3 (i := 67) rfl rfl
  | 7, _ => big_3 (i := 69) rfl rfl
  | 8, _ => big_3 (i := 71) rfl rfl
  | 9, _ => big_3 (i := 73) rfl rfl
  | 10, _ => big_3 (i := 75) rfl rfl
  | 11, _ => big_3 (i := 77) rfl rfl
  | 12, _ => big_3 (i := 79) rfl rfl
  | 13, _ => big_3 (i := 81) rfl rfl
  | 14, _ => big_3 (i := 83) rfl rfl
  | 15, _ => big_3 (i := 85) rfl rfl
  | 16, _ => big_3 (i := 87) rfl rfl
  | 17, _ => big_3 (i := 89) rfl rfl
  | 18, _ => big_3 (i := 91) rfl rfl
  | 19, _ => big_3 (i := 93) rfl rfl
  | 20, _ => big_3 (i := 95) rfl rfl
  | 21, _ => big_3 (i := 97) rfl rfl
  | 22, _ => big_3 (i := 99) rfl rfl
  | 23, _ => big_3 (i := 101) rfl rfl
  | 24, _ => big_3 (i := 103) rfl rfl
  | 25, _ => big_3 (i := 105) rfl rfl
  | 26, _ => big_3 (i := 107) rfl rfl
  | 27, _ => big_3 (i := 109) rfl rfl
  | 28, _ => big_3 (i := 111) rfl rfl
  | 29, _ => big_3 (i := 113) rfl rfl
  | 30, _ => big_3 (i := 115) rfl rfl
  | 31, _ => big_3 (i := 117) rfl rfl
  | 32, _ => big_3 (i := 119) rfl rfl
  | 33, _ => big_3 (i := 121) rfl rfl
  | 34, _ => big_3 (i := 123) rfl rfl
  | 35, _ => big_3 (i := 125) rfl rfl
  | 36, _ => big_3 (i := 127) rfl rfl
  | 37, _ => big_3 (i := 129) rfl rfl
  | 38, _ => big_3 (i := 131) rfl rfl
  | 39, _ => big_3 (i := 133) rfl rfl
  | 40, _ => big_3 (i := 135) rfl rfl
  | 41, _ => big_3 (i := 137) rfl rfl
  | 42, _ => big_3 (i := 139) rfl rfl
  | _ + 43, h => absurd h (by omega)
theorem inlX6 : ∀ w ∈ u_ws RX6 TX6 43, w ∈ lw_big := fun w h => by
  obtain ⟨k, hk, rfl⟩ := List.mem_map.mp h
  exact layX6_k k (List.mem_range.mp hk)
end
section
/-! ===== THE CORE: a run inside a fixed layout of cells (ly: what each cell is; ad: where it lies; σ: what it holds), a row an instruction ===== -/
abbrev St : Type := Nat → Nat → Int32
abbrev LyE : Type := (Nat × Nat) ⊕ (Nat × List (Nat × Nat))
def rv (ad : Nat → Nat) : Value → Value
  | .int x => .int x
  | .ref k => .ref (ad k)
  | _ => .null
theorem rv_cat (ad : Nat → Nat) (v : Value) : (rv ad v).category = 1 := by cases v <;> rfl
def fv (ad : Nat → Nat) (g : Nat → Int32) (i : Nat) (f : Nat × Nat) : Value := if f.1 < 2 then .int (g i) else if f.1 = 2 then .ref (ad f.2) else .null
def en (C : ClassId × ClassId) (ad : Nat → Nat) (σ : St) (k : Nat) (e : LyE) : Nat × va_E := (ad k, match e with
  | .inl a => .inl (if a.1 = 0 then C.1 else C.2, a.2, .inl (σ k))
  | .inr o => .inr (o.1, o.2.mapIdx (fv ad (σ k))))
def wd (C : ClassId × ClassId) (ad : Nat → Nat) (ly : List LyE) (σ : St) : va_W := ly.mapIdx (en C ad σ)
theorem wd_at {C : ClassId × ClassId} {ad : Nat → Nat} {ly : List LyE} {σ : St} {k : Nat} {e : LyE} (h : ly[k]? = some e) : (wd C ad ly σ)[k]? = some (en C ad σ k e) := by
  simp [wd, List.getElem?_mapIdx, h]
theorem wd_of {C : ClassId × ClassId} {ad : Nat → Nat} {ly : List LyE} {σ : St} {k : Nat} {q : Nat × va_E} (h : (wd C ad ly σ)[k]? = some q) : k < ly.length ∧ q.1 = ad k := by
  rw [wd, List.getElem?_mapIdx] at h
  cases hk : ly[k]? with
  | none => rw [hk] at h; cases h
  | some e =>
    rw [hk] at h
    cases h
    exact ⟨(List.getElem?_eq_some_iff.mp hk).1, rfl⟩
theorem wd_D {C : ClassId × ClassId} {ad : Nat → Nat} {ly : List LyE} {σ τ : St} {A : Nat → Prop} (h : va_D A (wd C ad ly σ)) : va_D A (wd C ad ly τ) := by
  have back : ∀ {k : Nat} {q : Nat × va_E}, (wd C ad ly τ)[k]? = some q → ∃ q', (wd C ad ly σ)[k]? = some q' ∧ q'.1 = q.1 := by
    intro k q hq
    obtain ⟨h1, h2⟩ := wd_of hq
    exact ⟨_, wd_at (List.getElem?_eq_getElem h1), h2.symm⟩
  refine ⟨fun i j p q hp hq e => ?_, fun k q hk => ?_⟩
  · obtain ⟨p', hp', e1⟩ := back hp
    obtain ⟨q', hq', e2⟩ := back hq
    exact h.1 i j p' q' hp' hq' (by rw [e1, e2, e])
  · obtain ⟨q', hq', e2⟩ := back hk
    rw [← e2]
    exact h.2 k q' hq'
theorem wd_ai {C : ClassId × ClassId} {ad : Nat → Nat} {ly : List LyE} {σ : St} {k n : Nat} (h : ly[k]? = some (.inl (0, n))) : (wd C ad ly σ)[k]? = some (ad k, .inl (C.1, n, .inl (σ k))) := wd_at h
theorem wd_az {C : ClassId × ClassId} {ad : Nat → Nat} {ly : List LyE} {σ : St} {k n : Nat} (h : ly[k]? = some (.inl (1, n))) : (wd C ad ly σ)[k]? = some (ad k, .inl (C.2, n, .inl (σ k))) := wd_at h
theorem wd_ob {C : ClassId × ClassId} {ad : Nat → Nat} {ly : List LyE} {σ : St} {k ci : Nat} {fs : List (Nat × Nat)} (h : ly[k]? = some (.inr (ci, fs))) : (wd C ad ly σ)[k]? = some (ad k, .inr (ci, fs.mapIdx (fv ad (σ k)))) := wd_at h
theorem wd_set {C : ClassId × ClassId} {ad : Nat → Nat} {ly : List LyE} {σ : St} {k : Nat} {e : LyE} (g : Nat → Int32) (h : ly[k]? = some e) : (wd C ad ly σ).set k (en C ad (va_up σ k g) k e) = wd C ad ly (va_up σ k g) := by
  apply List.ext_getElem?
  intro j
  by_cases hj : k = j
  · subst hj
    rw [wd_at h, List.getElem?_set_self (by simp [wd]; exact (List.getElem?_eq_some_iff.mp h).1)]
  · rw [List.getElem?_set_ne hj, wd, wd, List.getElem?_mapIdx, List.getElem?_mapIdx]
    have : en C ad σ j = en C ad (va_up σ k g) j := by
      funext e'
      simp [en, va_up, Ne.symm hj]
    rw [this]
theorem wd_setI {C : ClassId × ClassId} {ad : Nat → Nat} {ly : List LyE} {σ : St} {k n : Nat} {g : Nat → Int32} (h : ly[k]? = some (.inl (0, n))) : (wd C ad ly σ).set k (ad k, .inl (C.1, n, .inl g)) = wd C ad ly (va_up σ k g) := by
  rw [← wd_set g h]
  simp [en, va_up]
theorem wd_setZ {C : ClassId × ClassId} {ad : Nat → Nat} {ly : List LyE} {σ : St} {k n : Nat} {g : Nat → Int32} (h : ly[k]? = some (.inl (1, n))) : (wd C ad ly σ).set k (ad k, .inl (C.2, n, .inl g)) = wd C ad ly (va_up σ k g) := by
  rw [← wd_set g h]
  simp [en, va_up]
theorem fv_set {ad : Nat → Nat} {g : Nat → Int32} {fs : List (Nat × Nat)} {j t z : Nat} {x : Int32} (h : fs[j]? = some (t, z)) (ht : t < 2) : (fs.mapIdx (fv ad g)).set j (.int x) = fs.mapIdx (fv ad (upd g j x)) := by
  apply List.ext_getElem?
  intro i
  by_cases hi : j = i
  · subst hi
    rw [List.getElem?_set_self (by simp; exact (List.getElem?_eq_some_iff.mp h).1), List.getElem?_mapIdx, h]
    simp [fv, ht, upd]
  · rw [List.getElem?_set_ne hi, List.getElem?_mapIdx, List.getElem?_mapIdx]
    have : fv ad g i = fv ad (upd g j x) i := by
      funext f
      simp [fv, upd, Ne.symm hi]
    rw [this]
theorem wd_setO {C : ClassId × ClassId} {ad : Nat → Nat} {ly : List LyE} {σ : St} {k ci j t z : Nat} {fs : List (Nat × Nat)} {x : Int32} (h : ly[k]? = some (.inr (ci, fs))) (hj : fs[j]? = some (t, z)) (ht : t < 2) : (wd C ad ly σ).set k (ad k, .inr (ci, (fs.mapIdx (fv ad (σ k))).set j (.int x))) = wd C ad ly (va_up σ k (upd (σ k) j x)) := by
  rw [← wd_set _ h, fv_set hj ht]
  simp [en, va_up]
/-- locals -/
def lh (ad : Nat → Nat) (ls : Array Slot) (nL : Nat) (L : List (Option Value)) : Prop := ls.size = nL ∧ lv_wf ls ∧ L.length ≤ nL ∧ ∀ (k : Nat) (v : Value), L[k]? = some (some v) → ls[k]? = some (.val (rv ad v))
def lhl (ad : Nat → Nat) (L : List (Option Value)) : List (Nat × Value) := (L.mapIdx (fun i o => o.map (fun v => (i, rv ad v)))).filterMap id
theorem lhl_mem {ad : Nat → Nat} {L : List (Option Value)} {k : Nat} {v : Value} : (k, v) ∈ lhl ad L ↔ ∃ u, L[k]? = some (some u) ∧ v = rv ad u := by
  unfold lhl
  constructor
  · intro h
    obtain ⟨o, ho, he⟩ := List.mem_filterMap.mp h
    obtain ⟨i, hi⟩ := List.getElem?_of_mem ho
    rw [List.getElem?_mapIdx] at hi
    cases hL : L[i]? with
    | none => rw [hL] at hi; cases hi
    | some o' =>
      rw [hL] at hi
      cases o' with
      | none => cases hi; cases he
      | some u =>
        cases hi
        simp only [id, Option.map_some, Option.some.injEq, Prod.mk.injEq] at he
        obtain ⟨rfl, rfl⟩ := he
        exact ⟨u, hL, rfl⟩
  · rintro ⟨u, h1, rfl⟩
    refine List.mem_filterMap.mpr ⟨some (k, rv ad u), ?_, rfl⟩
    refine List.mem_of_getElem? (i := k) ?_
    rw [List.getElem?_mapIdx, h1]
    rfl
theorem lh.has {ad : Nat → Nat} {ls : Array Slot} {nL : Nat} {L : List (Option Value)} (h : lh ad ls nL L) : lv_has ls nL (lhl ad L) := by
  refine ⟨h.1, h.2.1, fun q hq => ?_⟩
  obtain ⟨k, v⟩ := q
  obtain ⟨u, h1, rfl⟩ := lhl_mem.mp hq
  exact h.2.2.2 k u h1
theorem lh.put {ad : Nat → Nat} {ls' : Array Slot} {nL : Nat} {L : List (Option Value)} {i : Nat} {v : Value} (hL : L.length ≤ nL) (h : lv_has ls' nL ((i, rv ad v) :: (lhl ad L).filter (fun q => !(q.1 == i) && !(q.1 + 1 == i && q.2.category == 2)))) : lh ad ls' nL (L.set i (some v)) := by
  refine ⟨h.1, h.2.1, by simpa using hL, fun k u hk => ?_⟩
  by_cases e : i = k
  · subst e
    have : i < L.length := by
      have := (List.getElem?_eq_some_iff.mp hk).1
      simpa using this
    rw [List.getElem?_set_self this] at hk
    cases hk
    exact h.2.2 _ List.mem_cons_self
  · rw [List.getElem?_set_ne e] at hk
    refine h.2.2 (k, rv ad u) (List.mem_cons_of_mem _ (List.mem_filter.mpr ⟨lhl_mem.mpr ⟨u, hk, rfl⟩, ?_⟩))
    simp [rv_cat, Ne.symm e]
theorem lh.entry {ad : Nat → Nat} {ls : Array Slot} {nL : Nat} {av : List Value} (n : Nat) (hn : av.length + n = nL) (h : lv_has ls nL (lv_args 0 (av.map (rv ad)))) : lh ad ls nL (av.map some ++ List.replicate n none) := by
  refine ⟨h.1, h.2.1, by simp [hn], fun k u hk => ?_⟩
  have key : ∀ (l : List Value) (b k : Nat) (u : Value), l[k]? = some u → (b + k, rv ad u) ∈ lv_args b (l.map (rv ad)) := by
    intro l
    induction l with
    | nil => intro b k u h; simp at h
    | cons v l ih =>
      intro b k u h
      cases k with
      | zero =>
        simp at h
        subst h
        simp [lv_args]
      | succ k =>
        simp at h
        have := ih (b + 1) k u h
        simp only [List.map_cons, lv_args, rv_cat]
        refine List.mem_cons_of_mem _ ?_
        have e : b + (k + 1) = b + 1 + k := by omega
        rw [e]
        exact this
  have hk2 : av[k]? = some u := by
    by_cases hlt : k < av.length
    · rw [List.getElem?_append_left (by simpa using hlt), List.getElem?_map] at hk
      cases ha : av[k]? with
      | none => rw [ha] at hk; cases hk
      | some x => rw [ha] at hk; cases hk; rfl
    · rw [List.getElem?_append_right (by simpa using hlt)] at hk
      have := List.mem_of_getElem? hk
      have := List.eq_of_mem_replicate this
      cases this
  have := key av 0 k u hk2
  rw [Nat.zero_add] at this
  exact h.2.2 _ this
/-- the private calls of nest mates -/
def nestW : List Cond := [Cond.methodLinkNest "SunCourt$Sky" 18 yX5_isDay "SunCourt", Cond.methodLinkNest "SunCourt" 9 yX3_init "SunCourt", Cond.methodLinkNest "SunCourt" 18 yX1_init "SunCourt", Cond.methodLinkNest "SunCourt" 25 yX4_init "SunCourt", Cond.methodLinkNest "SunCourt" 32 yX0_init "SunCourt", Cond.methodLinkNest "SunCourt" 39 yX2_init "SunCourt"]
theorem nestW_ex {w : Cond} (h : w ∈ nestW) : ∃ a i x h, w = .methodLinkNest a i x h := by
  simp only [nestW, List.mem_cons, List.not_mem_nil, or_false] at h
  rcases h with rfl | rfl | rfl | rfl | rfl | rfl <;> exact ⟨_, _, _, _, rfl⟩
def Kn (D : va_G) (C : ClassId × ClassId) (U : State) : Prop := va_K D vwCl [(C.1, .int), (C.2, .boolean)] U ∧ ∀ w ∈ nestW, va_Nw w U
theorem Kn.warm {D : va_G} {C : ClassId × ClassId} {s U : State} (h : Kn D C s) (hW : s.WarmedH U.vm) : Kn D C U := by
  refine ⟨va_K.moved hW.alike h.1, fun w hw => ?_⟩
  obtain ⟨a, i, x, y, rfl⟩ := nestW_ex hw
  exact va_Nw.warmM hW (h.2 _ hw)
theorem Kn.same {D : va_G} {C : ClassId × ClassId} {s U : State} (h : Kn D C s) (hv : s.vm = U.vm) : Kn D C U := by
  refine ⟨va_K.moved (by rw [hv]; exact Vm.Alike.refl _) h.1, fun w hw => ?_⟩
  obtain ⟨a, i, x, y, rfl⟩ := nestW_ex hw
  exact va_Nw.same rfl hv (h.2 _ hw)
def Cx (p : Program) (R : Room) (s : State) (m : MethodId) (args : Array Value) (c : Code) (cells slots : Nat) (D : va_G) (C : ClassId × ClassId) (own : String) (cc : ByteArray) (nL fr lo : Nat) : Prop :=
  CallFix p m c cc nL s args lw_big own ∧ fr ≤ R.frames ∧ lo ≤ R.locals ∧ cells ≤ R.cells ∧ slots ≤ R.slots ∧ Kn D C s
def Wo (D : va_G) (C : ClassId × ClassId) (ad : Nat → Nat) (ly : List LyE) (A : Nat → Prop) (H0 : Heap) (σ : St) (H : Heap) (locs : List Loc) : Prop := va_P D vwCl (wd C ad ly σ) H ∧ va_D A (wd C ad ly σ) ∧ va_S A H0 H locs
def Sx (sc : Option (Nat × (Nat → Int32))) (ad : Nat → Nat) (A : Nat → Prop) (s : State) : Prop := (∀ q, s.heap.size ≤ q → A q) ∧ ∀ n xs, sc = some (n, xs) → va_X (ad 1000) n xs s s.heap ∧ ad 1000 < s.heap.size ∧ ¬ A (ad 1000)
def RetAt (cc : ByteArray) (pc : Nat) (r : Option Int32) : Prop := match r with
  | some _ => decode cc pc = .ok (.ireturn, 1)
  | none => decode cc pc = .ok (.return_, 1)
/-- from pc, with these locals, stack and contents, it comes to a return with E -/
def Rn (ly : List LyE) (sc : Option (Nat × (Nat → Int32))) (own : String) (cc : ByteArray) (nL fr lo : Nat) (pc : Nat) (L : List (Option Value)) (st : List Value) (σ : St) (E : Option Int32 → St → Prop) : Prop :=
  ∀ ⦃p : Program⦄ ⦃l : Launch⦄ ⦃e : Env⦄ ⦃R : Room⦄ ⦃s : State⦄ ⦃m : MethodId⦄ ⦃args : Array Value⦄ ⦃below : List Frame⦄ ⦃meth : Method⦄ ⦃c : Code⦄ ⦃D : va_G⦄ ⦃C : ClassId × ClassId⦄ ⦃ad : Nat → Nat⦄ ⦃A : Nat → Prop⦄ ⦃H : Heap⦄ ⦃locs : List Loc⦄ ⦃cells slots : Nat⦄ ⦃Q : State → Prop⦄ ⦃ls : Array Slot⦄,
    Cx p R s m args c cells slots D C own cc nL fr lo → Sx sc ad A s → Wo D C ad ly A s.heap σ H locs → lh ad ls nL L →
    (∀ (r : Option Int32) (τ : St) (H' : Heap) (locs' : List Loc) (ls' : Array Slot) (pc' : Nat), E r τ → Wo D C ad ly A s.heap τ H' locs' → RetAt cc pc' r → W p l e R s m args below meth c H' locs' cells slots Q (F0 m pc' ls' (r.map Value.int).toList)) →
    W p l e R s m args below meth c H locs cells slots Q (F0 m pc ls (st.map (rv ad)))
section CORE
variable {ly : List LyE} {sc : Option (Nat × (Nat → Int32))} {own : String} {cc : ByteArray} {nL fr lo pc q : Nat} {L : List (Option Value)} {st : List Value} {σ : St} {E : Option Int32 → St → Prop}
theorem Rn.mono {E' : Option Int32 → St → Prop} (h : Rn ly sc own cc nL fr lo pc L st σ E) (hE : ∀ r τ, E r τ → E' r τ) : Rn ly sc own cc nL fr lo pc L st σ E' := fun _ _ _ _ _ _ _ _ _ _ _ _ _ _ _ _ _ _ _ _ hC hX hW hL k => h hC hX hW hL (fun r τ H' l' ls' pc' e => k r τ H' l' ls' pc' (hE r τ e))

theorem r_iadd {x y : Int32} (hd : decode cc pc = .ok (.iadd, 1)) (hq : pc + 1 = q) (K : Rn ly sc own cc nL fr lo q L (.int (x + y) :: st) σ E) : Rn ly sc own cc nL fr lo pc L (.int y :: .int x :: st) σ E := by
  subst hq
  intro p l e R s m args below meth c D C ad A H locs cells slots Q ls hC hX hW hL hE
  exact lv_iadd hC.1.1 hC.1.2.1 hd (K hC hX hW hL hE)
theorem r_isub {x y : Int32} (hd : decode cc pc = .ok (.isub, 1)) (hq : pc + 1 = q) (K : Rn ly sc own cc nL fr lo q L (.int (x - y) :: st) σ E) : Rn ly sc own cc nL fr lo pc L (.int y :: .int x :: st) σ E := by
  subst hq
  intro p l e R s m args below meth c D C ad A H locs cells slots Q ls hC hX hW hL hE
  exact lv_isub hC.1.1 hC.1.2.1 hd (K hC hX hW hL hE)
theorem r_imul {x y : Int32} (hd : decode cc pc = .ok (.imul, 1)) (hq : pc + 1 = q) (K : Rn ly sc own cc nL fr lo q L (.int (x * y) :: st) σ E) : Rn ly sc own cc nL fr lo pc L (.int y :: .int x :: st) σ E := by
  subst hq
  intro p l e R s m args below meth c D C ad A H locs cells slots Q ls hC hX hW hL hE
  exact lv_imul hC.1.1 hC.1.2.1 hd (K hC hX hW hL hE)
theorem r_iand {x y : Int32} (hd : decode cc pc = .ok (.iand, 1)) (hq : pc + 1 = q) (K : Rn ly sc own cc nL fr lo q L (.int (x &&& y) :: st) σ E) : Rn ly sc own cc nL fr lo pc L (.int y :: .int x :: st) σ E := by
  subst hq
  intro p l e R s m args below meth c D C ad A H locs cells slots Q ls hC hX hW hL hE
  exact lv_iand hC.1.1 hC.1.2.1 hd (K hC hX hW hL hE)
theorem r_ior {x y : Int32} (hd : decode cc pc = .ok (.ior, 1)) (hq : pc + 1 = q) (K : Rn ly sc own cc nL fr lo q L (.int (x ||| y) :: st) σ E) : Rn ly sc own cc nL fr lo pc L (.int y :: .int x :: st) σ E := by
  subst hq
  intro p l e R s m args below meth c D C ad A H locs cells slots Q ls hC hX hW hL hE
  exact lv_ior hC.1.1 hC.1.2.1 hd (K hC hX hW hL hE)
theorem r_ishl {x y : Int32} (hd : decode cc pc = .ok (.ishl, 1)) (hq : pc + 1 = q) (K : Rn ly sc own cc nL fr lo q L (.int (x <<< (y &&& 31)) :: st) σ E) : Rn ly sc own cc nL fr lo pc L (.int y :: .int x :: st) σ E := by
  subst hq
  intro p l e R s m args below meth c D C ad A H locs cells slots Q ls hC hX hW hL hE
  exact lv_ishl hC.1.1 hC.1.2.1 hd (K hC hX hW hL hE)
theorem r_ishr {x y : Int32} (hd : decode cc pc = .ok (.ishr, 1)) (hq : pc + 1 = q) (K : Rn ly sc own cc nL fr lo q L (.int (x >>> (y &&& 31)) :: st) σ E) : Rn ly sc own cc nL fr lo pc L (.int y :: .int x :: st) σ E := by
  subst hq
  intro p l e R s m args below meth c D C ad A H locs cells slots Q ls hC hX hW hL hE
  exact lv_ishr hC.1.1 hC.1.2.1 hd (K hC hX hW hL hE)
theorem r_iushr {x y : Int32} (hd : decode cc pc = .ok (.iushr, 1)) (hq : pc + 1 = q) (K : Rn ly sc own cc nL fr lo q L (.int ((x.toUInt32 >>> (y.toUInt32 &&& Int32.toUInt32 31)).toInt32) :: st) σ E) : Rn ly sc own cc nL fr lo pc L (.int y :: .int x :: st) σ E := by
  subst hq
  intro p l e R s m args below meth c D C ad A H locs cells slots Q ls hC hX hW hL hE
  exact lv_iushr hC.1.1 hC.1.2.1 hd rfl (K hC hX hW hL hE)
theorem r_iaddN {x y : Nat} (hd : decode cc pc = .ok (.iadd, 1)) (hq : pc + 1 = q) (K : Rn ly sc own cc nL fr lo q L (.int (nI (x + y)) :: st) σ E) : Rn ly sc own cc nL fr lo pc L (.int (nI y) :: .int (nI x) :: st) σ E := by
  subst hq
  intro p l e R s m args below meth c D C ad A H locs cells slots Q ls hC hX hW hL hE
  rw [← nI_add] at K
  exact lv_iadd hC.1.1 hC.1.2.1 hd (K hC hX hW hL hE)
theorem r_imulN {x y : Nat} (hd : decode cc pc = .ok (.imul, 1)) (hq : pc + 1 = q) (K : Rn ly sc own cc nL fr lo q L (.int (nI (x * y)) :: st) σ E) : Rn ly sc own cc nL fr lo pc L (.int (nI y) :: .int (nI x) :: st) σ E := by
  subst hq
  intro p l e R s m args below meth c D C ad A H locs cells slots Q ls hC hX hW hL hE
  rw [← pk_mul] at K
  exact lv_imul hC.1.1 hC.1.2.1 hd (K hC hX hW hL hE)
theorem r_isubN {x y : Nat} (hd : decode cc pc = .ok (.isub, 1)) (hq : pc + 1 = q) (hle : y ≤ x) (K : Rn ly sc own cc nL fr lo q L (.int (nI (x - y)) :: st) σ E) : Rn ly sc own cc nL fr lo pc L (.int (nI y) :: .int (nI x) :: st) σ E := by
  subst hq
  intro p l e R s m args below meth c D C ad A H locs cells slots Q ls hC hX hW hL hE
  rw [← pk_sub hle] at K
  exact lv_isub hC.1.1 hC.1.2.1 hd (K hC hX hW hL hE)
theorem r_idiv {x y : Int32} (hd : decode cc pc = .ok (.idiv, 1)) (hq : pc + 1 = q) (hne : ¬ y = 0) (K : Rn ly sc own cc nL fr lo q L (.int (x / y) :: st) σ E) : Rn ly sc own cc nL fr lo pc L (.int y :: .int x :: st) σ E := by
  subst hq
  intro p l e R s m args below meth c D C ad A H locs cells slots Q ls hC hX hW hL hE
  exact lv_idiv hC.1.1 hC.1.2.1 hd hne (K hC hX hW hL hE)
theorem r_irem {x y : Int32} (hd : decode cc pc = .ok (.irem, 1)) (hq : pc + 1 = q) (hne : ¬ y = 0) (K : Rn ly sc own cc nL fr lo q L (.int (x - x / y * y) :: st) σ E) : Rn ly sc own cc nL fr lo pc L (.int y :: .int x :: st) σ E := by
  subst hq
  intro p l e R s m args below meth c D C ad A H locs cells slots Q ls hC hX hW hL hE
  exact lv_irem hC.1.1 hC.1.2.1 hd hne (K hC hX hW hL hE)
theorem r_ineg {x : Int32} (hd : decode cc pc = .ok (.ineg, 1)) (hq : pc + 1 = q) (K : Rn ly sc own cc nL fr lo q L (.int (-x) :: st) σ E) : Rn ly sc own cc nL fr lo pc L (.int x :: st) σ E := by
  subst hq
  intro p l e R s m args below meth c D C ad A H locs cells slots Q ls hC hX hW hL hE
  exact lv_ineg hC.1.1 hC.1.2.1 hd (K hC hX hW hL hE)
theorem r_iconst {n : Int} (hd : decode cc pc = .ok (.iconst n, 1)) (hq : pc + 1 = q) {v : Int32} (hv : Int32.ofInt n = v) (K : Rn ly sc own cc nL fr lo q L (.int v :: st) σ E) : Rn ly sc own cc nL fr lo pc L (st) σ E := by
  subst hq
  intro p l e R s m args below meth c D C ad A H locs cells slots Q ls hC hX hW hL hE
  exact lv_iconst hC.1.1 hC.1.2.1 hd hv (K hC hX hW hL hE)
theorem r_bipush {n : Int} (hd : decode cc pc = .ok (.bipush n, 2)) (hq : pc + 2 = q) {v : Int32} (hv : (Int8.ofInt n).toInt32 = v) (K : Rn ly sc own cc nL fr lo q L (.int v :: st) σ E) : Rn ly sc own cc nL fr lo pc L (st) σ E := by
  subst hq
  intro p l e R s m args below meth c D C ad A H locs cells slots Q ls hC hX hW hL hE
  exact lv_bipush hC.1.1 hC.1.2.1 hd hv (K hC hX hW hL hE)
theorem r_sipush {n : Int} (hd : decode cc pc = .ok (.sipush n, 3)) (hq : pc + 3 = q) {v : Int32} (hv : (Int16.ofInt n).toInt32 = v) (K : Rn ly sc own cc nL fr lo q L (.int v :: st) σ E) : Rn ly sc own cc nL fr lo pc L (st) σ E := by
  subst hq
  intro p l e R s m args below meth c D C ad A H locs cells slots Q ls hC hX hW hL hE
  exact lv_sipush hC.1.1 hC.1.2.1 hd hv (K hC hX hW hL hE)
theorem r_ldc {index : Nat} (hd : decode cc pc = .ok (.ldc index, 2)) (hq : pc + 2 = q) {v : Int32} (hw : Cond.constant own index v ∈ lw_big) (K : Rn ly sc own cc nL fr lo q L (.int v :: st) σ E) : Rn ly sc own cc nL fr lo pc L (st) σ E := by
  subst hq
  intro p l e R s m args below meth c D C ad A H locs cells slots Q ls hC hX hW hL hE
  exact lv_ldc hC.1.1 hC.1.2.1 hC.1.2.2.2.1 (hC.1.2.2.2.2 _ hw) hd (K hC hX hW hL hE)
theorem r_ldc_w {index : Nat} (hd : decode cc pc = .ok (.ldc_w index, 3)) (hq : pc + 3 = q) {v : Int32} (hw : Cond.constant own index v ∈ lw_big) (K : Rn ly sc own cc nL fr lo q L (.int v :: st) σ E) : Rn ly sc own cc nL fr lo pc L (st) σ E := by
  subst hq
  intro p l e R s m args below meth c D C ad A H locs cells slots Q ls hC hX hW hL hE
  exact lv_ldcw hC.1.1 hC.1.2.1 hC.1.2.2.2.1 (hC.1.2.2.2.2 _ hw) hd (K hC hX hW hL hE)
theorem r_iload_n {k : Fin 4} (hd : decode cc pc = .ok (.iload_n k, 1)) (hq : pc + 1 = q) {x : Int32} (hv : L[(k : Nat)]? = some (some (.int x))) (K : Rn ly sc own cc nL fr lo q L (.int x :: st) σ E) : Rn ly sc own cc nL fr lo pc L (st) σ E := by
  subst hq
  intro p l e R s m args below meth c D C ad A H locs cells slots Q ls hC hX hW hL hE
  exact lv_iload_n hC.1.1 hC.1.2.1 hd rfl (hL.2.2.2 _ _ hv) (K hC hX hW hL hE)
theorem r_aload_n {k : Fin 4} (hd : decode cc pc = .ok (.aload_n k, 1)) (hq : pc + 1 = q) {x : Nat} (hv : L[(k : Nat)]? = some (some (.ref x))) (K : Rn ly sc own cc nL fr lo q L (.ref x :: st) σ E) : Rn ly sc own cc nL fr lo pc L (st) σ E := by
  subst hq
  intro p l e R s m args below meth c D C ad A H locs cells slots Q ls hC hX hW hL hE
  exact lv_aload_n hC.1.1 hC.1.2.1 hd rfl (hL.2.2.2 _ _ hv) (K hC hX hW hL hE)
theorem r_iload {k : Nat} (hd : decode cc pc = .ok (.iload k, 2)) (hq : pc + 2 = q) {x : Int32} (hv : L[k]? = some (some (.int x))) (K : Rn ly sc own cc nL fr lo q L (.int x :: st) σ E) : Rn ly sc own cc nL fr lo pc L (st) σ E := by
  subst hq
  intro p l e R s m args below meth c D C ad A H locs cells slots Q ls hC hX hW hL hE
  exact lv_iload hC.1.1 hC.1.2.1 hd (hL.2.2.2 _ _ hv) (K hC hX hW hL hE)
theorem r_aload {k : Nat} (hd : decode cc pc = .ok (.aload k, 2)) (hq : pc + 2 = q) {x : Nat} (hv : L[k]? = some (some (.ref x))) (K : Rn ly sc own cc nL fr lo q L (.ref x :: st) σ E) : Rn ly sc own cc nL fr lo pc L (st) σ E := by
  subst hq
  intro p l e R s m args below meth c D C ad A H locs cells slots Q ls hC hX hW hL hE
  exact lv_aload hC.1.1 hC.1.2.1 hd (hL.2.2.2 _ _ hv) (K hC hX hW hL hE)
theorem r_istore_n {k : Fin 4} {x : Int32} (hd : decode cc pc = .ok (.istore_n k, 1)) (hq : pc + 1 = q) (hi : (k : Nat) < L.length) (K : Rn ly sc own cc nL fr lo q (L.set (k : Nat) (some (.int x))) st σ E) : Rn ly sc own cc nL fr lo pc L (.int x :: st) σ E := by
  subst hq
  intro p l e R s m args below meth c D C ad A H locs cells slots Q ls hC hX hW hL hE
  exact lv_istore_n hC.1.1 hC.1.2.1 hd rfl hL.has (Nat.lt_of_lt_of_le hi hL.2.2.1) rfl (fun ls' h => K hC hX hW (lh.put hL.2.2.1 h) hE)
theorem r_istore {k : Nat} {x : Int32} (hd : decode cc pc = .ok (.istore k, 2)) (hq : pc + 2 = q) (hi : k < L.length) (K : Rn ly sc own cc nL fr lo q (L.set k (some (.int x))) st σ E) : Rn ly sc own cc nL fr lo pc L (.int x :: st) σ E := by
  subst hq
  intro p l e R s m args below meth c D C ad A H locs cells slots Q ls hC hX hW hL hE
  exact lv_istore hC.1.1 hC.1.2.1 hd hL.has (Nat.lt_of_lt_of_le hi hL.2.2.1) rfl (fun ls' h => K hC hX hW (lh.put hL.2.2.1 h) hE)
theorem r_astore_n {k : Fin 4} {x : Nat} (hd : decode cc pc = .ok (.astore_n k, 1)) (hq : pc + 1 = q) (hi : (k : Nat) < L.length) (K : Rn ly sc own cc nL fr lo q (L.set (k : Nat) (some (.ref x))) st σ E) : Rn ly sc own cc nL fr lo pc L (.ref x :: st) σ E := by
  subst hq
  intro p l e R s m args below meth c D C ad A H locs cells slots Q ls hC hX hW hL hE
  exact lv_astore_n hC.1.1 hC.1.2.1 hd rfl hL.has (Nat.lt_of_lt_of_le hi hL.2.2.1) rfl (fun ls' h => K hC hX hW (lh.put hL.2.2.1 h) hE)
theorem r_iinc {k : Nat} {n : Int} {x v : Int32} (hd : decode cc pc = .ok (.iinc k n, 3)) (hq : pc + 3 = q) (hx : L[k]? = some (some (.int x))) (hv : x + Int32.ofInt n = v) (K : Rn ly sc own cc nL fr lo q (L.set k (some (.int v))) st σ E) : Rn ly sc own cc nL fr lo pc L st σ E := by
  subst hq
  intro p l e R s m args below meth c D C ad A H locs cells slots Q ls hC hX hW hL hE
  have hm : (k, Value.int x) ∈ lhl ad L := lhl_mem.mpr ⟨.int x, hx, rfl⟩
  obtain ⟨j, hj⟩ := List.getElem?_of_mem hm
  exact lv_iinc hC.1.1 hC.1.2.1 hd hL.has hj hv (Nat.lt_of_lt_of_le (List.getElem?_eq_some_iff.mp hx).1 hL.2.2.1) rfl (fun ls' h => K hC hX hW (lh.put hL.2.2.1 h) hE)
theorem r_dup {v : Value} (hd : decode cc pc = .ok (.dup, 1)) (hq : pc + 1 = q) (K : Rn ly sc own cc nL fr lo q L (v :: v :: st) σ E) : Rn ly sc own cc nL fr lo pc L (v :: st) σ E := by
  subst hq
  intro p l e R s m args below meth c D C ad A H locs cells slots Q ls hC hX hW hL hE
  exact lv_dup hC.1.1 hC.1.2.1 hd (rv_cat ad v) (K hC hX hW hL hE)
theorem r_dup2 {v u : Value} (hd : decode cc pc = .ok (.dup2, 1)) (hq : pc + 1 = q) (K : Rn ly sc own cc nL fr lo q L (v :: u :: v :: u :: st) σ E) : Rn ly sc own cc nL fr lo pc L (v :: u :: st) σ E := by
  subst hq
  intro p l e R s m args below meth c D C ad A H locs cells slots Q ls hC hX hW hL hE
  exact lv_dup2_11 hC.1.1 hC.1.2.1 hd (rv_cat ad v) (rv_cat ad u) (K hC hX hW hL hE)
theorem r_goto {off : Int} (hd : decode cc pc = .ok (.goto off, 3)) (hq : (pc : Int) + off = (q : Int)) (K : Rn ly sc own cc nL fr lo q L st σ E) : Rn ly sc own cc nL fr lo pc L st σ E := by
  intro p l e R s m args below meth c D C ad A H locs cells slots Q ls hC hX hW hL hE
  exact lv_goto hC.1.1 hC.1.2.1 hd hq (K hC hX hW hL hE)
theorem r_if_eq {x : Int32} {off : Int} {t : Nat} (hd : decode cc pc = .ok (.ifCond .eq off, 3)) (ht : (pc : Int) + off = (t : Int)) (hq : pc + 3 = q) (Kt : x = 0 → Rn ly sc own cc nL fr lo t L st σ E) (Kf : ¬ x = 0 → Rn ly sc own cc nL fr lo q L st σ E) : Rn ly sc own cc nL fr lo pc L (.int x :: st) σ E := by
  subst hq
  intro p l e R s m args below meth c D C ad A H locs cells slots Q ls hC hX hW hL hE
  exact lv_if_eq hC.1.1 hC.1.2.1 hd ht (fun h => Kt h hC hX hW hL hE) (fun h => Kf h hC hX hW hL hE)
theorem r_icmp_eq {x y : Int32} {off : Int} {t : Nat} (hd : decode cc pc = .ok (.if_icmp .eq off, 3)) (ht : (pc : Int) + off = (t : Int)) (hq : pc + 3 = q) (Kt : x = y → Rn ly sc own cc nL fr lo t L st σ E) (Kf : ¬ x = y → Rn ly sc own cc nL fr lo q L st σ E) : Rn ly sc own cc nL fr lo pc L (.int y :: .int x :: st) σ E := by
  subst hq
  intro p l e R s m args below meth c D C ad A H locs cells slots Q ls hC hX hW hL hE
  exact lv_icmp_eq hC.1.1 hC.1.2.1 hd ht (fun h => Kt h hC hX hW hL hE) (fun h => Kf h hC hX hW hL hE)
theorem r_if_ne {x : Int32} {off : Int} {t : Nat} (hd : decode cc pc = .ok (.ifCond .ne off, 3)) (ht : (pc : Int) + off = (t : Int)) (hq : pc + 3 = q) (Kt : ¬ x = 0 → Rn ly sc own cc nL fr lo t L st σ E) (Kf : x = 0 → Rn ly sc own cc nL fr lo q L st σ E) : Rn ly sc own cc nL fr lo pc L (.int x :: st) σ E := by
  subst hq
  intro p l e R s m args below meth c D C ad A H locs cells slots Q ls hC hX hW hL hE
  exact lv_if_ne hC.1.1 hC.1.2.1 hd ht (fun h => Kt h hC hX hW hL hE) (fun h => Kf h hC hX hW hL hE)
theorem r_icmp_ne {x y : Int32} {off : Int} {t : Nat} (hd : decode cc pc = .ok (.if_icmp .ne off, 3)) (ht : (pc : Int) + off = (t : Int)) (hq : pc + 3 = q) (Kt : ¬ x = y → Rn ly sc own cc nL fr lo t L st σ E) (Kf : x = y → Rn ly sc own cc nL fr lo q L st σ E) : Rn ly sc own cc nL fr lo pc L (.int y :: .int x :: st) σ E := by
  subst hq
  intro p l e R s m args below meth c D C ad A H locs cells slots Q ls hC hX hW hL hE
  exact lv_icmp_ne hC.1.1 hC.1.2.1 hd ht (fun h => Kt h hC hX hW hL hE) (fun h => Kf h hC hX hW hL hE)
theorem r_if_lt {x : Int32} {off : Int} {t : Nat} (hd : decode cc pc = .ok (.ifCond .lt off, 3)) (ht : (pc : Int) + off = (t : Int)) (hq : pc + 3 = q) (Kt : x < 0 → Rn ly sc own cc nL fr lo t L st σ E) (Kf : ¬ x < 0 → Rn ly sc own cc nL fr lo q L st σ E) : Rn ly sc own cc nL fr lo pc L (.int x :: st) σ E := by
  subst hq
  intro p l e R s m args below meth c D C ad A H locs cells slots Q ls hC hX hW hL hE
  exact lv_if_lt hC.1.1 hC.1.2.1 hd ht (fun h => Kt h hC hX hW hL hE) (fun h => Kf h hC hX hW hL hE)
theorem r_icmp_lt {x y : Int32} {off : Int} {t : Nat} (hd : decode cc pc = .ok (.if_icmp .lt off, 3)) (ht : (pc : Int) + off = (t : Int)) (hq : pc + 3 = q) (Kt : x < y → Rn ly sc own cc nL fr lo t L st σ E) (Kf : ¬ x < y → Rn ly sc own cc nL fr lo q L st σ E) : Rn ly sc own cc nL fr lo pc L (.int y :: .int x :: st) σ E := by
  subst hq
  intro p l e R s m args below meth c D C ad A H locs cells slots Q ls hC hX hW hL hE
  exact lv_icmp_lt hC.1.1 hC.1.2.1 hd ht (fun h => Kt h hC hX hW hL hE) (fun h => Kf h hC hX hW hL hE)
theorem r_if_ge {x : Int32} {off : Int} {t : Nat} (hd : decode cc pc = .ok (.ifCond .ge off, 3)) (ht : (pc : Int) + off = (t : Int)) (hq : pc + 3 = q) (Kt : 0 ≤ x → Rn ly sc own cc nL fr lo t L st σ E) (Kf : ¬ 0 ≤ x → Rn ly sc own cc nL fr lo q L st σ E) : Rn ly sc own cc nL fr lo pc L (.int x :: st) σ E := by
  subst hq
  intro p l e R s m args below meth c D C ad A H locs cells slots Q ls hC hX hW hL hE
  exact lv_if_ge hC.1.1 hC.1.2.1 hd ht (fun h => Kt h hC hX hW hL hE) (fun h => Kf h hC hX hW hL hE)
theorem r_icmp_ge {x y : Int32} {off : Int} {t : Nat} (hd : decode cc pc = .ok (.if_icmp .ge off, 3)) (ht : (pc : Int) + off = (t : Int)) (hq : pc + 3 = q) (Kt : y ≤ x → Rn ly sc own cc nL fr lo t L st σ E) (Kf : ¬ y ≤ x → Rn ly sc own cc nL fr lo q L st σ E) : Rn ly sc own cc nL fr lo pc L (.int y :: .int x :: st) σ E := by
  subst hq
  intro p l e R s m args below meth c D C ad A H locs cells slots Q ls hC hX hW hL hE
  exact lv_icmp_ge hC.1.1 hC.1.2.1 hd ht (fun h => Kt h hC hX hW hL hE) (fun h => Kf h hC hX hW hL hE)
theorem r_if_gt {x : Int32} {off : Int} {t : Nat} (hd : decode cc pc = .ok (.ifCond .gt off, 3)) (ht : (pc : Int) + off = (t : Int)) (hq : pc + 3 = q) (Kt : 0 < x → Rn ly sc own cc nL fr lo t L st σ E) (Kf : ¬ 0 < x → Rn ly sc own cc nL fr lo q L st σ E) : Rn ly sc own cc nL fr lo pc L (.int x :: st) σ E := by
  subst hq
  intro p l e R s m args below meth c D C ad A H locs cells slots Q ls hC hX hW hL hE
  exact lv_if_gt hC.1.1 hC.1.2.1 hd ht (fun h => Kt h hC hX hW hL hE) (fun h => Kf h hC hX hW hL hE)
theorem r_icmp_gt {x y : Int32} {off : Int} {t : Nat} (hd : decode cc pc = .ok (.if_icmp .gt off, 3)) (ht : (pc : Int) + off = (t : Int)) (hq : pc + 3 = q) (Kt : y < x → Rn ly sc own cc nL fr lo t L st σ E) (Kf : ¬ y < x → Rn ly sc own cc nL fr lo q L st σ E) : Rn ly sc own cc nL fr lo pc L (.int y :: .int x :: st) σ E := by
  subst hq
  intro p l e R s m args below meth c D C ad A H locs cells slots Q ls hC hX hW hL hE
  exact lv_icmp_gt hC.1.1 hC.1.2.1 hd ht (fun h => Kt h hC hX hW hL hE) (fun h => Kf h hC hX hW hL hE)
theorem r_if_le {x : Int32} {off : Int} {t : Nat} (hd : decode cc pc = .ok (.ifCond .le off, 3)) (ht : (pc : Int) + off = (t : Int)) (hq : pc + 3 = q) (Kt : x ≤ 0 → Rn ly sc own cc nL fr lo t L st σ E) (Kf : ¬ x ≤ 0 → Rn ly sc own cc nL fr lo q L st σ E) : Rn ly sc own cc nL fr lo pc L (.int x :: st) σ E := by
  subst hq
  intro p l e R s m args below meth c D C ad A H locs cells slots Q ls hC hX hW hL hE
  exact lv_if_le hC.1.1 hC.1.2.1 hd ht (fun h => Kt h hC hX hW hL hE) (fun h => Kf h hC hX hW hL hE)
theorem r_icmp_le {x y : Int32} {off : Int} {t : Nat} (hd : decode cc pc = .ok (.if_icmp .le off, 3)) (ht : (pc : Int) + off = (t : Int)) (hq : pc + 3 = q) (Kt : x ≤ y → Rn ly sc own cc nL fr lo t L st σ E) (Kf : ¬ x ≤ y → Rn ly sc own cc nL fr lo q L st σ E) : Rn ly sc own cc nL fr lo pc L (.int y :: .int x :: st) σ E := by
  subst hq
  intro p l e R s m args below meth c D C ad A H locs cells slots Q ls hC hX hW hL hE
  exact lv_icmp_le hC.1.1 hC.1.2.1 hd ht (fun h => Kt h hC hX hW hL hE) (fun h => Kf h hC hX hW hL hE)
theorem r_tableIn {dflt l0 h0 : Int} {offs : Array Int} {len : Nat} {x : Int32} {off : Int} (hd : decode cc pc = .ok (.tableswitch dflt l0 h0 offs, len)) (h1 : ¬ x.toInt < l0) (h2 : ¬ h0 < x.toInt) (ho : offs[(x.toInt - l0).toNat]? = some off) (hq : (pc : Int) + off = (q : Int)) (K : Rn ly sc own cc nL fr lo q L st σ E) : Rn ly sc own cc nL fr lo pc L (.int x :: st) σ E := by
  intro p l e R s m args below meth c D C ad A H locs cells slots Q ls hC hX hW hL hE
  exact lv_tableIn hC.1.1 hC.1.2.1 hd h1 h2 ho hq (K hC hX hW hL hE)
theorem r_tableOut {dflt l0 h0 : Int} {offs : Array Int} {len : Nat} {x : Int32} (hd : decode cc pc = .ok (.tableswitch dflt l0 h0 offs, len)) (h : x.toInt < l0 ∨ h0 < x.toInt) (hq : (pc : Int) + dflt = (q : Int)) (K : Rn ly sc own cc nL fr lo q L st σ E) : Rn ly sc own cc nL fr lo pc L (.int x :: st) σ E := by
  intro p l e R s m args below meth c D C ad A H locs cells slots Q ls hC hX hW hL hE
  exact lv_tableOut hC.1.1 hC.1.2.1 hd h hq (K hC hX hW hL hE)
theorem r_iald {k j n : Nat} (hd : decode cc pc = .ok (.iaload, 1)) (hq : pc + 1 = q) (hly : ly[k]? = some (.inl (0, n))) (hj : j < n) (hn : n < 2 ^ 31) (K : Rn ly sc own cc nL fr lo q L (.int (σ k j) :: st) σ E) : Rn ly sc own cc nL fr lo pc L (.int (nI j) :: .ref k :: st) σ E := by
  subst hq
  intro p l e R s m args below meth c D C ad A H locs cells slots Q ls hC hX hW hL hE
  rw [← nI_clamp (Nat.lt_trans hj hn)] at K
  exact va_iald hC.1.1 hC.1.2.1 hC.2.2.2.2.2.1 hW.1 k 0 (wd_ai hly) rfl (vp_in_nI hj hn) hd (K hC hX hW hL hE)
theorem r_zald {k j n : Nat} (hd : decode cc pc = .ok (.baload, 1)) (hq : pc + 1 = q) (hly : ly[k]? = some (.inl (1, n))) (hj : j < n) (hn : n < 2 ^ 31) (K : Rn ly sc own cc nL fr lo q L (.int (σ k j) :: st) σ E) : Rn ly sc own cc nL fr lo pc L (.int (nI j) :: .ref k :: st) σ E := by
  subst hq
  intro p l e R s m args below meth c D C ad A H locs cells slots Q ls hC hX hW hL hE
  rw [← nI_clamp (Nat.lt_trans hj hn)] at K
  exact va_zald hC.1.1 hC.1.2.1 hC.2.2.2.2.2.1 hW.1 k 1 (wd_az hly) rfl (vp_in_nI hj hn) hd (K hC hX hW hL hE)
theorem r_iast {k j n : Nat} {x : Int32} (hd : decode cc pc = .ok (.iastore, 1)) (hq : pc + 1 = q) (hly : ly[k]? = some (.inl (0, n))) (hj : j < n) (hn : n < 2 ^ 31) (K : Rn ly sc own cc nL fr lo q L st (va_up σ k (upd (σ k) j x)) E) : Rn ly sc own cc nL fr lo pc L (.int x :: .int (nI j) :: .ref k :: st) σ E := by
  subst hq
  intro p l e R s m args below meth c D C ad A H locs cells slots Q ls hC hX hW hL hE
  refine va_iast hC.1.1 hC.1.2.1 hC.2.2.2.2.2.1 hW.1 hW.2.1 hW.2.2 k 0 (wd_ai hly) rfl (vp_in_nI hj hn) hd (fun H1 locs1 hP hD hS => ?_)
  rw [nI_clamp (Nat.lt_trans hj hn), wd_setI hly] at hP hD
  exact K hC hX ⟨hP, hD, hS⟩ hL hE
theorem vp_narZ {x : Int32} (h : x = 0 ∨ x = 1) : vp_nar .boolean x = x := by rcases h with rfl | rfl <;> decide +kernel
theorem r_zast {k j n : Nat} {x : Int32} (hd : decode cc pc = .ok (.bastore, 1)) (hq : pc + 1 = q) (hly : ly[k]? = some (.inl (1, n))) (hj : j < n) (hn : n < 2 ^ 31) (hx : x = 0 ∨ x = 1) (K : Rn ly sc own cc nL fr lo q L st (va_up σ k (upd (σ k) j x)) E) : Rn ly sc own cc nL fr lo pc L (.int x :: .int (nI j) :: .ref k :: st) σ E := by
  subst hq
  intro p l e R s m args below meth c D C ad A H locs cells slots Q ls hC hX hW hL hE
  refine va_zast hC.1.1 hC.1.2.1 hC.2.2.2.2.2.1 hW.1 hW.2.1 hW.2.2 k 1 (wd_az hly) rfl (vp_in_nI hj hn) hd (fun H1 locs1 hP hD hS => ?_)
  rw [vp_narZ hx, nI_clamp (Nat.lt_trans hj hn), wd_setZ hly] at hP hD
  exact K hC hX ⟨hP, hD, hS⟩ hL hE
theorem r_alen {k n : Nat} (hd : decode cc pc = .ok (.arraylength, 1)) (hq : pc + 1 = q) (hly : ly[k]? = some (.inl (0, n))) (K : Rn ly sc own cc nL fr lo q L (.int (nI n) :: st) σ E) : Rn ly sc own cc nL fr lo pc L (.ref k :: st) σ E := by
  subst hq
  intro p l e R s m args below meth c D C ad A H locs cells slots Q ls hC hX hW hL hE
  exact va_alen hC.1.1 hC.1.2.1 hC.2.2.2.2.2.1 hW.1 k 0 (wd_ai hly) (ty := .int) rfl rfl hd (K hC hX hW hL hE)
theorem r_sld {n : Nat} {xs : Nat → Int32} {j : Nat} (hd : decode cc pc = .ok (.iaload, 1)) (hq : pc + 1 = q) (hj : j < n) (hn : n < 2 ^ 31) (K : Rn ly (some (n, xs)) own cc nL fr lo q L (.int (xs j) :: st) σ E) : Rn ly (some (n, xs)) own cc nL fr lo pc L (.int (nI j) :: .ref 1000 :: st) σ E := by
  subst hq
  intro p l e R s m args below meth c D C ad A H locs cells slots Q ls hC hX hW hL hE
  rw [← nI_clamp (Nat.lt_trans hj hn)] at K
  obtain ⟨h1, h2, h3⟩ := hX.2 n xs rfl
  exact va_sld hC.1.1 hC.1.2.1 h1 h2 h3 hW.2.2 (vp_in_nI hj hn) hd (K hC hX hW hL hE)
theorem r_slen {n : Nat} {xs : Nat → Int32} (hd : decode cc pc = .ok (.arraylength, 1)) (hq : pc + 1 = q) (K : Rn ly (some (n, xs)) own cc nL fr lo q L (.int (nI n) :: st) σ E) : Rn ly (some (n, xs)) own cc nL fr lo pc L (.ref 1000 :: st) σ E := by
  subst hq
  intro p l e R s m args below meth c D C ad A H locs cells slots Q ls hC hX hW hL hE
  obtain ⟨h1, h2, h3⟩ := hX.2 n xs rfl
  exact va_slen hC.1.1 hC.1.2.1 h1 h2 h3 hW.2.2 hd (K hC hX hW hL hE)
/-- what the tables say of a field that an instruction names -/
def FD (own : String) (idx ci j : Nat) (ty : FieldType) (fin : Bool) : Prop := ∃ (Cn : String) (T : u_T) (N : Nat) (tf : Nat → FieldType), vwCl[ci]? = some (Cn, T, N) ∧ (∀ w ∈ u_ws Cn T N, w ∈ lw_big) ∧ (∀ k, k < N → parseFieldDescriptor (T k).2.2.1 = some (tf k)) ∧ (∀ a, a < N → ∀ b, b < N → a ≠ b → (T a).2.1 ≠ (T b).2.1) ∧ j < N ∧ Cond.fieldLink own idx (T j).1 (T j).2.1 (T j).2.2.1 ∈ lw_big ∧ (T j).2.2.2 = fin ∧ parseFieldDescriptor (T j).2.2.1 = some ty
theorem r_getV {idx k ci j : Nat} {ty : FieldType} {fin : Bool} {fs : List (Nat × Nat)} {f : Nat × Nat} {v : Value} (hd : decode cc pc = .ok (.getfield idx, 3)) (hq : pc + 3 = q) (hf : FD own idx ci j ty fin) (hly : ly[k]? = some (.inr (ci, fs))) (hj : fs[j]? = some f) (hv : ∀ ad, fv ad (σ k) j f = rv ad v) (K : Rn ly sc own cc nL fr lo q L (v :: st) σ E) : Rn ly sc own cc nL fr lo pc L (.ref k :: st) σ E := by
  subst hq
  intro p l e R s m args below meth c D C ad A H locs cells slots Q ls hC hX hW hL hE
  obtain ⟨Cn, T, N, tf, h1, h2, h3, h4, h5, h6, h7, h8⟩ := hf
  exact va_get hC.1.1 hC.1.2.1 hC.1.2.2.2.2 h2 hC.1.2.2.2.1 hC.2.2.2.2.2.1 hW.1 k (wd_ob hly) h1 j h5 (hC.1.2.2.2.2 _ h6) (fun _ h => h) (by rw [List.getElem?_mapIdx, hj]; exact congrArg some (hv ad)) hd (K hC hX hW hL hE)
theorem r_getI {idx k ci j : Nat} {ty : FieldType} {fin : Bool} {fs : List (Nat × Nat)} {z : Nat} (hd : decode cc pc = .ok (.getfield idx, 3)) (hq : pc + 3 = q) (hf : FD own idx ci j ty fin) (hly : ly[k]? = some (.inr (ci, fs))) (hj : fs[j]? = some (0, z)) (K : Rn ly sc own cc nL fr lo q L (.int (σ k j) :: st) σ E) : Rn ly sc own cc nL fr lo pc L (.ref k :: st) σ E := r_getV hd hq hf hly hj (fun _ => rfl) K
theorem r_getZ {idx k ci j : Nat} {ty : FieldType} {fin : Bool} {fs : List (Nat × Nat)} {z : Nat} (hd : decode cc pc = .ok (.getfield idx, 3)) (hq : pc + 3 = q) (hf : FD own idx ci j ty fin) (hly : ly[k]? = some (.inr (ci, fs))) (hj : fs[j]? = some (1, z)) (K : Rn ly sc own cc nL fr lo q L (.int (σ k j) :: st) σ E) : Rn ly sc own cc nL fr lo pc L (.ref k :: st) σ E := r_getV hd hq hf hly hj (fun _ => rfl) K
theorem r_getR {idx k ci j : Nat} {ty : FieldType} {fin : Bool} {fs : List (Nat × Nat)} {z : Nat} (hd : decode cc pc = .ok (.getfield idx, 3)) (hq : pc + 3 = q) (hf : FD own idx ci j ty fin) (hly : ly[k]? = some (.inr (ci, fs))) (hj : fs[j]? = some (2, z)) (K : Rn ly sc own cc nL fr lo q L (.ref z :: st) σ E) : Rn ly sc own cc nL fr lo pc L (.ref k :: st) σ E := r_getV hd hq hf hly hj (fun _ => rfl) K
theorem r_putV {idx k ci j t z : Nat} {ty : FieldType} {fs : List (Nat × Nat)} {x : Int32} (hd : decode cc pc = .ok (.putfield idx, 3)) (hq : pc + 3 = q) (hf : FD own idx ci j ty false) (hly : ly[k]? = some (.inr (ci, fs))) (hj : fs[j]? = some (t, z)) (ht : t < 2) (hn : narrow ty (.int x) = .int x) (hfit : fits ty (.int x) = true) (K : Rn ly sc own cc nL fr lo q L st (va_up σ k (upd (σ k) j x)) E) : Rn ly sc own cc nL fr lo pc L (.int x :: .ref k :: st) σ E := by
  subst hq
  intro p l e R s m args below meth c D C ad A H locs cells slots Q ls hC hX hW hL hE
  obtain ⟨Cn, T, N, tf, h1, h2, h3, h4, h5, h6, h7, h8⟩ := hf
  refine va_put hC.1.1 hC.1.2.1 hC.1.2.2.2.2 h2 tf h3 h4 hC.1.2.2.2.1 hC.2.2.2.2.2.1 hW.1 hW.2.1 hW.2.2 k (wd_ob hly) h1 j h5 (hC.1.2.2.2.2 _ h6) (fun _ h => h) h7 h8 hn hfit (by rw [List.length_mapIdx]; exact (List.getElem?_eq_some_iff.mp hj).1) hd (fun H1 locs1 hP hD hS => ?_)
  rw [show rv ad (Value.int x) = Value.int x from rfl, wd_setO hly hj ht] at hP hD
  exact K hC hX ⟨hP, hD, hS⟩ hL hE
theorem r_putI {idx k ci j z : Nat} {fs : List (Nat × Nat)} {x : Int32} (hd : decode cc pc = .ok (.putfield idx, 3)) (hq : pc + 3 = q) (hf : FD own idx ci j .int false) (hly : ly[k]? = some (.inr (ci, fs))) (hj : fs[j]? = some (0, z)) (K : Rn ly sc own cc nL fr lo q L st (va_up σ k (upd (σ k) j x)) E) : Rn ly sc own cc nL fr lo pc L (.int x :: .ref k :: st) σ E := r_putV hd hq hf hly hj (by decide) rfl rfl K
theorem r_putZ {idx k ci j z : Nat} {fs : List (Nat × Nat)} {x : Int32} (hd : decode cc pc = .ok (.putfield idx, 3)) (hq : pc + 3 = q) (hf : FD own idx ci j .boolean false) (hly : ly[k]? = some (.inr (ci, fs))) (hj : fs[j]? = some (1, z)) (hx : x = 0 ∨ x = 1) (K : Rn ly sc own cc nL fr lo q L st (va_up σ k (upd (σ k) j x)) E) : Rn ly sc own cc nL fr lo pc L (.int x :: .ref k :: st) σ E := r_putV hd hq hf hly hj (by decide) (by rcases hx with rfl | rfl <;> rfl) (by rcases hx with rfl | rfl <;> rfl) K
theorem r_ret {x : Int32} (hd : decode cc pc = .ok (.ireturn, 1)) (h : E (some x) σ) : Rn ly sc own cc nL fr lo pc L [.int x] σ E := by
  intro p l e R s m args below meth c D C ad A H locs cells slots Q ls hC hX hW hL hE
  exact hE (some x) σ H locs ls pc h hW hd
theorem r_void (hd : decode cc pc = .ok (.return_, 1)) (h : E none σ) : Rn ly sc own cc nL fr lo pc L [] σ E := by
  intro p l e R s m args below meth c D C ad A H locs cells slots Q ls hC hX hW hL hE
  exact hE none σ H locs ls pc h hW hd
end CORE
/-- a method's contract: from the contents σ, with these arguments, it returns with E; no cell is made -/
def Cl (ly : List LyE) (y : MethodName) (cc : ByteArray) (nL : Nat) (ret : Option FieldType) (fr lo : Nat) (av : List Value) (σ : St) (E : Option Int32 → St → Prop) : Prop :=
  ∀ (l : Launch) (D : va_G) (C : ClassId × ClassId) (ad : Nat → Nat) (sz : Nat), Met l y (.code y cc nL ret :: lw_big) ({ frames := fr, cells := 0, slots := 0, locals := lo })
    (va_Pc (av.map (rv ad)) (fun U => U.heap.size = sz ∧ va_P D vwCl (wd C ad ly σ) U.heap ∧ Kn D C U ∧ va_D (fun _ => True) (wd C ad ly σ)))
    (fun _ st oc t => (∃ (r : Option Int32) (τ : St), oc = .returned (r.map Value.int) ∧ E r τ ∧ va_P D vwCl (wd C ad ly τ) t.heap) ∧ va_F (va_A (wd C ad ly σ) sz) st t) 0 0 (va_A (wd C ad ly σ) sz)
def retOk (ret : Option FieldType) (r : Option Int32) : Prop := match ret, r with
  | none, none => True
  | some .int, some _ => True
  | some .boolean, some x => x = 0 ∨ x = 1
  | _, _ => False
theorem Cl.mono {ly : List LyE} {y : MethodName} {cc : ByteArray} {nL fr lo : Nat} {ret : Option FieldType} {av : List Value} {σ : St} {E E' : Option Int32 → St → Prop} (h : Cl ly y cc nL ret fr lo av σ E) (hE : ∀ r τ, E r τ → E' r τ) : Cl ly y cc nL ret fr lo av σ E' := by
  intro l D C ad sz
  have h1 := h l D C ad sz
  unfold Met MetFree at h1 ⊢
  intro p e ha hc hk s m args below hf happ hP hK
  obtain ⟨k, o, h2, h3, h4, ⟨⟨⟨r, τ, q1, q2, q3⟩, q4⟩, q5⟩⟩ := h1 p e ha hc hk s m args below hf happ hP hK
  exact ⟨k, o, h2, h3, h4, ⟨⟨⟨r, τ, q1, hE r τ q2, q3⟩, q4⟩, q5⟩⟩
theorem lg_len (ad : Nat → Nat) (av : List Value) : (lg_sl (av.map (rv ad))).length = av.length := by
  induction av with
  | nil => rfl
  | cons v av ih =>
    have e : lg_sl (rv ad v :: av.map (rv ad)) = Slot.val (rv ad v) :: lg_sl (av.map (rv ad)) := by
      simp [lg_sl, rv_cat]
    rw [List.map_cons, e, List.length_cons, ih, List.length_cons]
set_option maxHeartbeats 4000000 in
theorem Cl.of {ly : List LyE} {y : MethodName} {cc : ByteArray} {nL fr lo : Nat} {ret : Option FieldType} {av : List Value} {σ : St} {E : Option Int32 → St → Prop} (n : Nat) (hn : av.length + n = nL) (hy : plainName y.cls = true) (hret : ∀ r τ, E r τ → retOk ret r)
    (h : Rn ly none y.cls cc nL fr lo 0 (av.map some ++ List.replicate n none) [] σ E) : Cl ly y cc nL ret fr lo av σ E := by
  intro l D C ad sz
  refine Met.ofW (cc := cc) (maxL := nL) (ret := ret) hy rfl ?_
  intro p e s m args below meth c s₁ B hml hv
  obtain ⟨rfl, hsz, hP, hK, hD0⟩ := hv
  have hx := B.exec
  have hb := B.bytes
  have hr := B.returns
  have hts := atoms_spec (ws := .code y cc nL ret :: lw_big) B.pre
  have hown : s.vm.findClass y.cls = some m.cls := findClass_of_methodNamed B.named
  have hlocks := B.notSynchronized
  subst hsz
  have hD := hD0.self (sz := s.heap.size)
  have hlen := lg_len ad av
  have hl := lv_entry (av.map (rv ad)) (n := nL) (by rw [hlen]; omega)
  rw [lg_entry_eq]
  refine h (cells := 0) (slots := 0) (A := va_A (wd C ad ly σ) s.heap.size) (D := D) (C := C) (ad := ad) ⟨⟨hx, hb, hml, hown, fun w hw => hts w (List.mem_cons_of_mem _ hw)⟩, Nat.le_refl _, Nat.le_refl _, Nat.le_refl _, Nat.le_refl _, hK⟩ ⟨fun q hq => Or.inr hq, fun n xs e => by cases e⟩ ⟨hP, hD, va_S.rf⟩ (lh.entry n hn hl) ?_
  intro r τ H' locs' ls' pc' hEr hW' hRet
  have hok := hret r τ hEr
  have hq : ∀ t : State, t.heap = H' → (∃ (r' : Option Int32) (τ' : St), Outcome.returned (r.map Value.int) = .returned (r'.map Value.int) ∧ E r' τ' ∧ va_P D vwCl (wd C ad ly τ') t.heap) ∧ va_F (va_A (wd C ad ly σ) s.heap.size) s t := fun t ht => ⟨⟨r, τ, rfl, hEr, by rw [ht]; exact hW'.1⟩, hW'.2.2.F ht⟩
  cases r with
  | none =>
    cases ret with
    | none => exact W.vret hx hb hr (fun t ht _ => hq t ht) hW'.2.2.2.2 hRet
    | some ty => cases ty <;> exact hok.elim
  | some x =>
    cases ret with
    | none => exact hok.elim
    | some ty =>
      refine W.zret hx hb hr ?_ (fun t ht _ => hq t ht) hW'.2.2.2.2 hRet
      cases ty <;> first | rfl | exact hok.elim | (rcases hok with rfl | rfl <;> rfl)
/-- what the tables say of a call -/
def CwB (own : String) (idx : Nat) (y : MethodName) (cc' : ByteArray) (nL' : Nat) (ret : Option FieldType) (n : Nat) : Prop :=
  Cond.code y cc' nL' ret ∈ lw_big ∧ Cond.initialized y.cls ∈ lw_big ∧ Cond.methodLink own idx y ∈ lw_big ∧ (y.cls ≠ "java/lang/invoke/MethodHandle" ∧ y.cls ≠ "java/lang/invoke/VarHandle" ∧ (parseMethodDescriptor y.desc).map (fun d => d.parameters.length) = some n)
def CwV (own : String) (idx : Nat) (y : MethodName) (cc' : ByteArray) (nL' : Nat) (ret : Option FieldType) (n : Nat) : Prop := CwB own idx y cc' nL' ret n ∧ Cond.instanceMethod y ∈ lw_big ∧ Cond.selects y.cls y y ∈ lw_big
def CwS (own : String) (idx : Nat) (y : MethodName) (cc' : ByteArray) (nL' : Nat) (ret : Option FieldType) (n : Nat) : Prop := CwB own idx y cc' nL' ret n ∧ Cond.static y ∈ lw_big
theorem goodIn_law {w : Cond} (hw : w ∈ lw_big) : GoodIn lw_big (w :: lw_big) := by
  have hg : ∀ u ∈ lw_big, goodWord u = true := fun _ h => big_good h
  intro u hu
  rcases List.mem_cons.mp hu with rfl | hu
  · exact ⟨hw, good_of_word (hg _ hw)⟩
  · exact ⟨hu, good_of_word (hg _ hu)⟩
theorem CwB.use {R : Room} {s : State} {args : Array Value} {own : String} {idx : Nat} {y : MethodName} {cc' : ByteArray} {nL' n fr' lo' : Nat} {ret : Option FieldType} (h : CwB own idx y cc' nL' ret n) (hts : ∀ w ∈ lw_big, w.before args s = true) (hf : fr' + 1 ≤ R.frames) (hl : 8 + (nL' + 11) + lo' ≤ R.locals) :
    CallB R s args own idx y cc' nL' ret (.code y cc' nL' ret :: lw_big) ({ frames := fr', cells := 0, slots := 0, locals := lo' }) 0 0 n :=
  callB_of n hts (goodIn_law h.1) rfl rfl rfl (hts _ h.2.1) (hts _ h.2.2.1) h.2.2.2 ⟨hf, hl⟩
theorem cl_blind {av : List Value} {D : va_G} {C : ClassId × ClassId} {ws : va_W} {sz : Nat} : FrameBlind (va_Pc av (fun U => U.heap.size = sz ∧ va_P D vwCl ws U.heap ∧ Kn D C U ∧ va_D (fun _ => True) ws)) := by
  intro a U g mk q
  obtain ⟨q0, q1, qP, qK, qD⟩ := q
  exact ⟨q0, q1, qP, qK.same rfl, qD⟩
section CALLS
variable {ly : List LyE} {sc : Option (Nat × (Nat → Int32))} {own : String} {cc : ByteArray} {nL fr lo pc q : Nat} {L : List (Option Value)} {st : List Value} {σ : St} {E : Option Int32 → St → Prop}
theorem cat_sum (ad : Nat → Nat) (st : List Value) : ((st.map (rv ad)).map fun v => v.category).sum = st.length := by
  induction st with
  | nil => rfl
  | cons v st ih => simp only [List.map_cons, List.sum_cons, List.length_cons, rv_cat] at ih ⊢; omega
/-- behind a call -/
theorem va_callg {p : Program} {l : Launch} {e : Env} {R : Room} {s : State} {m : MethodId} {args : Array Value} {below : List Frame} {meth : Method} {c : Code} {H : Heap} {locs : List Loc} {cells slots : Nat} {Q : State → Prop} {pc : Nat} {ls : Array Slot} {rest st0 : List Value} {A0 A1 : Nat → Prop} {H0 : Heap} {free : Addr → Prop} {B : Option Value → Heap → Prop} (hr : va_Run p l e R s m args below meth c H locs cells slots 0 0 (F0 m pc ls st0) rest (fun st oc t => (∃ v, oc = .returned v ∧ B v t.heap) ∧ va_F A1 st t) free) (hS : va_S A0 H0 H locs) (hA : ∀ q, q < H.size → A1 q → A0 q) (hf : ∀ q, free q → A0 q)
    (kk : ∀ (v : Option Value) (H1 : Heap) (locs1 : List Loc), B v H1 → va_S A0 H0 H1 locs1 → W p l e R s m args below meth c H1 locs1 cells slots Q (F0 m (pc + 3) ls (v.toList ++ rest))) : W p l e R s m args below meth c H locs cells slots Q (F0 m pc ls st0) := by
  intro T hT X
  obtain ⟨v, st₀, t, T', L, h0, X', hL, e1, e2, ⟨⟨v', hv, hb⟩, hz, hk⟩, stp⟩ := hr T hT X
  cases hv
  rw [h0] at hz hk
  obtain ⟨t2, a1, b1⟩ := kk v T'.heap (locs ++ L) (by rw [e1]; exact hb)
    ⟨Nat.le_trans hS.1 (by rw [e1]; exact hz), fun q h1 h2 => by rw [e1, hk q (Nat.lt_of_lt_of_le h1 hS.1) (fun z => h2 (hA q (Nat.lt_of_lt_of_le h1 hS.1) z))]; exact hS.2.1 q h1 h2, fun q hq => by
      rcases List.mem_append.mp hq with h | h
      · exact hS.2.2 q h
      · exact hf _ (hL q h)⟩ T' rfl X'
  exact ⟨t2, stp t2 a1, b1⟩
theorem wd_free {D : va_G} {C : ClassId × ClassId} {ad : Nat → Nat} {A : Nat → Prop} {H0 H : Heap} {locs : List Loc} (hA : ∀ q, H0.size ≤ q → A q) (h : Wo D C ad ly A H0 σ H locs) : ∀ q, va_A (wd C ad ly σ) H.size q → A q := by
  intro q hq
  rcases hq with ⟨k, e, hk⟩ | hq
  · exact h.2.1.2 k _ hk
  · exact hA q (Nat.le_trans h.2.2.1 hq)
theorem r_callG {y : MethodName} {cc' : ByteArray} {nL' fr' lo' : Nat} {ret : Option FieldType} {av : List Value} {E' : Option Int32 → St → Prop} {st0 : List Value}
    (hrun : ∀ ⦃p : Program⦄ ⦃l : Launch⦄ ⦃e : Env⦄ ⦃R : Room⦄ ⦃s : State⦄ ⦃m : MethodId⦄ ⦃args : Array Value⦄ ⦃below : List Frame⦄ ⦃meth : Method⦄ ⦃c : Code⦄ ⦃D : va_G⦄ ⦃C : ClassId × ClassId⦄ ⦃ad : Nat → Nat⦄ ⦃A : Nat → Prop⦄ ⦃H : Heap⦄ ⦃locs : List Loc⦄ ⦃cells slots : Nat⦄ ⦃ls : Array Slot⦄, Cx p R s m args c cells slots D C own cc nL fr lo → Wo D C ad ly A s.heap σ H locs → lh ad ls nL L →
      va_Run p l e R s m args below meth c H locs cells slots 0 0 (F0 m pc ls (st0.map (rv ad))) (st.map (rv ad)) (fun st oc t => (∃ (r : Option Int32) (τ : St), oc = .returned (r.map Value.int) ∧ E' r τ ∧ va_P D vwCl (wd C ad ly τ) t.heap) ∧ va_F (va_A (wd C ad ly σ) H.size) st t) (va_A (wd C ad ly σ) H.size))
    (hq : pc + 3 = q) (K : ∀ r τ, E' r τ → Rn ly sc own cc nL fr lo q L ((r.map Value.int).toList ++ st) τ E) : Rn ly sc own cc nL fr lo pc L st0 σ E := by
  subst hq
  intro p l e R s m args below meth c D C ad A H locs cells slots Q ls hC hX hW hL hE
  have hFr := wd_free hX.1 hW
  have h1 := hrun (l := l) (e := e) (below := below) (meth := meth) hC hW hL
  refine va_callg (A1 := va_A (wd C ad ly σ) H.size) (free := va_A (wd C ad ly σ) H.size) (B := fun v h => ∃ (r : Option Int32) (τ : St), v = r.map Value.int ∧ E' r τ ∧ va_P D vwCl (wd C ad ly τ) h) (rest := st.map (rv ad)) ?_ hW.2.2 (fun q _ h => hFr q h) hFr ?_
  · intro T hT X
    obtain ⟨v, st₀, t, T', L', h0, X', hL', e1, e2, ⟨⟨r, τ, q1, q2, q3⟩, q4⟩, stp⟩ := h1 T hT X
    exact ⟨v, st₀, t, T', L', h0, X', hL', e1, e2, ⟨⟨v, rfl, r, τ, by cases q1; rfl, q2, q3⟩, q4⟩, stp⟩
  · rintro v H1 locs1 ⟨r, τ, rfl, h2, h3⟩ hS
    have h4 := K r τ h2 (l := l) (e := e) (below := below) (meth := meth) (Q := Q) hC hX ⟨h3, wd_D hW.2.1, hS⟩ hL hE
    have e5 : (((r.map Value.int).toList ++ st).map (rv ad)) = (r.map Value.int).toList ++ st.map (rv ad) := by
      rw [List.map_append]
      cases r <;> rfl
    rw [e5] at h4
    exact h4
theorem r_callVg {y : MethodName} {cc' : ByteArray} {nL' fr' lo' n idx k ci : Nat} {ret : Option FieldType} {As : List Value} {E' : Option Int32 → St → Prop} {fs : List (Nat × Nat)} {T : u_T} {N : Nat} (hM : Cl ly y cc' nL' ret fr' lo' (.ref k :: As) σ E') (cw : CwV own idx y cc' nL' ret n) (hd : decode cc pc = .ok (.invokevirtual idx, 3)) (hq : pc + 3 = q) (hly : ly[k]? = some (.inr (ci, fs))) (hcl : vwCl[ci]? = some (y.cls, T, N)) (hn : As.length = n) (hst : st.length ≤ 8) (hf : fr' + 1 ≤ fr) (hl : 8 + (nL' + 11) + lo' ≤ lo)
    (K : ∀ r τ, E' r τ → Rn ly sc own cc nL fr lo q L ((r.map Value.int).toList ++ st) τ E) : Rn ly sc own cc nL fr lo pc L (As.reverse ++ .ref k :: st) σ E := by
  refine r_callG (y := y) (cc' := cc') (nL' := nL') (fr' := fr') (lo' := lo') (ret := ret) (av := .ref k :: As) (E' := E') ?_ hq K
  intro p l e R s m args below meth c D C ad A H locs cells slots ls hC hW hL
  refine va_runV (C := y.cls) (b := ad k) (As := As.map (rv ad)) (n := n) hC.1 (hM l D C ad H.size) ⟨cw.1.use hC.1.2.2.2.2 (Nat.le_trans hf hC.2.1) (Nat.le_trans hl hC.2.2.1), hC.1.2.2.2.2 _ cw.2.1, hC.1.2.2.2.2 _ cw.2.2⟩ ⟨cl_blind, va_recv hC.2.2.2.2.2.1 hW.1 hcl (wd_ob hly), fun U hU hWm => ⟨rfl, by rw [hU], by rw [hU]; exact hW.1, hC.2.2.2.2.2.warm hWm, hW.2.1.weaken (fun _ _ _ _ => trivial)⟩⟩ rfl (by rw [List.length_map]; exact hn) hL.1 (by simp [List.map_append, List.map_reverse, rv]) (lv_room (by rw [cat_sum]; exact hst)) hd ⟨hC.2.2.2.1, hC.2.2.2.2.1⟩
theorem r_callSg {y : MethodName} {cc' : ByteArray} {nL' fr' lo' n idx : Nat} {ret : Option FieldType} {As : List Value} {E' : Option Int32 → St → Prop} (hM : Cl ly y cc' nL' ret fr' lo' As σ E') (cw : CwS own idx y cc' nL' ret n) (hd : decode cc pc = .ok (.invokestatic idx, 3)) (hq : pc + 3 = q) (hn : As.length = n) (hst : st.length ≤ 8) (hf : fr' + 1 ≤ fr) (hl : 8 + (nL' + 11) + lo' ≤ lo)
    (K : ∀ r τ, E' r τ → Rn ly sc own cc nL fr lo q L ((r.map Value.int).toList ++ st) τ E) : Rn ly sc own cc nL fr lo pc L (As.reverse ++ st) σ E := by
  refine r_callG (y := y) (cc' := cc') (nL' := nL') (fr' := fr') (lo' := lo') (ret := ret) (av := As) (E' := E') ?_ hq K
  intro p l e R s m args below meth c D C ad A H locs cells slots ls hC hW hL
  refine va_runS (As := As.map (rv ad)) (n := n) hC.1 (hM l D C ad H.size) ⟨cw.1.use hC.1.2.2.2.2 (Nat.le_trans hf hC.2.1) (Nat.le_trans hl hC.2.2.1), hC.1.2.2.2.2 _ cw.2⟩ ⟨cl_blind, fun U hU hWm => ⟨rfl, by rw [hU], by rw [hU]; exact hW.1, hC.2.2.2.2.2.warm hWm, hW.2.1.weaken (fun _ _ _ _ => trivial)⟩⟩ rfl (by rw [List.length_map]; exact hn) hL.1 (by simp [List.map_append, List.map_reverse]) (lv_room (by rw [cat_sum]; exact hst)) hd ⟨hC.2.2.2.1, hC.2.2.2.2.1⟩
def CwN (own : String) (idx : Nat) (y : MethodName) (cc' : ByteArray) (nL' : Nat) (ret : Option FieldType) (n : Nat) : Prop :=
  Cond.code y cc' nL' ret ∈ lw_big ∧ Cond.initialized y.cls ∈ lw_big ∧ Cond.methodLinkNest own idx y "SunCourt" ∈ nestW ∧ (y.cls ≠ "java/lang/invoke/MethodHandle" ∧ y.cls ≠ "java/lang/invoke/VarHandle" ∧ (parseMethodDescriptor y.desc).map (fun d => d.parameters.length) = some n)
theorem r_callSN {y : MethodName} {cc' : ByteArray} {nL' fr' lo' n idx : Nat} {ret : Option FieldType} {As : List Value} {E' : Option Int32 → St → Prop} (hM : Cl ly y cc' nL' ret fr' lo' As σ E') (cw : CwN own idx y cc' nL' ret n) (hstat : Cond.static y ∈ lw_big) (hd : decode cc pc = .ok (.invokestatic idx, 3)) (hq : pc + 3 = q) (hn : As.length = n) (hst : st.length ≤ 8) (hf : fr' + 1 ≤ fr) (hl : 8 + (nL' + 11) + lo' ≤ lo)
    (K : ∀ r τ, E' r τ → Rn ly sc own cc nL fr lo q L ((r.map Value.int).toList ++ st) τ E) : Rn ly sc own cc nL fr lo pc L (As.reverse ++ st) σ E := by
  refine r_callG (y := y) (cc' := cc') (nL' := nL') (fr' := fr') (lo' := lo') (ret := ret) (av := As) (E' := E') ?_ hq K
  intro p l e R s m args below meth c D C ad A H locs cells slots ls hC hW hL
  refine va_runSN (host := "SunCourt") (As := As.map (rv ad)) (n := n) hC.1 (hM l D C ad H.size) ⟨va_cnB n hC.1.2.2.2.2 (goodIn_law cw.1) rfl rfl rfl (hC.2.2.2.2.2.2 _ cw.2.2.1) (hC.1.2.2.2.2 _ cw.2.1) cw.2.2.2 ⟨Nat.le_trans hf hC.2.1, Nat.le_trans hl hC.2.2.1⟩, hC.1.2.2.2.2 _ hstat, trivial⟩ ⟨cl_blind, fun U hU hWm => ⟨rfl, by rw [hU], by rw [hU]; exact hW.1, hC.2.2.2.2.2.warm hWm, hW.2.1.weaken (fun _ _ _ _ => trivial)⟩⟩ rfl (by rw [List.length_map]; exact hn) hL.1 (by simp [List.map_append, List.map_reverse]) (lv_room (by rw [cat_sum]; exact hst)) hd ⟨hC.2.2.2.1, hC.2.2.2.2.1⟩
theorem r_callV0 {y : MethodName} {cc' : ByteArray} {nL' fr' lo' idx k ci : Nat} {ret : Option FieldType} {E' : Option Int32 → St → Prop} {fs : List (Nat × Nat)} {T : u_T} {N : Nat} (hM : Cl ly y cc' nL' ret fr' lo' (.ref k :: []) σ E') (cw : CwV own idx y cc' nL' ret 0) (hd : decode cc pc = .ok (.invokevirtual idx, 3)) (hq : pc + 3 = q) (hly : ly[k]? = some (.inr (ci, fs))) (hcl : vwCl[ci]? = some (y.cls, T, N)) (hst : st.length ≤ 8) (hf : fr' + 1 ≤ fr) (hl : 8 + (nL' + 11) + lo' ≤ lo) (K : ∀ r τ, E' r τ → Rn ly sc own cc nL fr lo q L ((r.map Value.int).toList ++ st) τ E) : Rn ly sc own cc nL fr lo pc L (.ref k :: st) σ E := r_callVg hM cw hd hq hly hcl rfl hst hf hl K
theorem r_callV1 {y : MethodName} {cc' : ByteArray} {nL' fr' lo' idx k ci : Nat} {ret : Option FieldType} {v1 : Value} {E' : Option Int32 → St → Prop} {fs : List (Nat × Nat)} {T : u_T} {N : Nat} (hM : Cl ly y cc' nL' ret fr' lo' (.ref k :: [v1]) σ E') (cw : CwV own idx y cc' nL' ret 1) (hd : decode cc pc = .ok (.invokevirtual idx, 3)) (hq : pc + 3 = q) (hly : ly[k]? = some (.inr (ci, fs))) (hcl : vwCl[ci]? = some (y.cls, T, N)) (hst : st.length ≤ 8) (hf : fr' + 1 ≤ fr) (hl : 8 + (nL' + 11) + lo' ≤ lo) (K : ∀ r τ, E' r τ → Rn ly sc own cc nL fr lo q L ((r.map Value.int).toList ++ st) τ E) : Rn ly sc own cc nL fr lo pc L (v1 :: .ref k :: st) σ E := r_callVg hM cw hd hq hly hcl rfl hst hf hl K
theorem r_callS1 {y : MethodName} {cc' : ByteArray} {nL' fr' lo' idx : Nat} {ret : Option FieldType} {v1 : Value} {E' : Option Int32 → St → Prop} (hM : Cl ly y cc' nL' ret fr' lo' [v1] σ E') (cw : CwS own idx y cc' nL' ret 1) (hd : decode cc pc = .ok (.invokestatic idx, 3)) (hq : pc + 3 = q) (hst : st.length ≤ 8) (hf : fr' + 1 ≤ fr) (hl : 8 + (nL' + 11) + lo' ≤ lo) (K : ∀ r τ, E' r τ → Rn ly sc own cc nL fr lo q L ((r.map Value.int).toList ++ st) τ E) : Rn ly sc own cc nL fr lo pc L (v1 :: st) σ E := r_callSg hM cw hd hq rfl hst hf hl K
theorem r_callV2 {y : MethodName} {cc' : ByteArray} {nL' fr' lo' idx k ci : Nat} {ret : Option FieldType} {v1 v2 : Value} {E' : Option Int32 → St → Prop} {fs : List (Nat × Nat)} {T : u_T} {N : Nat} (hM : Cl ly y cc' nL' ret fr' lo' (.ref k :: [v1, v2]) σ E') (cw : CwV own idx y cc' nL' ret 2) (hd : decode cc pc = .ok (.invokevirtual idx, 3)) (hq : pc + 3 = q) (hly : ly[k]? = some (.inr (ci, fs))) (hcl : vwCl[ci]? = some (y.cls, T, N)) (hst : st.length ≤ 8) (hf : fr' + 1 ≤ fr) (hl : 8 + (nL' + 11) + lo' ≤ lo) (K : ∀ r τ, E' r τ → Rn ly sc own cc nL fr lo q L ((r.map Value.int).toList ++ st) τ E) : Rn ly sc own cc nL fr lo pc L (v2 :: v1 :: .ref k :: st) σ E := r_callVg hM cw hd hq hly hcl rfl hst hf hl K
theorem r_callS2 {y : MethodName} {cc' : ByteArray} {nL' fr' lo' idx : Nat} {ret : Option FieldType} {v1 v2 : Value} {E' : Option Int32 → St → Prop} (hM : Cl ly y cc' nL' ret fr' lo' [v1, v2] σ E') (cw : CwS own idx y cc' nL' ret 2) (hd : decode cc pc = .ok (.invokestatic idx, 3)) (hq : pc + 3 = q) (hst : st.length ≤ 8) (hf : fr' + 1 ≤ fr) (hl : 8 + (nL' + 11) + lo' ≤ lo) (K : ∀ r τ, E' r τ → Rn ly sc own cc nL fr lo q L ((r.map Value.int).toList ++ st) τ E) : Rn ly sc own cc nL fr lo pc L (v2 :: v1 :: st) σ E := r_callSg hM cw hd hq rfl hst hf hl K
theorem r_callV3 {y : MethodName} {cc' : ByteArray} {nL' fr' lo' idx k ci : Nat} {ret : Option FieldType} {v1 v2 v3 : Value} {E' : Option Int32 → St → Prop} {fs : List (Nat × Nat)} {T : u_T} {N : Nat} (hM : Cl ly y cc' nL' ret fr' lo' (.ref k :: [v1, v2, v3]) σ E') (cw : CwV own idx y cc' nL' ret 3) (hd : decode cc pc = .ok (.invokevirtual idx, 3)) (hq : pc + 3 = q) (hly : ly[k]? = some (.inr (ci, fs))) (hcl : vwCl[ci]? = some (y.cls, T, N)) (hst : st.length ≤ 8) (hf : fr' + 1 ≤ fr) (hl : 8 + (nL' + 11) + lo' ≤ lo) (K : ∀ r τ, E' r τ → Rn ly sc own cc nL fr lo q L ((r.map Value.int).toList ++ st) τ E) : Rn ly sc own cc nL fr lo pc L (v3 :: v2 :: v1 :: .ref k :: st) σ E := r_callVg hM cw hd hq hly hcl rfl hst hf hl K
theorem r_callS3 {y : MethodName} {cc' : ByteArray} {nL' fr' lo' idx : Nat} {ret : Option FieldType} {v1 v2 v3 : Value} {E' : Option Int32 → St → Prop} (hM : Cl ly y cc' nL' ret fr' lo' [v1, v2, v3] σ E') (cw : CwS own idx y cc' nL' ret 3) (hd : decode cc pc = .ok (.invokestatic idx, 3)) (hq : pc + 3 = q) (hst : st.length ≤ 8) (hf : fr' + 1 ≤ fr) (hl : 8 + (nL' + 11) + lo' ≤ lo) (K : ∀ r τ, E' r τ → Rn ly sc own cc nL fr lo q L ((r.map Value.int).toList ++ st) τ E) : Rn ly sc own cc nL fr lo pc L (v3 :: v2 :: v1 :: st) σ E := r_callSg hM cw hd hq rfl hst hf hl K
theorem r_callV4 {y : MethodName} {cc' : ByteArray} {nL' fr' lo' idx k ci : Nat} {ret : Option FieldType} {v1 v2 v3 v4 : Value} {E' : Option Int32 → St → Prop} {fs : List (Nat × Nat)} {T : u_T} {N : Nat} (hM : Cl ly y cc' nL' ret fr' lo' (.ref k :: [v1, v2, v3, v4]) σ E') (cw : CwV own idx y cc' nL' ret 4) (hd : decode cc pc = .ok (.invokevirtual idx, 3)) (hq : pc + 3 = q) (hly : ly[k]? = some (.inr (ci, fs))) (hcl : vwCl[ci]? = some (y.cls, T, N)) (hst : st.length ≤ 8) (hf : fr' + 1 ≤ fr) (hl : 8 + (nL' + 11) + lo' ≤ lo) (K : ∀ r τ, E' r τ → Rn ly sc own cc nL fr lo q L ((r.map Value.int).toList ++ st) τ E) : Rn ly sc own cc nL fr lo pc L (v4 :: v3 :: v2 :: v1 :: .ref k :: st) σ E := r_callVg hM cw hd hq hly hcl rfl hst hf hl K
theorem r_callV5 {y : MethodName} {cc' : ByteArray} {nL' fr' lo' idx k ci : Nat} {ret : Option FieldType} {v1 v2 v3 v4 v5 : Value} {E' : Option Int32 → St → Prop} {fs : List (Nat × Nat)} {T : u_T} {N : Nat} (hM : Cl ly y cc' nL' ret fr' lo' (.ref k :: [v1, v2, v3, v4, v5]) σ E') (cw : CwV own idx y cc' nL' ret 5) (hd : decode cc pc = .ok (.invokevirtual idx, 3)) (hq : pc + 3 = q) (hly : ly[k]? = some (.inr (ci, fs))) (hcl : vwCl[ci]? = some (y.cls, T, N)) (hst : st.length ≤ 8) (hf : fr' + 1 ≤ fr) (hl : 8 + (nL' + 11) + lo' ≤ lo) (K : ∀ r τ, E' r τ → Rn ly sc own cc nL fr lo q L ((r.map Value.int).toList ++ st) τ E) : Rn ly sc own cc nL fr lo pc L (v5 :: v4 :: v3 :: v2 :: v1 :: .ref k :: st) σ E := r_callVg hM cw hd hq hly hcl rfl hst hf hl K
theorem r_callV6 {y : MethodName} {cc' : ByteArray} {nL' fr' lo' idx k ci : Nat} {ret : Option FieldType} {v1 v2 v3 v4 v5 v6 : Value} {E' : Option Int32 → St → Prop} {fs : List (Nat × Nat)} {T : u_T} {N : Nat} (hM : Cl ly y cc' nL' ret fr' lo' (.ref k :: [v1, v2, v3, v4, v5, v6]) σ E') (cw : CwV own idx y cc' nL' ret 6) (hd : decode cc pc = .ok (.invokevirtual idx, 3)) (hq : pc + 3 = q) (hly : ly[k]? = some (.inr (ci, fs))) (hcl : vwCl[ci]? = some (y.cls, T, N)) (hst : st.length ≤ 8) (hf : fr' + 1 ≤ fr) (hl : 8 + (nL' + 11) + lo' ≤ lo) (K : ∀ r τ, E' r τ → Rn ly sc own cc nL fr lo q L ((r.map Value.int).toList ++ st) τ E) : Rn ly sc own cc nL fr lo pc L (v6 :: v5 :: v4 :: v3 :: v2 :: v1 :: .ref k :: st) σ E := r_callVg hM cw hd hq hly hcl rfl hst hf hl K
theorem r_callV7 {y : MethodName} {cc' : ByteArray} {nL' fr' lo' idx k ci : Nat} {ret : Option FieldType} {v1 v2 v3 v4 v5 v6 v7 : Value} {E' : Option Int32 → St → Prop} {fs : List (Nat × Nat)} {T : u_T} {N : Nat} (hM : Cl ly y cc' nL' ret fr' lo' (.ref k :: [v1, v2, v3, v4, v5, v6, v7]) σ E') (cw : CwV own idx y cc' nL' ret 7) (hd : decode cc pc = .ok (.invokevirtual idx, 3)) (hq : pc + 3 = q) (hly : ly[k]? = some (.inr (ci, fs))) (hcl : vwCl[ci]? = some (y.cls, T, N)) (hst : st.length ≤ 8) (hf : fr' + 1 ≤ fr) (hl : 8 + (nL' + 11) + lo' ≤ lo) (K : ∀ r τ, E' r τ → Rn ly sc own cc nL fr lo q L ((r.map Value.int).toList ++ st) τ E) : Rn ly sc own cc nL fr lo pc L (v7 :: v6 :: v5 :: v4 :: v3 :: v2 :: v1 :: .ref k :: st) σ E := r_callVg hM cw hd hq hly hcl rfl hst hf hl K
end CALLS
end
