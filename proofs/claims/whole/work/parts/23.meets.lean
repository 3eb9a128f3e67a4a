/-! ===== Beam.meets ===== -/
def kFi (y lo hi sl sm : Int32) : Int32 := if y ≤ 0 then sl - hi else lo - sm
def kLa (y lo hi sl sm : Int32) : Int32 := if y ≤ 0 then sm - lo else hi - sl
def kUn (y : Int32) : Int32 := if y ≤ 0 then -y else y
def kOut (y lo hi sl sm : Int32) : Nat := if y = 0 then (if sm ≤ lo then 1 else if sl < hi then 0 else 1) else 0
def kLow (y lo hi sl sm : Int32) (p : Int32 × Int32) : Int32 × Int32 := if y = 0 then p else if kFi y lo hi sl sm * p.2 ≤ p.1 * kUn y then p else (kFi y lo hi sl sm, kUn y)
def kHigh (y lo hi sl sm : Int32) (p : Int32 × Int32) : Int32 × Int32 := if y = 0 then p else if p.1 * kUn y ≤ kLa y lo hi sl sm * p.2 then p else (kLa y lo hi sl sm, kUn y)
def mLo (V : St) (b a : Nat) : Nat := 2 * nv V 6 (b * 3 + a)
def mHi (V : St) (b t a : Nat) : Nat := 2 * (if a = 2 then t else nv V 7 (b * 3 + a))
def mL (σ V : St) (b t : Nat) : Nat → Int32 × Int32
  | 0 => (nI 0, nI 1)
  | a + 1 => kLow (σ 23 a) (nI (mLo V b a)) (nI (mHi V b t a)) (σ 24 a) (σ 25 a) (mL σ V b t a)
def mH (σ V : St) (b t : Nat) : Nat → Int32 × Int32
  | 0 => (nI 1, nI 0)
  | a + 1 => kHigh (σ 23 a) (nI (mLo V b a)) (nI (mHi V b t a)) (σ 24 a) (σ 25 a) (mH σ V b t a)
def mO (σ V : St) (b t : Nat) : Nat → Nat
  | 0 => 0
  | a + 1 => if mO σ V b t a = 0 then kOut (σ 23 a) (nI (mLo V b a)) (nI (mHi V b t a)) (σ 24 a) (σ 25 a) else 1
def mHit (σ V : St) (b t : Nat) : Nat := if mO σ V b t 3 = 0 then (if (mH σ V b t 3).1 * (mL σ V b t 3).2 ≤ (mL σ V b t 3).1 * (mH σ V b t 3).2 then 0 else 1) else 0
theorem mHit_le (σ V : St) (b t : Nat) : mHit σ V b t ≤ 1 := by
  unfold mHit
  (repeat' split)
  all_goals omega
theorem mO_up {σ V : St} {b t a : Nat} (h : mO σ V b t a = 1) (n : Nat) : mO σ V b t (a + n) = 1 := by
  induction n with
  | zero => exact h
  | succ n ih =>
    show (if mO σ V b t (a + n) = 0 then _ else 1) = 1
    rw [ih]
    rfl
def off22 (σ τ : St) : Prop := ∀ k, ¬ k = 22 → τ k = σ k
set_option maxRecDepth 100000 in
set_option maxHeartbeats 4000000 in
theorem l_X0_meets {V σ0 : St} (hI : InvN V) {b t : Nat} (hb : b < 40) (ht : t ≤ 200) : ∀ (n a : Nat) (σ : St) (lo lu : Int32) (z7 z8 z9 z10 z11 z12 : Option Value), a + n = 3 → vw σ = V → off22 σ0 σ → (σ 22 3, σ 22 4) = mL σ0 V b t a → (lo, lu) = mH σ0 V b t a → mO σ0 V b t a = 0 → Rn LAYC none RX0 cX0_meets 13 0 0 19 [some (.ref 22), some (.ref 4), some (.int (nI b)), some (.int (nI t)), some (.int lo), some (.int lu), some (.int (nI a)), z7, z8, z9, z10, z11, z12] [] σ (EI (fun v τ => v = nI (mHit σ0 V b t) ∧ vw τ = V ∧ off22 σ0 τ ∧ (mHit σ0 V b t = 1 → (τ 22 3, τ 22 4) = mL σ0 V b t 3))) := by
  intro n
  induction n with
  | zero =>
    intro a σ lo lu z7 z8 z9 z10 z11 z12 hb3 hV hoff hl hh hO
    refine r_iload (q := 21) dX0_meets_19 rfl rfl ?_
    refine r_iconst (q := 22) (v := nI 3) dX0_meets_21 rfl (by decide) ?_
    refine r_icmp_geN (t := 236) (q := 25) dX0_meets_22 (by decide) rfl (by omega) (by omega) (fun c22 => ?_) (fun c22 => absurd (by omega) c22)
    refine r_aload_n (q := 237) dX0_meets_236 rfl rfl ?_
    refine gX0_21 (q := 240) dX0_meets_237 rfl ?_
    refine r_iload (q := 242) dX0_meets_240 rfl rfl ?_
    refine r_imul (q := 243) dX0_meets_242 rfl ?_
    refine r_iload (q := 245) dX0_meets_243 rfl rfl ?_
    refine r_aload_n (q := 246) dX0_meets_245 rfl rfl ?_
    refine gX0_25 (q := 249) dX0_meets_246 rfl ?_
    refine r_imul (q := 250) dX0_meets_249 rfl ?_
    refine r_icmp_ge (t := 257) (q := 253) dX0_meets_250 (by decide) rfl (fun c250 => ?_) (fun c250 => ?_)
    · refine r_iconst (q := 258) (v := nI 0) dX0_meets_257 rfl (by decide) ?_
      have ea : a = 3 := by omega
      subst ea
      have l1 := congrArg Prod.fst hl; have l2 := congrArg Prod.snd hl; have q1 := congrArg Prod.fst hh; have q2 := congrArg Prod.snd hh
      dsimp only at l1 l2 q1 q2
      rw [l1, l2, q1, q2] at c250
      exact r_retI dX0_meets_258 ⟨by rw [mHit, if_pos hO, if_pos c250], hV, hoff, fun _ => hl⟩
    · refine r_iconst (q := 254) (v := nI 1) dX0_meets_253 rfl (by decide) ?_
      refine r_goto (q := 258) dX0_meets_254 (by decide) ?_
      have ea : a = 3 := by omega
      subst ea
      have l1 := congrArg Prod.fst hl; have l2 := congrArg Prod.snd hl; have q1 := congrArg Prod.fst hh; have q2 := congrArg Prod.snd hh
      dsimp only at l1 l2 q1 q2
      rw [l1, l2, q1, q2] at c250
      exact r_retI dX0_meets_258 ⟨by rw [mHit, if_pos hO, if_neg c250], hV, hoff, fun _ => hl⟩
  | succ n ih =>
    intro a σ lo lu z7 z8 z9 z10 z11 z12 hb3 hV hoff hl hh hO
    refine r_iload (q := 21) dX0_meets_19 rfl rfl ?_
    refine r_iconst (q := 22) (v := nI 3) dX0_meets_21 rfl (by decide) ?_
    refine r_icmp_geN (t := 236) (q := 25) dX0_meets_22 (by decide) rfl (by omega) (by omega) (fun c22 => absurd c22 (by omega)) (fun c22 => ?_)
    refine r_iconst (q := 26) (v := nI 2) dX0_meets_25 rfl (by decide) ?_
    refine r_aload_n (q := 27) dX0_meets_26 rfl rfl ?_
    refine gX0_28 (q := 30) dX0_meets_27 rfl ?_
    refine r_iload_n (q := 31) dX0_meets_30 rfl rfl ?_
    refine r_iconst (q := 32) (v := nI 3) dX0_meets_31 rfl (by decide) ?_
    refine r_imulN (q := 33) dX0_meets_32 rfl ?_
    refine r_iload (q := 35) dX0_meets_33 rfl rfl ?_
    refine r_iaddN (q := 36) dX0_meets_35 rfl ?_
    refine r_ialdV (q := 37) hV hI dX0_meets_36 rfl LA6 rfl rfl (by decide) (by omega) ?_
    refine r_imulN (q := 38) dX0_meets_37 rfl ?_
    refine r_istore (q := 40) dX0_meets_38 rfl (Nat.le_of_ble_eq_true rfl) ?_
    refine r_iconst (q := 41) (v := nI 2) dX0_meets_40 rfl (by decide) ?_
    refine r_iload (q := 43) dX0_meets_41 rfl rfl ?_
    refine r_iconst (q := 44) (v := nI 2) dX0_meets_43 rfl (by decide) ?_
    refine r_icmp_neN (t := 51) (q := 47) dX0_meets_44 (by decide) rfl (by omega) (by omega) (fun c44 => ?_) (fun c44 => ?_)
    · refine r_aload_n (q := 52) dX0_meets_51 rfl rfl ?_
      refine gX0_33 (q := 55) dX0_meets_52 rfl ?_
      refine r_iload_n (q := 56) dX0_meets_55 rfl rfl ?_
      refine r_iconst (q := 57) (v := nI 3) dX0_meets_56 rfl (by decide) ?_
      refine r_imulN (q := 58) dX0_meets_57 rfl ?_
      refine r_iload (q := 60) dX0_meets_58 rfl rfl ?_
      refine r_iaddN (q := 61) dX0_meets_60 rfl ?_
      refine r_ialdV (q := 62) hV hI dX0_meets_61 rfl LA7 rfl rfl (by decide) (by omega) ?_
      refine r_imulN (q := 63) dX0_meets_62 rfl ?_
      refine r_istore (q := 65) dX0_meets_63 rfl (Nat.le_of_ble_eq_true rfl) ?_
      refine r_aload_n (q := 66) dX0_meets_65 rfl rfl ?_
      refine gX0_9 (q := 69) dX0_meets_66 rfl ?_
      refine r_iload (q := 71) dX0_meets_69 rfl rfl ?_
      refine r_iald (q := 72) dX0_meets_71 rfl LA23 (by omega) (by decide) ?_
      refine r_as (congrFun (hoff 23 (by decide)) a) ?_
      refine r_istore (q := 74) dX0_meets_72 rfl (Nat.le_of_ble_eq_true rfl) ?_
      refine r_iload (q := 76) dX0_meets_74 rfl rfl ?_
      refine r_if_ne (t := 105) (q := 79) dX0_meets_76 (by decide) rfl (fun c76 => ?_) (fun c76 => ?_)
      · refine r_iload (q := 107) dX0_meets_105 rfl rfl ?_
        refine r_if_le (t := 115) (q := 110) dX0_meets_107 (by decide) rfl (fun c107 => ?_) (fun c107 => ?_)
        · refine r_iload (q := 117) dX0_meets_115 rfl rfl ?_
          refine r_ineg (q := 118) dX0_meets_117 rfl ?_
          refine r_istore (q := 120) dX0_meets_118 rfl (Nat.le_of_ble_eq_true rfl) ?_
          refine r_iload (q := 122) dX0_meets_120 rfl rfl ?_
          refine r_if_le (t := 138) (q := 125) dX0_meets_122 (by decide) rfl (fun c122 => ?_) (fun c122 => absurd c107 c122)
          refine r_aload_n (q := 139) dX0_meets_138 rfl rfl ?_
          refine gX0_15 (q := 142) dX0_meets_139 rfl ?_
          refine r_iload (q := 144) dX0_meets_142 rfl rfl ?_
          refine r_iald (q := 145) dX0_meets_144 rfl LA24 (by omega) (by decide) ?_
          refine r_as (congrFun (hoff 24 (by decide)) a) ?_
          refine r_iload (q := 147) dX0_meets_145 rfl rfl ?_
          refine r_isub (q := 148) dX0_meets_147 rfl ?_
          refine r_istore (q := 150) dX0_meets_148 rfl (Nat.le_of_ble_eq_true rfl) ?_
          refine r_iload (q := 152) dX0_meets_150 rfl rfl ?_
          refine r_if_le (t := 168) (q := 155) dX0_meets_152 (by decide) rfl (fun c152 => ?_) (fun c152 => absurd c107 c152)
          refine r_aload_n (q := 169) dX0_meets_168 rfl rfl ?_
          refine gX0_18 (q := 172) dX0_meets_169 rfl ?_
          refine r_iload (q := 174) dX0_meets_172 rfl rfl ?_
          refine r_iald (q := 175) dX0_meets_174 rfl LA25 (by omega) (by decide) ?_
          refine r_as (congrFun (hoff 25 (by decide)) a) ?_
          refine r_iload (q := 177) dX0_meets_175 rfl rfl ?_
          refine r_isub (q := 178) dX0_meets_177 rfl ?_
          refine r_istore (q := 180) dX0_meets_178 rfl (Nat.le_of_ble_eq_true rfl) ?_
          refine r_iload (q := 182) dX0_meets_180 rfl rfl ?_
          refine r_aload_n (q := 183) dX0_meets_182 rfl rfl ?_
          refine gX0_25 (q := 186) dX0_meets_183 rfl ?_
          refine r_imul (q := 187) dX0_meets_186 rfl ?_
          refine r_aload_n (q := 188) dX0_meets_187 rfl rfl ?_
          refine gX0_21 (q := 191) dX0_meets_188 rfl ?_
          refine r_iload (q := 193) dX0_meets_191 rfl rfl ?_
          refine r_imul (q := 194) dX0_meets_193 rfl ?_
          refine r_icmp_le (t := 209) (q := 197) dX0_meets_194 (by decide) rfl (fun c194 => ?_) (fun c194 => ?_)
          · refine r_iload (q := 211) dX0_meets_209 rfl rfl ?_
            refine r_iload (q := 213) dX0_meets_211 rfl rfl ?_
            refine r_imul (q := 214) dX0_meets_213 rfl ?_
            refine r_iload (q := 216) dX0_meets_214 rfl rfl ?_
            refine r_iload (q := 218) dX0_meets_216 rfl rfl ?_
            refine r_imul (q := 219) dX0_meets_218 rfl ?_
            refine r_icmp_ge (t := 230) (q := 222) dX0_meets_219 (by decide) rfl (fun c219 => ?_) (fun c219 => ?_)
            · refine r_iinc (q := 233) (v := nI (a + 1)) dX0_meets_230 rfl rfl (by rw [show Int32.ofInt 1 = nI 1 from rfl]; exact nI_add _ _) ?_
              refine r_goto (q := 19) dX0_meets_233 (by decide) ?_
              have hhi : mHi V b t a = 2 * nv V 7 (b * 3 + a) := by rw [mHi, if_neg c44]
              have hlo : mLo V b a = 2 * nv V 6 (b * 3 + a) := rfl
              skip
              have l1 := congrArg Prod.fst hl; have l2 := congrArg Prod.snd hl; have q1 := congrArg Prod.fst hh; have q2 := congrArg Prod.snd hh
              dsimp only at l1 l2 q1 q2
              have f1 : kFi (σ0 23 a) (nI (mLo V b a)) (nI (mHi V b t a)) (σ0 24 a) (σ0 25 a) = σ0 24 a - nI (2 * nv V 7 (b * 3 + a)) := by rw [kFi, if_pos c107, hhi]
              have f2 : kLa (σ0 23 a) (nI (mLo V b a)) (nI (mHi V b t a)) (σ0 24 a) (σ0 25 a) = σ0 25 a - nI (2 * nv V 6 (b * 3 + a)) := by rw [kLa, if_pos c107, hlo]
              have f3 : kUn (σ0 23 a) = -σ0 23 a := by rw [kUn, if_pos c107]
              skip
              have e3 : mO σ0 V b t (a + 1) = 0 := by
                show (if mO σ0 V b t a = 0 then kOut (σ0 23 a) (nI (mLo V b a)) (nI (mHi V b t a)) (σ0 24 a) (σ0 25 a) else 1) = 0
                rw [if_pos hO, kOut, if_neg c76]
              have e1 : mL σ0 V b t (a + 1) = mL σ0 V b t a := by
                show kLow (σ0 23 a) (nI (mLo V b a)) (nI (mHi V b t a)) (σ0 24 a) (σ0 25 a) _ = _
                rw [kLow, if_neg c76, if_pos (by rw [f1, f3, ← l1, ← l2]; exact c194)]
              have e2 : mH σ0 V b t (a + 1) = mH σ0 V b t a := by
                show kHigh (σ0 23 a) (nI (mLo V b a)) (nI (mHi V b t a)) (σ0 24 a) (σ0 25 a) _ = _
                rw [kHigh, if_neg c76, if_pos (by rw [f2, f3, ← q1, ← q2]; exact c219)]
              exact ih (a + 1) _ _ _ _ _ _ _ _ _ (by omega) hV hoff (by rw [e1]; exact hl) (by rw [e2]; exact hh) e3
            · refine r_iload (q := 224) dX0_meets_222 rfl rfl ?_
              refine r_istore (q := 226) dX0_meets_224 rfl (Nat.le_of_ble_eq_true rfl) ?_
              refine r_iload (q := 228) dX0_meets_226 rfl rfl ?_
              refine r_istore (q := 230) dX0_meets_228 rfl (Nat.le_of_ble_eq_true rfl) ?_
              refine r_iinc (q := 233) (v := nI (a + 1)) dX0_meets_230 rfl rfl (by rw [show Int32.ofInt 1 = nI 1 from rfl]; exact nI_add _ _) ?_
              refine r_goto (q := 19) dX0_meets_233 (by decide) ?_
              have hhi : mHi V b t a = 2 * nv V 7 (b * 3 + a) := by rw [mHi, if_neg c44]
              have hlo : mLo V b a = 2 * nv V 6 (b * 3 + a) := rfl
              skip
              have l1 := congrArg Prod.fst hl; have l2 := congrArg Prod.snd hl; have q1 := congrArg Prod.fst hh; have q2 := congrArg Prod.snd hh
              dsimp only at l1 l2 q1 q2
              have f1 : kFi (σ0 23 a) (nI (mLo V b a)) (nI (mHi V b t a)) (σ0 24 a) (σ0 25 a) = σ0 24 a - nI (2 * nv V 7 (b * 3 + a)) := by rw [kFi, if_pos c107, hhi]
              have f2 : kLa (σ0 23 a) (nI (mLo V b a)) (nI (mHi V b t a)) (σ0 24 a) (σ0 25 a) = σ0 25 a - nI (2 * nv V 6 (b * 3 + a)) := by rw [kLa, if_pos c107, hlo]
              have f3 : kUn (σ0 23 a) = -σ0 23 a := by rw [kUn, if_pos c107]
              skip
              have e3 : mO σ0 V b t (a + 1) = 0 := by
                show (if mO σ0 V b t a = 0 then kOut (σ0 23 a) (nI (mLo V b a)) (nI (mHi V b t a)) (σ0 24 a) (σ0 25 a) else 1) = 0
                rw [if_pos hO, kOut, if_neg c76]
              have e1 : mL σ0 V b t (a + 1) = mL σ0 V b t a := by
                show kLow (σ0 23 a) (nI (mLo V b a)) (nI (mHi V b t a)) (σ0 24 a) (σ0 25 a) _ = _
                rw [kLow, if_neg c76, if_pos (by rw [f1, f3, ← l1, ← l2]; exact c194)]
              have e2 : mH σ0 V b t (a + 1) = (kLa (σ0 23 a) (nI (mLo V b a)) (nI (mHi V b t a)) (σ0 24 a) (σ0 25 a), kUn (σ0 23 a)) := by
                show kHigh (σ0 23 a) (nI (mLo V b a)) (nI (mHi V b t a)) (σ0 24 a) (σ0 25 a) _ = _
                rw [kHigh, if_neg c76, if_neg (by rw [f2, f3, ← q1, ← q2]; exact c219)]
              exact ih (a + 1) _ _ _ _ _ _ _ _ _ (by omega) hV hoff (by rw [e1]; exact hl) (by rw [e2, f2, f3]) e3
          · refine r_aload_n (q := 198) dX0_meets_197 rfl rfl ?_
            refine r_iload (q := 200) dX0_meets_198 rfl rfl ?_
            refine psX0_21 (q := 203) hV dX0_meets_200 rfl (fun s200 e200 hV200 => ?_)
            refine r_aload_n (q := 204) dX0_meets_203 rfl rfl ?_
            refine r_iload (q := 206) dX0_meets_204 rfl rfl ?_
            refine psX0_25 (q := 209) hV200 dX0_meets_206 rfl (fun s206 e206 hV206 => ?_)
            refine r_iload (q := 211) dX0_meets_209 rfl rfl ?_
            refine r_iload (q := 213) dX0_meets_211 rfl rfl ?_
            refine r_imul (q := 214) dX0_meets_213 rfl ?_
            refine r_iload (q := 216) dX0_meets_214 rfl rfl ?_
            refine r_iload (q := 218) dX0_meets_216 rfl rfl ?_
            refine r_imul (q := 219) dX0_meets_218 rfl ?_
            refine r_icmp_ge (t := 230) (q := 222) dX0_meets_219 (by decide) rfl (fun c219 => ?_) (fun c219 => ?_)
            · refine r_iinc (q := 233) (v := nI (a + 1)) dX0_meets_230 rfl rfl (by rw [show Int32.ofInt 1 = nI 1 from rfl]; exact nI_add _ _) ?_
              refine r_goto (q := 19) dX0_meets_233 (by decide) ?_
              have hhi : mHi V b t a = 2 * nv V 7 (b * 3 + a) := by rw [mHi, if_neg c44]
              have hlo : mLo V b a = 2 * nv V 6 (b * 3 + a) := rfl
              skip
              have l1 := congrArg Prod.fst hl; have l2 := congrArg Prod.snd hl; have q1 := congrArg Prod.fst hh; have q2 := congrArg Prod.snd hh
              dsimp only at l1 l2 q1 q2
              have f1 : kFi (σ0 23 a) (nI (mLo V b a)) (nI (mHi V b t a)) (σ0 24 a) (σ0 25 a) = σ0 24 a - nI (2 * nv V 7 (b * 3 + a)) := by rw [kFi, if_pos c107, hhi]
              have f2 : kLa (σ0 23 a) (nI (mLo V b a)) (nI (mHi V b t a)) (σ0 24 a) (σ0 25 a) = σ0 25 a - nI (2 * nv V 6 (b * 3 + a)) := by rw [kLa, if_pos c107, hlo]
              have f3 : kUn (σ0 23 a) = -σ0 23 a := by rw [kUn, if_pos c107]
              skip
              have e3 : mO σ0 V b t (a + 1) = 0 := by
                show (if mO σ0 V b t a = 0 then kOut (σ0 23 a) (nI (mLo V b a)) (nI (mHi V b t a)) (σ0 24 a) (σ0 25 a) else 1) = 0
                rw [if_pos hO, kOut, if_neg c76]
              have e1 : mL σ0 V b t (a + 1) = (kFi (σ0 23 a) (nI (mLo V b a)) (nI (mHi V b t a)) (σ0 24 a) (σ0 25 a), kUn (σ0 23 a)) := by
                show kLow (σ0 23 a) (nI (mLo V b a)) (nI (mHi V b t a)) (σ0 24 a) (σ0 25 a) _ = _
                rw [kLow, if_neg c76, if_neg (by rw [f1, f3, ← l1, ← l2]; exact c194)]
              have e2 : mH σ0 V b t (a + 1) = mH σ0 V b t a := by
                show kHigh (σ0 23 a) (nI (mLo V b a)) (nI (mHi V b t a)) (σ0 24 a) (σ0 25 a) _ = _
                rw [kHigh, if_neg c76, if_pos (by rw [f2, f3, ← q1, ← q2]; exact c219)]
              have ho2 : off22 σ0 s206 := by
                intro k hk
                rw [← hoff k hk]
                funext i
                rw [e206, u2, if_neg (by omega), e200, u2, if_neg (by omega)]
              exact ih (a + 1) _ _ _ _ _ _ _ _ _ (by omega) hV206 ho2 (by rw [e1, f1, f3, e206, e200]; simp only [u2]; simp) (by rw [e2]; exact hh) e3
            · refine r_iload (q := 224) dX0_meets_222 rfl rfl ?_
              refine r_istore (q := 226) dX0_meets_224 rfl (Nat.le_of_ble_eq_true rfl) ?_
              refine r_iload (q := 228) dX0_meets_226 rfl rfl ?_
              refine r_istore (q := 230) dX0_meets_228 rfl (Nat.le_of_ble_eq_true rfl) ?_
              refine r_iinc (q := 233) (v := nI (a + 1)) dX0_meets_230 rfl rfl (by rw [show Int32.ofInt 1 = nI 1 from rfl]; exact nI_add _ _) ?_
              refine r_goto (q := 19) dX0_meets_233 (by decide) ?_
              have hhi : mHi V b t a = 2 * nv V 7 (b * 3 + a) := by rw [mHi, if_neg c44]
              have hlo : mLo V b a = 2 * nv V 6 (b * 3 + a) := rfl
              skip
              have l1 := congrArg Prod.fst hl; have l2 := congrArg Prod.snd hl; have q1 := congrArg Prod.fst hh; have q2 := congrArg Prod.snd hh
              dsimp only at l1 l2 q1 q2
              have f1 : kFi (σ0 23 a) (nI (mLo V b a)) (nI (mHi V b t a)) (σ0 24 a) (σ0 25 a) = σ0 24 a - nI (2 * nv V 7 (b * 3 + a)) := by rw [kFi, if_pos c107, hhi]
              have f2 : kLa (σ0 23 a) (nI (mLo V b a)) (nI (mHi V b t a)) (σ0 24 a) (σ0 25 a) = σ0 25 a - nI (2 * nv V 6 (b * 3 + a)) := by rw [kLa, if_pos c107, hlo]
              have f3 : kUn (σ0 23 a) = -σ0 23 a := by rw [kUn, if_pos c107]
              skip
              have e3 : mO σ0 V b t (a + 1) = 0 := by
                show (if mO σ0 V b t a = 0 then kOut (σ0 23 a) (nI (mLo V b a)) (nI (mHi V b t a)) (σ0 24 a) (σ0 25 a) else 1) = 0
                rw [if_pos hO, kOut, if_neg c76]
              have e1 : mL σ0 V b t (a + 1) = (kFi (σ0 23 a) (nI (mLo V b a)) (nI (mHi V b t a)) (σ0 24 a) (σ0 25 a), kUn (σ0 23 a)) := by
                show kLow (σ0 23 a) (nI (mLo V b a)) (nI (mHi V b t a)) (σ0 24 a) (σ0 25 a) _ = _
                rw [kLow, if_neg c76, if_neg (by rw [f1, f3, ← l1, ← l2]; exact c194)]
              have e2 : mH σ0 V b t (a + 1) = (kLa (σ0 23 a) (nI (mLo V b a)) (nI (mHi V b t a)) (σ0 24 a) (σ0 25 a), kUn (σ0 23 a)) := by
                show kHigh (σ0 23 a) (nI (mLo V b a)) (nI (mHi V b t a)) (σ0 24 a) (σ0 25 a) _ = _
                rw [kHigh, if_neg c76, if_neg (by rw [f2, f3, ← q1, ← q2]; exact c219)]
              have ho2 : off22 σ0 s206 := by
                intro k hk
                rw [← hoff k hk]
                funext i
                rw [e206, u2, if_neg (by omega), e200, u2, if_neg (by omega)]
              exact ih (a + 1) _ _ _ _ _ _ _ _ _ (by omega) hV206 ho2 (by rw [e1, f1, f3, e206, e200]; simp only [u2]; simp) (by rw [e2, f2, f3]) e3
        · refine r_iload (q := 112) dX0_meets_110 rfl rfl ?_
          refine r_goto (q := 118) dX0_meets_112 (by decide) ?_
          refine r_istore (q := 120) dX0_meets_118 rfl (Nat.le_of_ble_eq_true rfl) ?_
          refine r_iload (q := 122) dX0_meets_120 rfl rfl ?_
          refine r_if_le (t := 138) (q := 125) dX0_meets_122 (by decide) rfl (fun c122 => absurd c122 c107) (fun c122 => ?_)
          refine r_iload (q := 127) dX0_meets_125 rfl rfl ?_
          refine r_aload_n (q := 128) dX0_meets_127 rfl rfl ?_
          refine gX0_18 (q := 131) dX0_meets_128 rfl ?_
          refine r_iload (q := 133) dX0_meets_131 rfl rfl ?_
          refine r_iald (q := 134) dX0_meets_133 rfl LA25 (by omega) (by decide) ?_
          refine r_as (congrFun (hoff 25 (by decide)) a) ?_
          refine r_isub (q := 135) dX0_meets_134 rfl ?_
          refine r_goto (q := 148) dX0_meets_135 (by decide) ?_
          refine r_istore (q := 150) dX0_meets_148 rfl (Nat.le_of_ble_eq_true rfl) ?_
          refine r_iload (q := 152) dX0_meets_150 rfl rfl ?_
          refine r_if_le (t := 168) (q := 155) dX0_meets_152 (by decide) rfl (fun c152 => absurd c152 c107) (fun c152 => ?_)
          refine r_iload (q := 157) dX0_meets_155 rfl rfl ?_
          refine r_aload_n (q := 158) dX0_meets_157 rfl rfl ?_
          refine gX0_15 (q := 161) dX0_meets_158 rfl ?_
          refine r_iload (q := 163) dX0_meets_161 rfl rfl ?_
          refine r_iald (q := 164) dX0_meets_163 rfl LA24 (by omega) (by decide) ?_
          refine r_as (congrFun (hoff 24 (by decide)) a) ?_
          refine r_isub (q := 165) dX0_meets_164 rfl ?_
          refine r_goto (q := 178) dX0_meets_165 (by decide) ?_
          refine r_istore (q := 180) dX0_meets_178 rfl (Nat.le_of_ble_eq_true rfl) ?_
          refine r_iload (q := 182) dX0_meets_180 rfl rfl ?_
          refine r_aload_n (q := 183) dX0_meets_182 rfl rfl ?_
          refine gX0_25 (q := 186) dX0_meets_183 rfl ?_
          refine r_imul (q := 187) dX0_meets_186 rfl ?_
          refine r_aload_n (q := 188) dX0_meets_187 rfl rfl ?_
          refine gX0_21 (q := 191) dX0_meets_188 rfl ?_
          refine r_iload (q := 193) dX0_meets_191 rfl rfl ?_
          refine r_imul (q := 194) dX0_meets_193 rfl ?_
          refine r_icmp_le (t := 209) (q := 197) dX0_meets_194 (by decide) rfl (fun c194 => ?_) (fun c194 => ?_)
          · refine r_iload (q := 211) dX0_meets_209 rfl rfl ?_
            refine r_iload (q := 213) dX0_meets_211 rfl rfl ?_
            refine r_imul (q := 214) dX0_meets_213 rfl ?_
            refine r_iload (q := 216) dX0_meets_214 rfl rfl ?_
            refine r_iload (q := 218) dX0_meets_216 rfl rfl ?_
            refine r_imul (q := 219) dX0_meets_218 rfl ?_
            refine r_icmp_ge (t := 230) (q := 222) dX0_meets_219 (by decide) rfl (fun c219 => ?_) (fun c219 => ?_)
            · refine r_iinc (q := 233) (v := nI (a + 1)) dX0_meets_230 rfl rfl (by rw [show Int32.ofInt 1 = nI 1 from rfl]; exact nI_add _ _) ?_
              refine r_goto (q := 19) dX0_meets_233 (by decide) ?_
              have hhi : mHi V b t a = 2 * nv V 7 (b * 3 + a) := by rw [mHi, if_neg c44]
              have hlo : mLo V b a = 2 * nv V 6 (b * 3 + a) := rfl
              skip
              have l1 := congrArg Prod.fst hl; have l2 := congrArg Prod.snd hl; have q1 := congrArg Prod.fst hh; have q2 := congrArg Prod.snd hh
              dsimp only at l1 l2 q1 q2
              have f1 : kFi (σ0 23 a) (nI (mLo V b a)) (nI (mHi V b t a)) (σ0 24 a) (σ0 25 a) = nI (2 * nv V 6 (b * 3 + a)) - σ0 25 a := by rw [kFi, if_neg c107, hlo]
              have f2 : kLa (σ0 23 a) (nI (mLo V b a)) (nI (mHi V b t a)) (σ0 24 a) (σ0 25 a) = nI (2 * nv V 7 (b * 3 + a)) - σ0 24 a := by rw [kLa, if_neg c107, hhi]
              have f3 : kUn (σ0 23 a) = σ0 23 a := by rw [kUn, if_neg c107]
              skip
              have e3 : mO σ0 V b t (a + 1) = 0 := by
                show (if mO σ0 V b t a = 0 then kOut (σ0 23 a) (nI (mLo V b a)) (nI (mHi V b t a)) (σ0 24 a) (σ0 25 a) else 1) = 0
                rw [if_pos hO, kOut, if_neg c76]
              have e1 : mL σ0 V b t (a + 1) = mL σ0 V b t a := by
                show kLow (σ0 23 a) (nI (mLo V b a)) (nI (mHi V b t a)) (σ0 24 a) (σ0 25 a) _ = _
                rw [kLow, if_neg c76, if_pos (by rw [f1, f3, ← l1, ← l2]; exact c194)]
              have e2 : mH σ0 V b t (a + 1) = mH σ0 V b t a := by
                show kHigh (σ0 23 a) (nI (mLo V b a)) (nI (mHi V b t a)) (σ0 24 a) (σ0 25 a) _ = _
                rw [kHigh, if_neg c76, if_pos (by rw [f2, f3, ← q1, ← q2]; exact c219)]
              exact ih (a + 1) _ _ _ _ _ _ _ _ _ (by omega) hV hoff (by rw [e1]; exact hl) (by rw [e2]; exact hh) e3
            · refine r_iload (q := 224) dX0_meets_222 rfl rfl ?_
              refine r_istore (q := 226) dX0_meets_224 rfl (Nat.le_of_ble_eq_true rfl) ?_
              refine r_iload (q := 228) dX0_meets_226 rfl rfl ?_
              refine r_istore (q := 230) dX0_meets_228 rfl (Nat.le_of_ble_eq_true rfl) ?_
              refine r_iinc (q := 233) (v := nI (a + 1)) dX0_meets_230 rfl rfl (by rw [show Int32.ofInt 1 = nI 1 from rfl]; exact nI_add _ _) ?_
              refine r_goto (q := 19) dX0_meets_233 (by decide) ?_
              have hhi : mHi V b t a = 2 * nv V 7 (b * 3 + a) := by rw [mHi, if_neg c44]
              have hlo : mLo V b a = 2 * nv V 6 (b * 3 + a) := rfl
              skip
              have l1 := congrArg Prod.fst hl; have l2 := congrArg Prod.snd hl; have q1 := congrArg Prod.fst hh; have q2 := congrArg Prod.snd hh
              dsimp only at l1 l2 q1 q2
              have f1 : kFi (σ0 23 a) (nI (mLo V b a)) (nI (mHi V b t a)) (σ0 24 a) (σ0 25 a) = nI (2 * nv V 6 (b * 3 + a)) - σ0 25 a := by rw [kFi, if_neg c107, hlo]
              have f2 : kLa (σ0 23 a) (nI (mLo V b a)) (nI (mHi V b t a)) (σ0 24 a) (σ0 25 a) = nI (2 * nv V 7 (b * 3 + a)) - σ0 24 a := by rw [kLa, if_neg c107, hhi]
              have f3 : kUn (σ0 23 a) = σ0 23 a := by rw [kUn, if_neg c107]
              skip
              have e3 : mO σ0 V b t (a + 1) = 0 := by
                show (if mO σ0 V b t a = 0 then kOut (σ0 23 a) (nI (mLo V b a)) (nI (mHi V b t a)) (σ0 24 a) (σ0 25 a) else 1) = 0
                rw [if_pos hO, kOut, if_neg c76]
              have e1 : mL σ0 V b t (a + 1) = mL σ0 V b t a := by
                show kLow (σ0 23 a) (nI (mLo V b a)) (nI (mHi V b t a)) (σ0 24 a) (σ0 25 a) _ = _
                rw [kLow, if_neg c76, if_pos (by rw [f1, f3, ← l1, ← l2]; exact c194)]
              have e2 : mH σ0 V b t (a + 1) = (kLa (σ0 23 a) (nI (mLo V b a)) (nI (mHi V b t a)) (σ0 24 a) (σ0 25 a), kUn (σ0 23 a)) := by
                show kHigh (σ0 23 a) (nI (mLo V b a)) (nI (mHi V b t a)) (σ0 24 a) (σ0 25 a) _ = _
                rw [kHigh, if_neg c76, if_neg (by rw [f2, f3, ← q1, ← q2]; exact c219)]
              exact ih (a + 1) _ _ _ _ _ _ _ _ _ (by omega) hV hoff (by rw [e1]; exact hl) (by rw [e2, f2, f3]) e3
          · refine r_aload_n (q := 198) dX0_meets_197 rfl rfl ?_
            refine r_iload (q := 200) dX0_meets_198 rfl rfl ?_
            refine psX0_21 (q := 203) hV dX0_meets_200 rfl (fun s200 e200 hV200 => ?_)
            refine r_aload_n (q := 204) dX0_meets_203 rfl rfl ?_
            refine r_iload (q := 206) dX0_meets_204 rfl rfl ?_
            refine psX0_25 (q := 209) hV200 dX0_meets_206 rfl (fun s206 e206 hV206 => ?_)
            refine r_iload (q := 211) dX0_meets_209 rfl rfl ?_
            refine r_iload (q := 213) dX0_meets_211 rfl rfl ?_
            refine r_imul (q := 214) dX0_meets_213 rfl ?_
            refine r_iload (q := 216) dX0_meets_214 rfl rfl ?_
            refine r_iload (q := 218) dX0_meets_216 rfl rfl ?_
            refine r_imul (q := 219) dX0_meets_218 rfl ?_
            refine r_icmp_ge (t := 230) (q := 222) dX0_meets_219 (by decide) rfl (fun c219 => ?_) (fun c219 => ?_)
            · refine r_iinc (q := 233) (v := nI (a + 1)) dX0_meets_230 rfl rfl (by rw [show Int32.ofInt 1 = nI 1 from rfl]; exact nI_add _ _) ?_
              refine r_goto (q := 19) dX0_meets_233 (by decide) ?_
              have hhi : mHi V b t a = 2 * nv V 7 (b * 3 + a) := by rw [mHi, if_neg c44]
              have hlo : mLo V b a = 2 * nv V 6 (b * 3 + a) := rfl
              skip
              have l1 := congrArg Prod.fst hl; have l2 := congrArg Prod.snd hl; have q1 := congrArg Prod.fst hh; have q2 := congrArg Prod.snd hh
              dsimp only at l1 l2 q1 q2
              have f1 : kFi (σ0 23 a) (nI (mLo V b a)) (nI (mHi V b t a)) (σ0 24 a) (σ0 25 a) = nI (2 * nv V 6 (b * 3 + a)) - σ0 25 a := by rw [kFi, if_neg c107, hlo]
              have f2 : kLa (σ0 23 a) (nI (mLo V b a)) (nI (mHi V b t a)) (σ0 24 a) (σ0 25 a) = nI (2 * nv V 7 (b * 3 + a)) - σ0 24 a := by rw [kLa, if_neg c107, hhi]
              have f3 : kUn (σ0 23 a) = σ0 23 a := by rw [kUn, if_neg c107]
              skip
              have e3 : mO σ0 V b t (a + 1) = 0 := by
                show (if mO σ0 V b t a = 0 then kOut (σ0 23 a) (nI (mLo V b a)) (nI (mHi V b t a)) (σ0 24 a) (σ0 25 a) else 1) = 0
                rw [if_pos hO, kOut, if_neg c76]
              have e1 : mL σ0 V b t (a + 1) = (kFi (σ0 23 a) (nI (mLo V b a)) (nI (mHi V b t a)) (σ0 24 a) (σ0 25 a), kUn (σ0 23 a)) := by
                show kLow (σ0 23 a) (nI (mLo V b a)) (nI (mHi V b t a)) (σ0 24 a) (σ0 25 a) _ = _
                rw [kLow, if_neg c76, if_neg (by rw [f1, f3, ← l1, ← l2]; exact c194)]
              have e2 : mH σ0 V b t (a + 1) = mH σ0 V b t a := by
                show kHigh (σ0 23 a) (nI (mLo V b a)) (nI (mHi V b t a)) (σ0 24 a) (σ0 25 a) _ = _
                rw [kHigh, if_neg c76, if_pos (by rw [f2, f3, ← q1, ← q2]; exact c219)]
              have ho2 : off22 σ0 s206 := by
                intro k hk
                rw [← hoff k hk]
                funext i
                rw [e206, u2, if_neg (by omega), e200, u2, if_neg (by omega)]
              exact ih (a + 1) _ _ _ _ _ _ _ _ _ (by omega) hV206 ho2 (by rw [e1, f1, f3, e206, e200]; simp only [u2]; simp) (by rw [e2]; exact hh) e3
            · refine r_iload (q := 224) dX0_meets_222 rfl rfl ?_
              refine r_istore (q := 226) dX0_meets_224 rfl (Nat.le_of_ble_eq_true rfl) ?_
              refine r_iload (q := 228) dX0_meets_226 rfl rfl ?_
              refine r_istore (q := 230) dX0_meets_228 rfl (Nat.le_of_ble_eq_true rfl) ?_
              refine r_iinc (q := 233) (v := nI (a + 1)) dX0_meets_230 rfl rfl (by rw [show Int32.ofInt 1 = nI 1 from rfl]; exact nI_add _ _) ?_
              refine r_goto (q := 19) dX0_meets_233 (by decide) ?_
              have hhi : mHi V b t a = 2 * nv V 7 (b * 3 + a) := by rw [mHi, if_neg c44]
              have hlo : mLo V b a = 2 * nv V 6 (b * 3 + a) := rfl
              skip
              have l1 := congrArg Prod.fst hl; have l2 := congrArg Prod.snd hl; have q1 := congrArg Prod.fst hh; have q2 := congrArg Prod.snd hh
              dsimp only at l1 l2 q1 q2
              have f1 : kFi (σ0 23 a) (nI (mLo V b a)) (nI (mHi V b t a)) (σ0 24 a) (σ0 25 a) = nI (2 * nv V 6 (b * 3 + a)) - σ0 25 a := by rw [kFi, if_neg c107, hlo]
              have f2 : kLa (σ0 23 a) (nI (mLo V b a)) (nI (mHi V b t a)) (σ0 24 a) (σ0 25 a) = nI (2 * nv V 7 (b * 3 + a)) - σ0 24 a := by rw [kLa, if_neg c107, hhi]
              have f3 : kUn (σ0 23 a) = σ0 23 a := by rw [kUn, if_neg c107]
              skip
              have e3 : mO σ0 V b t (a + 1) = 0 := by
                show (if mO σ0 V b t a = 0 then kOut (σ0 23 a) (nI (mLo V b a)) (nI (mHi V b t a)) (σ0 24 a) (σ0 25 a) else 1) = 0
                rw [if_pos hO, kOut, if_neg c76]
              have e1 : mL σ0 V b t (a + 1) = (kFi (σ0 23 a) (nI (mLo V b a)) (nI (mHi V b t a)) (σ0 24 a) (σ0 25 a), kUn (σ0 23 a)) := by
                show kLow (σ0 23 a) (nI (mLo V b a)) (nI (mHi V b t a)) (σ0 24 a) (σ0 25 a) _ = _
                rw [kLow, if_neg c76, if_neg (by rw [f1, f3, ← l1, ← l2]; exact c194)]
              have e2 : mH σ0 V b t (a + 1) = (kLa (σ0 23 a) (nI (mLo V b a)) (nI (mHi V b t a)) (σ0 24 a) (σ0 25 a), kUn (σ0 23 a)) := by
                show kHigh (σ0 23 a) (nI (mLo V b a)) (nI (mHi V b t a)) (σ0 24 a) (σ0 25 a) _ = _
                rw [kHigh, if_neg c76, if_neg (by rw [f2, f3, ← q1, ← q2]; exact c219)]
              have ho2 : off22 σ0 s206 := by
                intro k hk
                rw [← hoff k hk]
                funext i
                rw [e206, u2, if_neg (by omega), e200, u2, if_neg (by omega)]
              exact ih (a + 1) _ _ _ _ _ _ _ _ _ (by omega) hV206 ho2 (by rw [e1, f1, f3, e206, e200]; simp only [u2]; simp) (by rw [e2, f2, f3]) e3
      · refine r_aload_n (q := 80) dX0_meets_79 rfl rfl ?_
        refine gX0_18 (q := 83) dX0_meets_80 rfl ?_
        refine r_iload (q := 85) dX0_meets_83 rfl rfl ?_
        refine r_iald (q := 86) dX0_meets_85 rfl LA25 (by omega) (by decide) ?_
        refine r_as (congrFun (hoff 25 (by decide)) a) ?_
        refine r_iload (q := 88) dX0_meets_86 rfl rfl ?_
        refine r_icmp_le (t := 103) (q := 91) dX0_meets_88 (by decide) rfl (fun c88 => ?_) (fun c88 => ?_)
        · refine r_iconst (q := 104) (v := nI 0) dX0_meets_103 rfl (by decide) ?_
          have hhi : mHi V b t a = 2 * nv V 7 (b * 3 + a) := by rw [mHi, if_neg c44]
          have hlo : mLo V b a = 2 * nv V 6 (b * 3 + a) := rfl
          skip
          have e3 : mO σ0 V b t (a + 1) = 1 := by
            show (if mO σ0 V b t a = 0 then kOut (σ0 23 a) (nI (mLo V b a)) (nI (mHi V b t a)) (σ0 24 a) (σ0 25 a) else 1) = 1
            rw [if_pos hO, kOut, if_pos c76, hhi, hlo, if_pos c88]
          have e4 := mO_up e3 n
          rw [show a + 1 + n = 3 by omega] at e4
          have e5 : mHit σ0 V b t = 0 := by rw [mHit, if_neg (by omega)]
          exact r_retI dX0_meets_104 ⟨by rw [e5], hV, hoff, fun h => by omega⟩
        · refine r_aload_n (q := 92) dX0_meets_91 rfl rfl ?_
          refine gX0_15 (q := 95) dX0_meets_92 rfl ?_
          refine r_iload (q := 97) dX0_meets_95 rfl rfl ?_
          refine r_iald (q := 98) dX0_meets_97 rfl LA24 (by omega) (by decide) ?_
          refine r_as (congrFun (hoff 24 (by decide)) a) ?_
          refine r_iload (q := 100) dX0_meets_98 rfl rfl ?_
          refine r_icmp_lt (t := 230) (q := 103) dX0_meets_100 (by decide) rfl (fun c100 => ?_) (fun c100 => ?_)
          · refine r_iinc (q := 233) (v := nI (a + 1)) dX0_meets_230 rfl rfl (by rw [show Int32.ofInt 1 = nI 1 from rfl]; exact nI_add _ _) ?_
            refine r_goto (q := 19) dX0_meets_233 (by decide) ?_
            have hhi : mHi V b t a = 2 * nv V 7 (b * 3 + a) := by rw [mHi, if_neg c44]
            have hlo : mLo V b a = 2 * nv V 6 (b * 3 + a) := rfl
            skip
            have l1 := congrArg Prod.fst hl; have l2 := congrArg Prod.snd hl; have q1 := congrArg Prod.fst hh; have q2 := congrArg Prod.snd hh
            dsimp only at l1 l2 q1 q2
            have e1 : mL σ0 V b t (a + 1) = mL σ0 V b t a := by
              show kLow (σ0 23 a) (nI (mLo V b a)) (nI (mHi V b t a)) (σ0 24 a) (σ0 25 a) _ = _
              rw [kLow, if_pos c76]
            have e2 : mH σ0 V b t (a + 1) = mH σ0 V b t a := by
              show kHigh (σ0 23 a) (nI (mLo V b a)) (nI (mHi V b t a)) (σ0 24 a) (σ0 25 a) _ = _
              rw [kHigh, if_pos c76]
            have e3 : mO σ0 V b t (a + 1) = 0 := by
              show (if mO σ0 V b t a = 0 then kOut (σ0 23 a) (nI (mLo V b a)) (nI (mHi V b t a)) (σ0 24 a) (σ0 25 a) else 1) = 0
              rw [if_pos hO, kOut, if_pos c76, hhi, hlo, if_neg c88, if_pos c100]
            exact ih (a + 1) _ _ _ _ _ _ _ _ _ (by omega) hV hoff (by rw [e1]; exact hl) (by rw [e2]; exact hh) e3
          · refine r_iconst (q := 104) (v := nI 0) dX0_meets_103 rfl (by decide) ?_
            have hhi : mHi V b t a = 2 * nv V 7 (b * 3 + a) := by rw [mHi, if_neg c44]
            have hlo : mLo V b a = 2 * nv V 6 (b * 3 + a) := rfl
            skip
            have e3 : mO σ0 V b t (a + 1) = 1 := by
              show (if mO σ0 V b t a = 0 then kOut (σ0 23 a) (nI (mLo V b a)) (nI (mHi V b t a)) (σ0 24 a) (σ0 25 a) else 1) = 1
              rw [if_pos hO, kOut, if_pos c76, hhi, hlo, if_neg c88, if_neg c100]
            have e4 := mO_up e3 n
            rw [show a + 1 + n = 3 by omega] at e4
            have e5 : mHit σ0 V b t = 0 := by rw [mHit, if_neg (by omega)]
            exact r_retI dX0_meets_104 ⟨by rw [e5], hV, hoff, fun h => by omega⟩
    · refine r_iload_n (q := 48) dX0_meets_47 rfl rfl ?_
      refine r_goto (q := 62) dX0_meets_48 (by decide) ?_
      refine r_imulN (q := 63) dX0_meets_62 rfl ?_
      refine r_istore (q := 65) dX0_meets_63 rfl (Nat.le_of_ble_eq_true rfl) ?_
      refine r_aload_n (q := 66) dX0_meets_65 rfl rfl ?_
      refine gX0_9 (q := 69) dX0_meets_66 rfl ?_
      refine r_iload (q := 71) dX0_meets_69 rfl rfl ?_
      refine r_iald (q := 72) dX0_meets_71 rfl LA23 (by omega) (by decide) ?_
      refine r_as (congrFun (hoff 23 (by decide)) a) ?_
      refine r_istore (q := 74) dX0_meets_72 rfl (Nat.le_of_ble_eq_true rfl) ?_
      refine r_iload (q := 76) dX0_meets_74 rfl rfl ?_
      refine r_if_ne (t := 105) (q := 79) dX0_meets_76 (by decide) rfl (fun c76 => ?_) (fun c76 => ?_)
      · refine r_iload (q := 107) dX0_meets_105 rfl rfl ?_
        refine r_if_le (t := 115) (q := 110) dX0_meets_107 (by decide) rfl (fun c107 => ?_) (fun c107 => ?_)
        · refine r_iload (q := 117) dX0_meets_115 rfl rfl ?_
          refine r_ineg (q := 118) dX0_meets_117 rfl ?_
          refine r_istore (q := 120) dX0_meets_118 rfl (Nat.le_of_ble_eq_true rfl) ?_
          refine r_iload (q := 122) dX0_meets_120 rfl rfl ?_
          refine r_if_le (t := 138) (q := 125) dX0_meets_122 (by decide) rfl (fun c122 => ?_) (fun c122 => absurd c107 c122)
          refine r_aload_n (q := 139) dX0_meets_138 rfl rfl ?_
          refine gX0_15 (q := 142) dX0_meets_139 rfl ?_
          refine r_iload (q := 144) dX0_meets_142 rfl rfl ?_
          refine r_iald (q := 145) dX0_meets_144 rfl LA24 (by omega) (by decide) ?_
          refine r_as (congrFun (hoff 24 (by decide)) a) ?_
          refine r_iload (q := 147) dX0_meets_145 rfl rfl ?_
          refine r_isub (q := 148) dX0_meets_147 rfl ?_
          refine r_istore (q := 150) dX0_meets_148 rfl (Nat.le_of_ble_eq_true rfl) ?_
          refine r_iload (q := 152) dX0_meets_150 rfl rfl ?_
          refine r_if_le (t := 168) (q := 155) dX0_meets_152 (by decide) rfl (fun c152 => ?_) (fun c152 => absurd c107 c152)
          refine r_aload_n (q := 169) dX0_meets_168 rfl rfl ?_
          refine gX0_18 (q := 172) dX0_meets_169 rfl ?_
          refine r_iload (q := 174) dX0_meets_172 rfl rfl ?_
          refine r_iald (q := 175) dX0_meets_174 rfl LA25 (by omega) (by decide) ?_
          refine r_as (congrFun (hoff 25 (by decide)) a) ?_
          refine r_iload (q := 177) dX0_meets_175 rfl rfl ?_
          refine r_isub (q := 178) dX0_meets_177 rfl ?_
          refine r_istore (q := 180) dX0_meets_178 rfl (Nat.le_of_ble_eq_true rfl) ?_
          refine r_iload (q := 182) dX0_meets_180 rfl rfl ?_
          refine r_aload_n (q := 183) dX0_meets_182 rfl rfl ?_
          refine gX0_25 (q := 186) dX0_meets_183 rfl ?_
          refine r_imul (q := 187) dX0_meets_186 rfl ?_
          refine r_aload_n (q := 188) dX0_meets_187 rfl rfl ?_
          refine gX0_21 (q := 191) dX0_meets_188 rfl ?_
          refine r_iload (q := 193) dX0_meets_191 rfl rfl ?_
          refine r_imul (q := 194) dX0_meets_193 rfl ?_
          refine r_icmp_le (t := 209) (q := 197) dX0_meets_194 (by decide) rfl (fun c194 => ?_) (fun c194 => ?_)
          · refine r_iload (q := 211) dX0_meets_209 rfl rfl ?_
            refine r_iload (q := 213) dX0_meets_211 rfl rfl ?_
            refine r_imul (q := 214) dX0_meets_213 rfl ?_
            refine r_iload (q := 216) dX0_meets_214 rfl rfl ?_
            refine r_iload (q := 218) dX0_meets_216 rfl rfl ?_
            refine r_imul (q := 219) dX0_meets_218 rfl ?_
            refine r_icmp_ge (t := 230) (q := 222) dX0_meets_219 (by decide) rfl (fun c219 => ?_) (fun c219 => ?_)
            · refine r_iinc (q := 233) (v := nI (a + 1)) dX0_meets_230 rfl rfl (by rw [show Int32.ofInt 1 = nI 1 from rfl]; exact nI_add _ _) ?_
              refine r_goto (q := 19) dX0_meets_233 (by decide) ?_
              have hhi : mHi V b t a = 2 * t := by rw [mHi, if_pos c44]
              have hlo : mLo V b a = 2 * nv V 6 (b * 3 + a) := rfl
              skip
              have l1 := congrArg Prod.fst hl; have l2 := congrArg Prod.snd hl; have q1 := congrArg Prod.fst hh; have q2 := congrArg Prod.snd hh
              dsimp only at l1 l2 q1 q2
              have f1 : kFi (σ0 23 a) (nI (mLo V b a)) (nI (mHi V b t a)) (σ0 24 a) (σ0 25 a) = σ0 24 a - nI (2 * t) := by rw [kFi, if_pos c107, hhi]
              have f2 : kLa (σ0 23 a) (nI (mLo V b a)) (nI (mHi V b t a)) (σ0 24 a) (σ0 25 a) = σ0 25 a - nI (2 * nv V 6 (b * 3 + a)) := by rw [kLa, if_pos c107, hlo]
              have f3 : kUn (σ0 23 a) = -σ0 23 a := by rw [kUn, if_pos c107]
              skip
              have e3 : mO σ0 V b t (a + 1) = 0 := by
                show (if mO σ0 V b t a = 0 then kOut (σ0 23 a) (nI (mLo V b a)) (nI (mHi V b t a)) (σ0 24 a) (σ0 25 a) else 1) = 0
                rw [if_pos hO, kOut, if_neg c76]
              have e1 : mL σ0 V b t (a + 1) = mL σ0 V b t a := by
                show kLow (σ0 23 a) (nI (mLo V b a)) (nI (mHi V b t a)) (σ0 24 a) (σ0 25 a) _ = _
                rw [kLow, if_neg c76, if_pos (by rw [f1, f3, ← l1, ← l2]; exact c194)]
              have e2 : mH σ0 V b t (a + 1) = mH σ0 V b t a := by
                show kHigh (σ0 23 a) (nI (mLo V b a)) (nI (mHi V b t a)) (σ0 24 a) (σ0 25 a) _ = _
                rw [kHigh, if_neg c76, if_pos (by rw [f2, f3, ← q1, ← q2]; exact c219)]
              exact ih (a + 1) _ _ _ _ _ _ _ _ _ (by omega) hV hoff (by rw [e1]; exact hl) (by rw [e2]; exact hh) e3
            · refine r_iload (q := 224) dX0_meets_222 rfl rfl ?_
              refine r_istore (q := 226) dX0_meets_224 rfl (Nat.le_of_ble_eq_true rfl) ?_
              refine r_iload (q := 228) dX0_meets_226 rfl rfl ?_
              refine r_istore (q := 230) dX0_meets_228 rfl (Nat.le_of_ble_eq_true rfl) ?_
              refine r_iinc (q := 233) (v := nI (a + 1)) dX0_meets_230 rfl rfl (by rw [show Int32.ofInt 1 = nI 1 from rfl]; exact nI_add _ _) ?_
              refine r_goto (q := 19) dX0_meets_233 (by decide) ?_
              have hhi : mHi V b t a = 2 * t := by rw [mHi, if_pos c44]
              have hlo : mLo V b a = 2 * nv V 6 (b * 3 + a) := rfl
              skip
              have l1 := congrArg Prod.fst hl; have l2 := congrArg Prod.snd hl; have q1 := congrArg Prod.fst hh; have q2 := congrArg Prod.snd hh
              dsimp only at l1 l2 q1 q2
              have f1 : kFi (σ0 23 a) (nI (mLo V b a)) (nI (mHi V b t a)) (σ0 24 a) (σ0 25 a) = σ0 24 a - nI (2 * t) := by rw [kFi, if_pos c107, hhi]
              have f2 : kLa (σ0 23 a) (nI (mLo V b a)) (nI (mHi V b t a)) (σ0 24 a) (σ0 25 a) = σ0 25 a - nI (2 * nv V 6 (b * 3 + a)) := by rw [kLa, if_pos c107, hlo]
              have f3 : kUn (σ0 23 a) = -σ0 23 a := by rw [kUn, if_pos c107]
              skip
              have e3 : mO σ0 V b t (a + 1) = 0 := by
                show (if mO σ0 V b t a = 0 then kOut (σ0 23 a) (nI (mLo V b a)) (nI (mHi V b t a)) (σ0 24 a) (σ0 25 a) else 1) = 0
                rw [if_pos hO, kOut, if_neg c76]
              have e1 : mL σ0 V b t (a + 1) = mL σ0 V b t a := by
                show kLow (σ0 23 a) (nI (mLo V b a)) (nI (mHi V b t a)) (σ0 24 a) (σ0 25 a) _ = _
                rw [kLow, if_neg c76, if_pos (by rw [f1, f3, ← l1, ← l2]; exact c194)]
              have e2 : mH σ0 V b t (a + 1) = (kLa (σ0 23 a) (nI (mLo V b a)) (nI (mHi V b t a)) (σ0 24 a) (σ0 25 a), kUn (σ0 23 a)) := by
                show kHigh (σ0 23 a) (nI (mLo V b a)) (nI (mHi V b t a)) (σ0 24 a) (σ0 25 a) _ = _
                rw [kHigh, if_neg c76, if_neg (by rw [f2, f3, ← q1, ← q2]; exact c219)]
              exact ih (a + 1) _ _ _ _ _ _ _ _ _ (by omega) hV hoff (by rw [e1]; exact hl) (by rw [e2, f2, f3]) e3
          · refine r_aload_n (q := 198) dX0_meets_197 rfl rfl ?_
            refine r_iload (q := 200) dX0_meets_198 rfl rfl ?_
            refine psX0_21 (q := 203) hV dX0_meets_200 rfl (fun s200 e200 hV200 => ?_)
            refine r_aload_n (q := 204) dX0_meets_203 rfl rfl ?_
            refine r_iload (q := 206) dX0_meets_204 rfl rfl ?_
            refine psX0_25 (q := 209) hV200 dX0_meets_206 rfl (fun s206 e206 hV206 => ?_)
            refine r_iload (q := 211) dX0_meets_209 rfl rfl ?_
            refine r_iload (q := 213) dX0_meets_211 rfl rfl ?_
            refine r_imul (q := 214) dX0_meets_213 rfl ?_
            refine r_iload (q := 216) dX0_meets_214 rfl rfl ?_
            refine r_iload (q := 218) dX0_meets_216 rfl rfl ?_
            refine r_imul (q := 219) dX0_meets_218 rfl ?_
            refine r_icmp_ge (t := 230) (q := 222) dX0_meets_219 (by decide) rfl (fun c219 => ?_) (fun c219 => ?_)
            · refine r_iinc (q := 233) (v := nI (a + 1)) dX0_meets_230 rfl rfl (by rw [show Int32.ofInt 1 = nI 1 from rfl]; exact nI_add _ _) ?_
              refine r_goto (q := 19) dX0_meets_233 (by decide) ?_
              have hhi : mHi V b t a = 2 * t := by rw [mHi, if_pos c44]
              have hlo : mLo V b a = 2 * nv V 6 (b * 3 + a) := rfl
              skip
              have l1 := congrArg Prod.fst hl; have l2 := congrArg Prod.snd hl; have q1 := congrArg Prod.fst hh; have q2 := congrArg Prod.snd hh
              dsimp only at l1 l2 q1 q2
              have f1 : kFi (σ0 23 a) (nI (mLo V b a)) (nI (mHi V b t a)) (σ0 24 a) (σ0 25 a) = σ0 24 a - nI (2 * t) := by rw [kFi, if_pos c107, hhi]
              have f2 : kLa (σ0 23 a) (nI (mLo V b a)) (nI (mHi V b t a)) (σ0 24 a) (σ0 25 a) = σ0 25 a - nI (2 * nv V 6 (b * 3 + a)) := by rw [kLa, if_pos c107, hlo]
              have f3 : kUn (σ0 23 a) = -σ0 23 a := by rw [kUn, if_pos c107]
              skip
              have e3 : mO σ0 V b t (a + 1) = 0 := by
                show (if mO σ0 V b t a = 0 then kOut (σ0 23 a) (nI (mLo V b a)) (nI (mHi V b t a)) (σ0 24 a) (σ0 25 a) else 1) = 0
                rw [if_pos hO, kOut, if_neg c76]
              have e1 : mL σ0 V b t (a + 1) = (kFi (σ0 23 a) (nI (mLo V b a)) (nI (mHi V b t a)) (σ0 24 a) (σ0 25 a), kUn (σ0 23 a)) := by
                show kLow (σ0 23 a) (nI (mLo V b a)) (nI (mHi V b t a)) (σ0 24 a) (σ0 25 a) _ = _
                rw [kLow, if_neg c76, if_neg (by rw [f1, f3, ← l1, ← l2]; exact c194)]
              have e2 : mH σ0 V b t (a + 1) = mH σ0 V b t a := by
                show kHigh (σ0 23 a) (nI (mLo V b a)) (nI (mHi V b t a)) (σ0 24 a) (σ0 25 a) _ = _
                rw [kHigh, if_neg c76, if_pos (by rw [f2, f3, ← q1, ← q2]; exact c219)]
              have ho2 : off22 σ0 s206 := by
                intro k hk
                rw [← hoff k hk]
                funext i
                rw [e206, u2, if_neg (by omega), e200, u2, if_neg (by omega)]
              exact ih (a + 1) _ _ _ _ _ _ _ _ _ (by omega) hV206 ho2 (by rw [e1, f1, f3, e206, e200]; simp only [u2]; simp) (by rw [e2]; exact hh) e3
            · refine r_iload (q := 224) dX0_meets_222 rfl rfl ?_
              refine r_istore (q := 226) dX0_meets_224 rfl (Nat.le_of_ble_eq_true rfl) ?_
              refine r_iload (q := 228) dX0_meets_226 rfl rfl ?_
              refine r_istore (q := 230) dX0_meets_228 rfl (Nat.le_of_ble_eq_true rfl) ?_
              refine r_iinc (q := 233) (v := nI (a + 1)) dX0_meets_230 rfl rfl (by rw [show Int32.ofInt 1 = nI 1 from rfl]; exact nI_add _ _) ?_
              refine r_goto (q := 19) dX0_meets_233 (by decide) ?_
              have hhi : mHi V b t a = 2 * t := by rw [mHi, if_pos c44]
              have hlo : mLo V b a = 2 * nv V 6 (b * 3 + a) := rfl
              skip
              have l1 := congrArg Prod.fst hl; have l2 := congrArg Prod.snd hl; have q1 := congrArg Prod.fst hh; have q2 := congrArg Prod.snd hh
              dsimp only at l1 l2 q1 q2
              have f1 : kFi (σ0 23 a) (nI (mLo V b a)) (nI (mHi V b t a)) (σ0 24 a) (σ0 25 a) = σ0 24 a - nI (2 * t) := by rw [kFi, if_pos c107, hhi]
              have f2 : kLa (σ0 23 a) (nI (mLo V b a)) (nI (mHi V b t a)) (σ0 24 a) (σ0 25 a) = σ0 25 a - nI (2 * nv V 6 (b * 3 + a)) := by rw [kLa, if_pos c107, hlo]
              have f3 : kUn (σ0 23 a) = -σ0 23 a := by rw [kUn, if_pos c107]
              skip
              have e3 : mO σ0 V b t (a + 1) = 0 := by
                show (if mO σ0 V b t a = 0 then kOut (σ0 23 a) (nI (mLo V b a)) (nI (mHi V b t a)) (σ0 24 a) (σ0 25 a) else 1) = 0
                rw [if_pos hO, kOut, if_neg c76]
              have e1 : mL σ0 V b t (a + 1) = (kFi (σ0 23 a) (nI (mLo V b a)) (nI (mHi V b t a)) (σ0 24 a) (σ0 25 a), kUn (σ0 23 a)) := by
                show kLow (σ0 23 a) (nI (mLo V b a)) (nI (mHi V b t a)) (σ0 24 a) (σ0 25 a) _ = _
                rw [kLow, if_neg c76, if_neg (by rw [f1, f3, ← l1, ← l2]; exact c194)]
              have e2 : mH σ0 V b t (a + 1) = (kLa (σ0 23 a) (nI (mLo V b a)) (nI (mHi V b t a)) (σ0 24 a) (σ0 25 a), kUn (σ0 23 a)) := by
                show kHigh (σ0 23 a) (nI (mLo V b a)) (nI (mHi V b t a)) (σ0 24 a) (σ0 25 a) _ = _
                rw [kHigh, if_neg c76, if_neg (by rw [f2, f3, ← q1, ← q2]; exact c219)]
              have ho2 : off22 σ0 s206 := by
                intro k hk
                rw [← hoff k hk]
                funext i
                rw [e206, u2, if_neg (by omega), e200, u2, if_neg (by omega)]
              exact ih (a + 1) _ _ _ _ _ _ _ _ _ (by omega) hV206 ho2 (by rw [e1, f1, f3, e206, e200]; simp only [u2]; simp) (by rw [e2, f2, f3]) e3
        · refine r_iload (q := 112) dX0_meets_110 rfl rfl ?_
          refine r_goto (q := 118) dX0_meets_112 (by decide) ?_
          refine r_istore (q := 120) dX0_meets_118 rfl (Nat.le_of_ble_eq_true rfl) ?_
          refine r_iload (q := 122) dX0_meets_120 rfl rfl ?_
          refine r_if_le (t := 138) (q := 125) dX0_meets_122 (by decide) rfl (fun c122 => absurd c122 c107) (fun c122 => ?_)
          refine r_iload (q := 127) dX0_meets_125 rfl rfl ?_
          refine r_aload_n (q := 128) dX0_meets_127 rfl rfl ?_
          refine gX0_18 (q := 131) dX0_meets_128 rfl ?_
          refine r_iload (q := 133) dX0_meets_131 rfl rfl ?_
          refine r_iald (q := 134) dX0_meets_133 rfl LA25 (by omega) (by decide) ?_
          refine r_as (congrFun (hoff 25 (by decide)) a) ?_
          refine r_isub (q := 135) dX0_meets_134 rfl ?_
          refine r_goto (q := 148) dX0_meets_135 (by decide) ?_
          refine r_istore (q := 150) dX0_meets_148 rfl (Nat.le_of_ble_eq_true rfl) ?_
          refine r_iload (q := 152) dX0_meets_150 rfl rfl ?_
          refine r_if_le (t := 168) (q := 155) dX0_meets_152 (by decide) rfl (fun c152 => absurd c152 c107) (fun c152 => ?_)
          refine r_iload (q := 157) dX0_meets_155 rfl rfl ?_
          refine r_aload_n (q := 158) dX0_meets_157 rfl rfl ?_
          refine gX0_15 (q := 161) dX0_meets_158 rfl ?_
          refine r_iload (q := 163) dX0_meets_161 rfl rfl ?_
          refine r_iald (q := 164) dX0_meets_163 rfl LA24 (by omega) (by decide) ?_
          refine r_as (congrFun (hoff 24 (by decide)) a) ?_
          refine r_isub (q := 165) dX0_meets_164 rfl ?_
          refine r_goto (q := 178) dX0_meets_165 (by decide) ?_
          refine r_istore (q := 180) dX0_meets_178 rfl (Nat.le_of_ble_eq_true rfl) ?_
          refine r_iload (q := 182) dX0_meets_180 rfl rfl ?_
          refine r_aload_n (q := 183) dX0_meets_182 rfl rfl ?_
          refine gX0_25 (q := 186) dX0_meets_183 rfl ?_
          refine r_imul (q := 187) dX0_meets_186 rfl ?_
          refine r_aload_n (q := 188) dX0_meets_187 rfl rfl ?_
          refine gX0_21 (q := 191) dX0_meets_188 rfl ?_
          refine r_iload (q := 193) dX0_meets_191 rfl rfl ?_
          refine r_imul (q := 194) dX0_meets_193 rfl ?_
          refine r_icmp_le (t := 209) (q := 197) dX0_meets_194 (by decide) rfl (fun c194 => ?_) (fun c194 => ?_)
          · refine r_iload (q := 211) dX0_meets_209 rfl rfl ?_
            refine r_iload (q := 213) dX0_meets_211 rfl rfl ?_
            refine r_imul (q := 214) dX0_meets_213 rfl ?_
            refine r_iload (q := 216) dX0_meets_214 rfl rfl ?_
            refine r_iload (q := 218) dX0_meets_216 rfl rfl ?_
            refine r_imul (q := 219) dX0_meets_218 rfl ?_
            refine r_icmp_ge (t := 230) (q := 222) dX0_meets_219 (by decide) rfl (fun c219 => ?_) (fun c219 => ?_)
            · refine r_iinc (q := 233) (v := nI (a + 1)) dX0_meets_230 rfl rfl (by rw [show Int32.ofInt 1 = nI 1 from rfl]; exact nI_add _ _) ?_
              refine r_goto (q := 19) dX0_meets_233 (by decide) ?_
              have hhi : mHi V b t a = 2 * t := by rw [mHi, if_pos c44]
              have hlo : mLo V b a = 2 * nv V 6 (b * 3 + a) := rfl
              skip
              have l1 := congrArg Prod.fst hl; have l2 := congrArg Prod.snd hl; have q1 := congrArg Prod.fst hh; have q2 := congrArg Prod.snd hh
              dsimp only at l1 l2 q1 q2
              have f1 : kFi (σ0 23 a) (nI (mLo V b a)) (nI (mHi V b t a)) (σ0 24 a) (σ0 25 a) = nI (2 * nv V 6 (b * 3 + a)) - σ0 25 a := by rw [kFi, if_neg c107, hlo]
              have f2 : kLa (σ0 23 a) (nI (mLo V b a)) (nI (mHi V b t a)) (σ0 24 a) (σ0 25 a) = nI (2 * t) - σ0 24 a := by rw [kLa, if_neg c107, hhi]
              have f3 : kUn (σ0 23 a) = σ0 23 a := by rw [kUn, if_neg c107]
              skip
              have e3 : mO σ0 V b t (a + 1) = 0 := by
                show (if mO σ0 V b t a = 0 then kOut (σ0 23 a) (nI (mLo V b a)) (nI (mHi V b t a)) (σ0 24 a) (σ0 25 a) else 1) = 0
                rw [if_pos hO, kOut, if_neg c76]
              have e1 : mL σ0 V b t (a + 1) = mL σ0 V b t a := by
                show kLow (σ0 23 a) (nI (mLo V b a)) (nI (mHi V b t a)) (σ0 24 a) (σ0 25 a) _ = _
                rw [kLow, if_neg c76, if_pos (by rw [f1, f3, ← l1, ← l2]; exact c194)]
              have e2 : mH σ0 V b t (a + 1) = mH σ0 V b t a := by
                show kHigh (σ0 23 a) (nI (mLo V b a)) (nI (mHi V b t a)) (σ0 24 a) (σ0 25 a) _ = _
                rw [kHigh, if_neg c76, if_pos (by rw [f2, f3, ← q1, ← q2]; exact c219)]
              exact ih (a + 1) _ _ _ _ _ _ _ _ _ (by omega) hV hoff (by rw [e1]; exact hl) (by rw [e2]; exact hh) e3
            · refine r_iload (q := 224) dX0_meets_222 rfl rfl ?_
              refine r_istore (q := 226) dX0_meets_224 rfl (Nat.le_of_ble_eq_true rfl) ?_
              refine r_iload (q := 228) dX0_meets_226 rfl rfl ?_
              refine r_istore (q := 230) dX0_meets_228 rfl (Nat.le_of_ble_eq_true rfl) ?_
              refine r_iinc (q := 233) (v := nI (a + 1)) dX0_meets_230 rfl rfl (by rw [show Int32.ofInt 1 = nI 1 from rfl]; exact nI_add _ _) ?_
              refine r_goto (q := 19) dX0_meets_233 (by decide) ?_
              have hhi : mHi V b t a = 2 * t := by rw [mHi, if_pos c44]
              have hlo : mLo V b a = 2 * nv V 6 (b * 3 + a) := rfl
              skip
              have l1 := congrArg Prod.fst hl; have l2 := congrArg Prod.snd hl; have q1 := congrArg Prod.fst hh; have q2 := congrArg Prod.snd hh
              dsimp only at l1 l2 q1 q2
              have f1 : kFi (σ0 23 a) (nI (mLo V b a)) (nI (mHi V b t a)) (σ0 24 a) (σ0 25 a) = nI (2 * nv V 6 (b * 3 + a)) - σ0 25 a := by rw [kFi, if_neg c107, hlo]
              have f2 : kLa (σ0 23 a) (nI (mLo V b a)) (nI (mHi V b t a)) (σ0 24 a) (σ0 25 a) = nI (2 * t) - σ0 24 a := by rw [kLa, if_neg c107, hhi]
              have f3 : kUn (σ0 23 a) = σ0 23 a := by rw [kUn, if_neg c107]
              skip
              have e3 : mO σ0 V b t (a + 1) = 0 := by
                show (if mO σ0 V b t a = 0 then kOut (σ0 23 a) (nI (mLo V b a)) (nI (mHi V b t a)) (σ0 24 a) (σ0 25 a) else 1) = 0
                rw [if_pos hO, kOut, if_neg c76]
              have e1 : mL σ0 V b t (a + 1) = mL σ0 V b t a := by
                show kLow (σ0 23 a) (nI (mLo V b a)) (nI (mHi V b t a)) (σ0 24 a) (σ0 25 a) _ = _
                rw [kLow, if_neg c76, if_pos (by rw [f1, f3, ← l1, ← l2]; exact c194)]
              have e2 : mH σ0 V b t (a + 1) = (kLa (σ0 23 a) (nI (mLo V b a)) (nI (mHi V b t a)) (σ0 24 a) (σ0 25 a), kUn (σ0 23 a)) := by
                show kHigh (σ0 23 a) (nI (mLo V b a)) (nI (mHi V b t a)) (σ0 24 a) (σ0 25 a) _ = _
                rw [kHigh, if_neg c76, if_neg (by rw [f2, f3, ← q1, ← q2]; exact c219)]
              exact ih (a + 1) _ _ _ _ _ _ _ _ _ (by omega) hV hoff (by rw [e1]; exact hl) (by rw [e2, f2, f3]) e3
          · refine r_aload_n (q := 198) dX0_meets_197 rfl rfl ?_
            refine r_iload (q := 200) dX0_meets_198 rfl rfl ?_
            refine psX0_21 (q := 203) hV dX0_meets_200 rfl (fun s200 e200 hV200 => ?_)
            refine r_aload_n (q := 204) dX0_meets_203 rfl rfl ?_
            refine r_iload (q := 206) dX0_meets_204 rfl rfl ?_
            refine psX0_25 (q := 209) hV200 dX0_meets_206 rfl (fun s206 e206 hV206 => ?_)
            refine r_iload (q := 211) dX0_meets_209 rfl rfl ?_
            refine r_iload (q := 213) dX0_meets_211 rfl rfl ?_
            refine r_imul (q := 214) dX0_meets_213 rfl ?_
            refine r_iload (q := 216) dX0_meets_214 rfl rfl ?_
            refine r_iload (q := 218) dX0_meets_216 rfl rfl ?_
            refine r_imul (q := 219) dX0_meets_218 rfl ?_
            refine r_icmp_ge (t := 230) (q := 222) dX0_meets_219 (by decide) rfl (fun c219 => ?_) (fun c219 => ?_)
            · refine r_iinc (q := 233) (v := nI (a + 1)) dX0_meets_230 rfl rfl (by rw [show Int32.ofInt 1 = nI 1 from rfl]; exact nI_add _ _) ?_
              refine r_goto (q := 19) dX0_meets_233 (by decide) ?_
              have hhi : mHi V b t a = 2 * t := by rw [mHi, if_pos c44]
              have hlo : mLo V b a = 2 * nv V 6 (b * 3 + a) := rfl
              skip
              have l1 := congrArg Prod.fst hl; have l2 := congrArg Prod.snd hl; have q1 := congrArg Prod.fst hh; have q2 := congrArg Prod.snd hh
              dsimp only at l1 l2 q1 q2
              have f1 : kFi (σ0 23 a) (nI (mLo V b a)) (nI (mHi V b t a)) (σ0 24 a) (σ0 25 a) = nI (2 * nv V 6 (b * 3 + a)) - σ0 25 a := by rw [kFi, if_neg c107, hlo]
              have f2 : kLa (σ0 23 a) (nI (mLo V b a)) (nI (mHi V b t a)) (σ0 24 a) (σ0 25 a) = nI (2 * t) - σ0 24 a := by rw [kLa, if_neg c107, hhi]
              have f3 : kUn (σ0 23 a) = σ0 23 a := by rw [kUn, if_neg c107]
              skip
              have e3 : mO σ0 V b t (a + 1) = 0 := by
                show (if mO σ0 V b t a = 0 then kOut (σ0 23 a) (nI (mLo V b a)) (nI (mHi V b t a)) (σ0 24 a) (σ0 25 a) else 1) = 0
                rw [if_pos hO, kOut, if_neg c76]
              have e1 : mL σ0 V b t (a + 1) = (kFi (σ0 23 a) (nI (mLo V b a)) (nI (mHi V b t a)) (σ0 24 a) (σ0 25 a), kUn (σ0 23 a)) := by
                show kLow (σ0 23 a) (nI (mLo V b a)) (nI (mHi V b t a)) (σ0 24 a) (σ0 25 a) _ = _
                rw [kLow, if_neg c76, if_neg (by rw [f1, f3, ← l1, ← l2]; exact c194)]
              have e2 : mH σ0 V b t (a + 1) = mH σ0 V b t a := by
                show kHigh (σ0 23 a) (nI (mLo V b a)) (nI (mHi V b t a)) (σ0 24 a) (σ0 25 a) _ = _
                rw [kHigh, if_neg c76, if_pos (by rw [f2, f3, ← q1, ← q2]; exact c219)]
              have ho2 : off22 σ0 s206 := by
                intro k hk
                rw [← hoff k hk]
                funext i
                rw [e206, u2, if_neg (by omega), e200, u2, if_neg (by omega)]
              exact ih (a + 1) _ _ _ _ _ _ _ _ _ (by omega) hV206 ho2 (by rw [e1, f1, f3, e206, e200]; simp only [u2]; simp) (by rw [e2]; exact hh) e3
            · refine r_iload (q := 224) dX0_meets_222 rfl rfl ?_
              refine r_istore (q := 226) dX0_meets_224 rfl (Nat.le_of_ble_eq_true rfl) ?_
              refine r_iload (q := 228) dX0_meets_226 rfl rfl ?_
              refine r_istore (q := 230) dX0_meets_228 rfl (Nat.le_of_ble_eq_true rfl) ?_
              refine r_iinc (q := 233) (v := nI (a + 1)) dX0_meets_230 rfl rfl (by rw [show Int32.ofInt 1 = nI 1 from rfl]; exact nI_add _ _) ?_
              refine r_goto (q := 19) dX0_meets_233 (by decide) ?_
              have hhi : mHi V b t a = 2 * t := by rw [mHi, if_pos c44]
              have hlo : mLo V b a = 2 * nv V 6 (b * 3 + a) := rfl
              skip
              have l1 := congrArg Prod.fst hl; have l2 := congrArg Prod.snd hl; have q1 := congrArg Prod.fst hh; have q2 := congrArg Prod.snd hh
              dsimp only at l1 l2 q1 q2
              have f1 : kFi (σ0 23 a) (nI (mLo V b a)) (nI (mHi V b t a)) (σ0 24 a) (σ0 25 a) = nI (2 * nv V 6 (b * 3 + a)) - σ0 25 a := by rw [kFi, if_neg c107, hlo]
              have f2 : kLa (σ0 23 a) (nI (mLo V b a)) (nI (mHi V b t a)) (σ0 24 a) (σ0 25 a) = nI (2 * t) - σ0 24 a := by rw [kLa, if_neg c107, hhi]
              have f3 : kUn (σ0 23 a) = σ0 23 a := by rw [kUn, if_neg c107]
              skip
              have e3 : mO σ0 V b t (a + 1) = 0 := by
                show (if mO σ0 V b t a = 0 then kOut (σ0 23 a) (nI (mLo V b a)) (nI (mHi V b t a)) (σ0 24 a) (σ0 25 a) else 1) = 0
                rw [if_pos hO, kOut, if_neg c76]
              have e1 : mL σ0 V b t (a + 1) = (kFi (σ0 23 a) (nI (mLo V b a)) (nI (mHi V b t a)) (σ0 24 a) (σ0 25 a), kUn (σ0 23 a)) := by
                show kLow (σ0 23 a) (nI (mLo V b a)) (nI (mHi V b t a)) (σ0 24 a) (σ0 25 a) _ = _
                rw [kLow, if_neg c76, if_neg (by rw [f1, f3, ← l1, ← l2]; exact c194)]
              have e2 : mH σ0 V b t (a + 1) = (kLa (σ0 23 a) (nI (mLo V b a)) (nI (mHi V b t a)) (σ0 24 a) (σ0 25 a), kUn (σ0 23 a)) := by
                show kHigh (σ0 23 a) (nI (mLo V b a)) (nI (mHi V b t a)) (σ0 24 a) (σ0 25 a) _ = _
                rw [kHigh, if_neg c76, if_neg (by rw [f2, f3, ← q1, ← q2]; exact c219)]
              have ho2 : off22 σ0 s206 := by
                intro k hk
                rw [← hoff k hk]
                funext i
                rw [e206, u2, if_neg (by omega), e200, u2, if_neg (by omega)]
              exact ih (a + 1) _ _ _ _ _ _ _ _ _ (by omega) hV206 ho2 (by rw [e1, f1, f3, e206, e200]; simp only [u2]; simp) (by rw [e2, f2, f3]) e3
      · refine r_aload_n (q := 80) dX0_meets_79 rfl rfl ?_
        refine gX0_18 (q := 83) dX0_meets_80 rfl ?_
        refine r_iload (q := 85) dX0_meets_83 rfl rfl ?_
        refine r_iald (q := 86) dX0_meets_85 rfl LA25 (by omega) (by decide) ?_
        refine r_as (congrFun (hoff 25 (by decide)) a) ?_
        refine r_iload (q := 88) dX0_meets_86 rfl rfl ?_
        refine r_icmp_le (t := 103) (q := 91) dX0_meets_88 (by decide) rfl (fun c88 => ?_) (fun c88 => ?_)
        · refine r_iconst (q := 104) (v := nI 0) dX0_meets_103 rfl (by decide) ?_
          have hhi : mHi V b t a = 2 * t := by rw [mHi, if_pos c44]
          have hlo : mLo V b a = 2 * nv V 6 (b * 3 + a) := rfl
          skip
          have e3 : mO σ0 V b t (a + 1) = 1 := by
            show (if mO σ0 V b t a = 0 then kOut (σ0 23 a) (nI (mLo V b a)) (nI (mHi V b t a)) (σ0 24 a) (σ0 25 a) else 1) = 1
            rw [if_pos hO, kOut, if_pos c76, hhi, hlo, if_pos c88]
          have e4 := mO_up e3 n
          rw [show a + 1 + n = 3 by omega] at e4
          have e5 : mHit σ0 V b t = 0 := by rw [mHit, if_neg (by omega)]
          exact r_retI dX0_meets_104 ⟨by rw [e5], hV, hoff, fun h => by omega⟩
        · refine r_aload_n (q := 92) dX0_meets_91 rfl rfl ?_
          refine gX0_15 (q := 95) dX0_meets_92 rfl ?_
          refine r_iload (q := 97) dX0_meets_95 rfl rfl ?_
          refine r_iald (q := 98) dX0_meets_97 rfl LA24 (by omega) (by decide) ?_
          refine r_as (congrFun (hoff 24 (by decide)) a) ?_
          refine r_iload (q := 100) dX0_meets_98 rfl rfl ?_
          refine r_icmp_lt (t := 230) (q := 103) dX0_meets_100 (by decide) rfl (fun c100 => ?_) (fun c100 => ?_)
          · refine r_iinc (q := 233) (v := nI (a + 1)) dX0_meets_230 rfl rfl (by rw [show Int32.ofInt 1 = nI 1 from rfl]; exact nI_add _ _) ?_
            refine r_goto (q := 19) dX0_meets_233 (by decide) ?_
            have hhi : mHi V b t a = 2 * t := by rw [mHi, if_pos c44]
            have hlo : mLo V b a = 2 * nv V 6 (b * 3 + a) := rfl
            skip
            have l1 := congrArg Prod.fst hl; have l2 := congrArg Prod.snd hl; have q1 := congrArg Prod.fst hh; have q2 := congrArg Prod.snd hh
            dsimp only at l1 l2 q1 q2
            have e1 : mL σ0 V b t (a + 1) = mL σ0 V b t a := by
              show kLow (σ0 23 a) (nI (mLo V b a)) (nI (mHi V b t a)) (σ0 24 a) (σ0 25 a) _ = _
              rw [kLow, if_pos c76]
            have e2 : mH σ0 V b t (a + 1) = mH σ0 V b t a := by
              show kHigh (σ0 23 a) (nI (mLo V b a)) (nI (mHi V b t a)) (σ0 24 a) (σ0 25 a) _ = _
              rw [kHigh, if_pos c76]
            have e3 : mO σ0 V b t (a + 1) = 0 := by
              show (if mO σ0 V b t a = 0 then kOut (σ0 23 a) (nI (mLo V b a)) (nI (mHi V b t a)) (σ0 24 a) (σ0 25 a) else 1) = 0
              rw [if_pos hO, kOut, if_pos c76, hhi, hlo, if_neg c88, if_pos c100]
            exact ih (a + 1) _ _ _ _ _ _ _ _ _ (by omega) hV hoff (by rw [e1]; exact hl) (by rw [e2]; exact hh) e3
          · refine r_iconst (q := 104) (v := nI 0) dX0_meets_103 rfl (by decide) ?_
            have hhi : mHi V b t a = 2 * t := by rw [mHi, if_pos c44]
            have hlo : mLo V b a = 2 * nv V 6 (b * 3 + a) := rfl
            skip
            have e3 : mO σ0 V b t (a + 1) = 1 := by
              show (if mO σ0 V b t a = 0 then kOut (σ0 23 a) (nI (mLo V b a)) (nI (mHi V b t a)) (σ0 24 a) (σ0 25 a) else 1) = 1
              rw [if_pos hO, kOut, if_pos c76, hhi, hlo, if_neg c88, if_neg c100]
            have e4 := mO_up e3 n
            rw [show a + 1 + n = 3 by omega] at e4
            have e5 : mHit σ0 V b t = 0 := by rw [mHit, if_neg (by omega)]
            exact r_retI dX0_meets_104 ⟨by rw [e5], hV, hoff, fun h => by omega⟩
set_option maxRecDepth 100000 in
set_option maxHeartbeats 4000000 in
theorem c_X0_meets (σ0 V : St) (hV : vw σ0 = V) (hI : InvN V) (b t : Nat) (hb : b < 40) (ht : t ≤ 200) : Cl LAYC yX0_meets cX0_meets 13 (some .boolean) 0 0 [.ref 22, .ref 4, .int (nI b), .int (nI t)] σ0 (EI (fun v τ => v = nI (mHit σ0 V b t) ∧ vw τ = V ∧ off22 σ0 τ ∧ (mHit σ0 V b t = 1 → (τ 22 3, τ 22 4) = mL σ0 V b t 3))) := by
  refine Cl.of 9 rfl rfl (EI.okZ (okQ (mHit_le _ _ _ _))) ?_
  show Rn LAYC none RX0 _ _ _ _ 0 [some (.ref 22), some (.ref 4), some (.int (nI b)), some (.int (nI t)), none, none, none, none, none, none, none, none, none] [] _ _
  refine r_aload_n (q := 1) dX0_meets_0 rfl rfl ?_
  refine r_iconst (q := 2) (v := nI 0) dX0_meets_1 rfl (by decide) ?_
  refine psX0_21 (q := 5) hV dX0_meets_2 rfl (fun s2 e2 hV2 => ?_)
  refine r_aload_n (q := 6) dX0_meets_5 rfl rfl ?_
  refine r_iconst (q := 7) (v := nI 1) dX0_meets_6 rfl (by decide) ?_
  refine psX0_25 (q := 10) hV2 dX0_meets_7 rfl (fun s7 e7 hV7 => ?_)
  refine r_iconst (q := 11) (v := nI 1) dX0_meets_10 rfl (by decide) ?_
  refine r_istore (q := 13) dX0_meets_11 rfl (Nat.le_of_ble_eq_true rfl) ?_
  refine r_iconst (q := 14) (v := nI 0) dX0_meets_13 rfl (by decide) ?_
  refine r_istore (q := 16) dX0_meets_14 rfl (Nat.le_of_ble_eq_true rfl) ?_
  refine r_iconst (q := 17) (v := nI 0) dX0_meets_16 rfl (by decide) ?_
  refine r_istore (q := 19) dX0_meets_17 rfl (Nat.le_of_ble_eq_true rfl) ?_
  exact l_X0_meets hI hb ht 3 0 _ _ _ _ _ _ _ _ _ (by omega) hV7 (fun k hk => by funext i; rw [e7, u2, if_neg (by omega), e2, u2, if_neg (by omega)]) (by rw [e7, e2]; simp only [u2]; rfl) rfl rfl
