section
/-! ===== the law's loop ===== -/
section LAWCALL
variable {sc : Option (Nat × (Nat → Int32))} {own : String} {cc : ByteArray} {nL fr lo pc q : Nat} {L : List (Option Value)} {st : List Value} {σ : St} {E : Option Int32 → St → Prop}
theorem r_xg {y : MethodName} {cc' : ByteArray} {nL' fr' lo' n idx : Nat} {ret : Option FieldType} {As : List Value} {P : Int32 → St → Prop} {T : u_T} {N : Nat} (cw : CwV own idx y cc' nL' ret n) (hd : decode cc pc = .ok (.invokevirtual idx, 3)) (hq : pc + 3 = q) (hcl : vwCl[5]? = some (y.cls, T, N)) (hn : As.length = n) (hst : st.length ≤ 8) (hf : fr' + 1 ≤ fr) (hl : 8 + (nL' + 11) + lo' ≤ lo) (hM : Cl LAYC y cc' nL' ret fr' lo' (.ref 0 :: As) σ (EI P)) (K : ∀ v τ, P v τ → Rn LAY sc own cc nL fr lo q L (.int v :: st) (mgN 33 τ σ) E) : Rn LAY sc own cc nL fr lo pc L (As.reverse ++ .ref 0 :: st) σ E :=
  r_callVF (ly := LAY) 33 (k := 0) (ci := 5) (fs := FSX5) (show Cl (LAY.take 33) y cc' nL' ret fr' lo' (.ref 0 :: As) σ (EI P) from hM) cw hd hq rfl hcl hn hst hf hl (by
    rintro r τ ⟨v, rfl, h⟩
    exact K v τ h)
theorem r_x1 {y : MethodName} {cc' : ByteArray} {nL' fr' lo' idx : Nat} {ret : Option FieldType} {v1 : Value} {P : Int32 → St → Prop} {T : u_T} {N : Nat} (cw : CwV own idx y cc' nL' ret 1) (hd : decode cc pc = .ok (.invokevirtual idx, 3)) (hq : pc + 3 = q) (hcl : vwCl[5]? = some (y.cls, T, N)) (hst : st.length ≤ 8) (hf : fr' + 1 ≤ fr) (hl : 8 + (nL' + 11) + lo' ≤ lo) (hM : Cl LAYC y cc' nL' ret fr' lo' (.ref 0 :: [v1]) σ (EI P)) (K : ∀ v τ, P v τ → Rn LAY sc own cc nL fr lo q L (.int v :: st) (mgN 33 τ σ) E) : Rn LAY sc own cc nL fr lo pc L (v1 :: .ref 0 :: st) σ E := r_xg cw hd hq hcl rfl hst hf hl hM K
theorem r_x2 {y : MethodName} {cc' : ByteArray} {nL' fr' lo' idx : Nat} {ret : Option FieldType} {v1 v2 : Value} {P : Int32 → St → Prop} {T : u_T} {N : Nat} (cw : CwV own idx y cc' nL' ret 2) (hd : decode cc pc = .ok (.invokevirtual idx, 3)) (hq : pc + 3 = q) (hcl : vwCl[5]? = some (y.cls, T, N)) (hst : st.length ≤ 8) (hf : fr' + 1 ≤ fr) (hl : 8 + (nL' + 11) + lo' ≤ lo) (hM : Cl LAYC y cc' nL' ret fr' lo' (.ref 0 :: [v1, v2]) σ (EI P)) (K : ∀ v τ, P v τ → Rn LAY sc own cc nL fr lo q L (.int v :: st) (mgN 33 τ σ) E) : Rn LAY sc own cc nL fr lo pc L (v2 :: v1 :: .ref 0 :: st) σ E := r_xg cw hd hq hcl rfl hst hf hl hM K
theorem r_x3 {y : MethodName} {cc' : ByteArray} {nL' fr' lo' idx : Nat} {ret : Option FieldType} {v1 v2 v3 : Value} {P : Int32 → St → Prop} {T : u_T} {N : Nat} (cw : CwV own idx y cc' nL' ret 3) (hd : decode cc pc = .ok (.invokevirtual idx, 3)) (hq : pc + 3 = q) (hcl : vwCl[5]? = some (y.cls, T, N)) (hst : st.length ≤ 8) (hf : fr' + 1 ≤ fr) (hl : 8 + (nL' + 11) + lo' ≤ lo) (hM : Cl LAYC y cc' nL' ret fr' lo' (.ref 0 :: [v1, v2, v3]) σ (EI P)) (K : ∀ v τ, P v τ → Rn LAY sc own cc nL fr lo q L (.int v :: st) (mgN 33 τ σ) E) : Rn LAY sc own cc nL fr lo pc L (v3 :: v2 :: v1 :: .ref 0 :: st) σ E := r_xg cw hd hq hcl rfl hst hf hl hM K
theorem r_x4 {y : MethodName} {cc' : ByteArray} {nL' fr' lo' idx : Nat} {ret : Option FieldType} {v1 v2 v3 v4 : Value} {P : Int32 → St → Prop} {T : u_T} {N : Nat} (cw : CwV own idx y cc' nL' ret 4) (hd : decode cc pc = .ok (.invokevirtual idx, 3)) (hq : pc + 3 = q) (hcl : vwCl[5]? = some (y.cls, T, N)) (hst : st.length ≤ 8) (hf : fr' + 1 ≤ fr) (hl : 8 + (nL' + 11) + lo' ≤ lo) (hM : Cl LAYC y cc' nL' ret fr' lo' (.ref 0 :: [v1, v2, v3, v4]) σ (EI P)) (K : ∀ v τ, P v τ → Rn LAY sc own cc nL fr lo q L (.int v :: st) (mgN 33 τ σ) E) : Rn LAY sc own cc nL fr lo pc L (v4 :: v3 :: v2 :: v1 :: .ref 0 :: st) σ E := r_xg cw hd hq hcl rfl hst hf hl hM K
theorem r_x5 {y : MethodName} {cc' : ByteArray} {nL' fr' lo' idx : Nat} {ret : Option FieldType} {v1 v2 v3 v4 v5 : Value} {P : Int32 → St → Prop} {T : u_T} {N : Nat} (cw : CwV own idx y cc' nL' ret 5) (hd : decode cc pc = .ok (.invokevirtual idx, 3)) (hq : pc + 3 = q) (hcl : vwCl[5]? = some (y.cls, T, N)) (hst : st.length ≤ 8) (hf : fr' + 1 ≤ fr) (hl : 8 + (nL' + 11) + lo' ≤ lo) (hM : Cl LAYC y cc' nL' ret fr' lo' (.ref 0 :: [v1, v2, v3, v4, v5]) σ (EI P)) (K : ∀ v τ, P v τ → Rn LAY sc own cc nL fr lo q L (.int v :: st) (mgN 33 τ σ) E) : Rn LAY sc own cc nL fr lo pc L (v5 :: v4 :: v3 :: v2 :: v1 :: .ref 0 :: st) σ E := r_xg cw hd hq hcl rfl hst hf hl hM K
theorem r_x6 {y : MethodName} {cc' : ByteArray} {nL' fr' lo' idx : Nat} {ret : Option FieldType} {v1 v2 v3 v4 v5 v6 : Value} {P : Int32 → St → Prop} {T : u_T} {N : Nat} (cw : CwV own idx y cc' nL' ret 6) (hd : decode cc pc = .ok (.invokevirtual idx, 3)) (hq : pc + 3 = q) (hcl : vwCl[5]? = some (y.cls, T, N)) (hst : st.length ≤ 8) (hf : fr' + 1 ≤ fr) (hl : 8 + (nL' + 11) + lo' ≤ lo) (hM : Cl LAYC y cc' nL' ret fr' lo' (.ref 0 :: [v1, v2, v3, v4, v5, v6]) σ (EI P)) (K : ∀ v τ, P v τ → Rn LAY sc own cc nL fr lo q L (.int v :: st) (mgN 33 τ σ) E) : Rn LAY sc own cc nL fr lo pc L (v6 :: v5 :: v4 :: v3 :: v2 :: v1 :: .ref 0 :: st) σ E := r_xg cw hd hq hcl rfl hst hf hl hM K
theorem r_x7 {y : MethodName} {cc' : ByteArray} {nL' fr' lo' idx : Nat} {ret : Option FieldType} {v1 v2 v3 v4 v5 v6 v7 : Value} {P : Int32 → St → Prop} {T : u_T} {N : Nat} (cw : CwV own idx y cc' nL' ret 7) (hd : decode cc pc = .ok (.invokevirtual idx, 3)) (hq : pc + 3 = q) (hcl : vwCl[5]? = some (y.cls, T, N)) (hst : st.length ≤ 8) (hf : fr' + 1 ≤ fr) (hl : 8 + (nL' + 11) + lo' ≤ lo) (hM : Cl LAYC y cc' nL' ret fr' lo' (.ref 0 :: [v1, v2, v3, v4, v5, v6, v7]) σ (EI P)) (K : ∀ v τ, P v τ → Rn LAY sc own cc nL fr lo q L (.int v :: st) (mgN 33 τ σ) E) : Rn LAY sc own cc nL fr lo pc L (v7 :: v6 :: v5 :: v4 :: v3 :: v2 :: v1 :: .ref 0 :: st) σ E := r_xg cw hd hq hcl rfl hst hf hl hM K
end LAWCALL
set_option maxRecDepth 100000 in
set_option maxHeartbeats 4000000 in
theorem lc_minute {n : Nat} {xs : Nat → Int32} (hn : n ≤ 4096) {i : Nat} (hi : i + 8 ≤ n) {σ : St} (h : IV σ) (K : ∀ τ, IV τ → Rn LAY (some (n, xs)) RL cL_law 4 10 398 1025 [some (.ref 1000), some (.ref 0), some (.ref 33), some (.int (nI i))] [] τ (EI (fun v _ => v = nI 1))) : Rn LAY (some (n, xs)) RL cL_law 4 10 398 140 [some (.ref 1000), some (.ref 0), some (.ref 33), some (.int (nI i))] [] σ (EI (fun v _ => v = nI 1)) := by
  obtain ⟨E, hc, hk⟩ := st_minute h (xs (i + 1)) (xs (i + 2)) (xs (i + 3)) (xs (i + 4))
  refine r_aload_n (q := 141) dL_law_140 rfl rfl ?_
  refine r_aload_n (q := 142) dL_law_141 rfl rfl ?_
  refine r_iload_n (q := 143) dL_law_142 rfl rfl ?_
  refine r_iconst (q := 144) (v := nI 1) dL_law_143 rfl (by decide) ?_
  refine r_iaddN (q := 145) dL_law_144 rfl ?_
  refine r_sld (q := 146) dL_law_145 rfl (by omega) (by omega) ?_
  refine r_aload_n (q := 147) dL_law_146 rfl rfl ?_
  refine r_iload_n (q := 148) dL_law_147 rfl rfl ?_
  refine r_iconst (q := 149) (v := nI 2) dL_law_148 rfl (by decide) ?_
  refine r_iaddN (q := 150) dL_law_149 rfl ?_
  refine r_sld (q := 151) dL_law_150 rfl (by omega) (by omega) ?_
  refine r_aload_n (q := 152) dL_law_151 rfl rfl ?_
  refine r_iload_n (q := 153) dL_law_152 rfl rfl ?_
  refine r_iconst (q := 154) (v := nI 3) dL_law_153 rfl (by decide) ?_
  refine r_iaddN (q := 155) dL_law_154 rfl ?_
  refine r_sld (q := 156) dL_law_155 rfl (by omega) (by omega) ?_
  refine r_aload_n (q := 157) dL_law_156 rfl rfl ?_
  refine r_iload_n (q := 158) dL_law_157 rfl rfl ?_
  refine r_iconst (q := 159) (v := nI 4) dL_law_158 rfl (by decide) ?_
  refine r_iaddN (q := 160) dL_law_159 rfl ?_
  refine r_sld (q := 161) dL_law_160 rfl (by omega) (by omega) ?_
  refine r_x4 (q := 164) vL_13 dL_law_161 rfl rfl (Nat.le_of_ble_eq_true rfl) (by decide) (by decide) hc (fun v τ hv => ?_)
  have hr := hk v τ hv
  refine r_aload_n (q := 165) dL_law_164 rfl rfl ?_
  refine r_aload_n (q := 166) dL_law_165 rfl rfl ?_
  refine r_iload_n (q := 167) dL_law_166 rfl rfl ?_
  refine r_iconst (q := 168) (v := nI 1) dL_law_167 rfl (by decide) ?_
  refine r_iaddN (q := 169) dL_law_168 rfl ?_
  refine r_sld (q := 170) dL_law_169 rfl (by omega) (by omega) ?_
  refine r_aload_n (q := 171) dL_law_170 rfl rfl ?_
  refine r_iload_n (q := 172) dL_law_171 rfl rfl ?_
  refine r_iconst (q := 173) (v := nI 2) dL_law_172 rfl (by decide) ?_
  refine r_iaddN (q := 174) dL_law_173 rfl ?_
  refine r_sld (q := 175) dL_law_174 rfl (by omega) (by omega) ?_
  refine r_aload_n (q := 176) dL_law_175 rfl rfl ?_
  refine r_iload_n (q := 177) dL_law_176 rfl rfl ?_
  refine r_iconst (q := 178) (v := nI 3) dL_law_177 rfl (by decide) ?_
  refine r_iaddN (q := 179) dL_law_178 rfl ?_
  refine r_sld (q := 180) dL_law_179 rfl (by omega) (by omega) ?_
  refine r_aload_n (q := 181) dL_law_180 rfl rfl ?_
  refine r_iload_n (q := 182) dL_law_181 rfl rfl ?_
  refine r_iconst (q := 183) (v := nI 4) dL_law_182 rfl (by decide) ?_
  refine r_iaddN (q := 184) dL_law_183 rfl ?_
  refine r_sld (q := 185) dL_law_184 rfl (by omega) (by omega) ?_
  refine r_cI4 (q := 188) vL_17 dL_law_185 rfl LYX6 rfl (Nat.le_of_ble_eq_true rfl) (by decide) (by decide) (hr) ?_
  rintro _ τ2 ⟨rfl, hIV⟩
  refine r_icmp_eq (t := 1025) (q := 191) dL_law_188 (by decide) rfl (fun c188 => ?_) (fun c188 => absurd rfl c188)
  exact K τ2 hIV
set_option maxRecDepth 100000 in
set_option maxHeartbeats 4000000 in
theorem lc_block {n : Nat} {xs : Nat → Int32} (hn : n ≤ 4096) {i : Nat} (hi : i + 8 ≤ n) {σ : St} (h : IV σ) (K : ∀ τ, IV τ → Rn LAY (some (n, xs)) RL cL_law 4 10 398 1025 [some (.ref 1000), some (.ref 0), some (.ref 33), some (.int (nI i))] [] τ (EI (fun v _ => v = nI 1))) : Rn LAY (some (n, xs)) RL cL_law 4 10 398 193 [some (.ref 1000), some (.ref 0), some (.ref 33), some (.int (nI i))] [] σ (EI (fun v _ => v = nI 1)) := by
  obtain ⟨E, hc, hk⟩ := st_block h (xs (i + 1)) (xs (i + 2)) (xs (i + 3)) (xs (i + 4)) (xs (i + 5)) (xs (i + 6)) (xs (i + 7))
  refine r_aload_n (q := 194) dL_law_193 rfl rfl ?_
  refine r_aload_n (q := 195) dL_law_194 rfl rfl ?_
  refine r_iload_n (q := 196) dL_law_195 rfl rfl ?_
  refine r_iconst (q := 197) (v := nI 1) dL_law_196 rfl (by decide) ?_
  refine r_iaddN (q := 198) dL_law_197 rfl ?_
  refine r_sld (q := 199) dL_law_198 rfl (by omega) (by omega) ?_
  refine r_aload_n (q := 200) dL_law_199 rfl rfl ?_
  refine r_iload_n (q := 201) dL_law_200 rfl rfl ?_
  refine r_iconst (q := 202) (v := nI 2) dL_law_201 rfl (by decide) ?_
  refine r_iaddN (q := 203) dL_law_202 rfl ?_
  refine r_sld (q := 204) dL_law_203 rfl (by omega) (by omega) ?_
  refine r_aload_n (q := 205) dL_law_204 rfl rfl ?_
  refine r_iload_n (q := 206) dL_law_205 rfl rfl ?_
  refine r_iconst (q := 207) (v := nI 3) dL_law_206 rfl (by decide) ?_
  refine r_iaddN (q := 208) dL_law_207 rfl ?_
  refine r_sld (q := 209) dL_law_208 rfl (by omega) (by omega) ?_
  refine r_aload_n (q := 210) dL_law_209 rfl rfl ?_
  refine r_iload_n (q := 211) dL_law_210 rfl rfl ?_
  refine r_iconst (q := 212) (v := nI 4) dL_law_211 rfl (by decide) ?_
  refine r_iaddN (q := 213) dL_law_212 rfl ?_
  refine r_sld (q := 214) dL_law_213 rfl (by omega) (by omega) ?_
  refine r_aload_n (q := 215) dL_law_214 rfl rfl ?_
  refine r_iload_n (q := 216) dL_law_215 rfl rfl ?_
  refine r_iconst (q := 217) (v := nI 5) dL_law_216 rfl (by decide) ?_
  refine r_iaddN (q := 218) dL_law_217 rfl ?_
  refine r_sld (q := 219) dL_law_218 rfl (by omega) (by omega) ?_
  refine r_aload_n (q := 220) dL_law_219 rfl rfl ?_
  refine r_iload_n (q := 221) dL_law_220 rfl rfl ?_
  refine r_bipush (q := 223) (v := nI 6) dL_law_221 rfl (by decide) ?_
  refine r_iaddN (q := 224) dL_law_223 rfl ?_
  refine r_sld (q := 225) dL_law_224 rfl (by omega) (by omega) ?_
  refine r_aload_n (q := 226) dL_law_225 rfl rfl ?_
  refine r_iload_n (q := 227) dL_law_226 rfl rfl ?_
  refine r_bipush (q := 229) (v := nI 7) dL_law_227 rfl (by decide) ?_
  refine r_iaddN (q := 230) dL_law_229 rfl ?_
  refine r_sld (q := 231) dL_law_230 rfl (by omega) (by omega) ?_
  refine r_x7 (q := 234) vL_18 dL_law_231 rfl rfl (Nat.le_of_ble_eq_true rfl) (by decide) (by decide) hc (fun v τ hv => ?_)
  have hr := hk v τ hv
  refine r_aload_n (q := 235) dL_law_234 rfl rfl ?_
  refine r_aload_n (q := 236) dL_law_235 rfl rfl ?_
  refine r_iload_n (q := 237) dL_law_236 rfl rfl ?_
  refine r_iconst (q := 238) (v := nI 1) dL_law_237 rfl (by decide) ?_
  refine r_iaddN (q := 239) dL_law_238 rfl ?_
  refine r_sld (q := 240) dL_law_239 rfl (by omega) (by omega) ?_
  refine r_aload_n (q := 241) dL_law_240 rfl rfl ?_
  refine r_iload_n (q := 242) dL_law_241 rfl rfl ?_
  refine r_iconst (q := 243) (v := nI 2) dL_law_242 rfl (by decide) ?_
  refine r_iaddN (q := 244) dL_law_243 rfl ?_
  refine r_sld (q := 245) dL_law_244 rfl (by omega) (by omega) ?_
  refine r_aload_n (q := 246) dL_law_245 rfl rfl ?_
  refine r_iload_n (q := 247) dL_law_246 rfl rfl ?_
  refine r_iconst (q := 248) (v := nI 3) dL_law_247 rfl (by decide) ?_
  refine r_iaddN (q := 249) dL_law_248 rfl ?_
  refine r_sld (q := 250) dL_law_249 rfl (by omega) (by omega) ?_
  refine r_aload_n (q := 251) dL_law_250 rfl rfl ?_
  refine r_iload_n (q := 252) dL_law_251 rfl rfl ?_
  refine r_iconst (q := 253) (v := nI 4) dL_law_252 rfl (by decide) ?_
  refine r_iaddN (q := 254) dL_law_253 rfl ?_
  refine r_sld (q := 255) dL_law_254 rfl (by omega) (by omega) ?_
  refine r_aload_n (q := 256) dL_law_255 rfl rfl ?_
  refine r_iload_n (q := 257) dL_law_256 rfl rfl ?_
  refine r_iconst (q := 258) (v := nI 5) dL_law_257 rfl (by decide) ?_
  refine r_iaddN (q := 259) dL_law_258 rfl ?_
  refine r_sld (q := 260) dL_law_259 rfl (by omega) (by omega) ?_
  refine r_aload_n (q := 261) dL_law_260 rfl rfl ?_
  refine r_iload_n (q := 262) dL_law_261 rfl rfl ?_
  refine r_bipush (q := 264) (v := nI 6) dL_law_262 rfl (by decide) ?_
  refine r_iaddN (q := 265) dL_law_264 rfl ?_
  refine r_sld (q := 266) dL_law_265 rfl (by omega) (by omega) ?_
  refine r_aload_n (q := 267) dL_law_266 rfl rfl ?_
  refine r_iload_n (q := 268) dL_law_267 rfl rfl ?_
  refine r_bipush (q := 270) (v := nI 7) dL_law_268 rfl (by decide) ?_
  refine r_iaddN (q := 271) dL_law_270 rfl ?_
  refine r_sld (q := 272) dL_law_271 rfl (by omega) (by omega) ?_
  refine r_cI7 (q := 275) vL_22 dL_law_272 rfl LYX6 rfl (Nat.le_of_ble_eq_true rfl) (by decide) (by decide) (hr) ?_
  rintro _ τ2 ⟨rfl, hIV⟩
  refine r_icmp_eq (t := 1025) (q := 278) dL_law_275 (by decide) rfl (fun c275 => ?_) (fun c275 => absurd rfl c275)
  exact K τ2 hIV
set_option maxRecDepth 100000 in
set_option maxHeartbeats 4000000 in
theorem lc_share {n : Nat} {xs : Nat → Int32} (hn : n ≤ 4096) {i : Nat} (hi : i + 8 ≤ n) {σ : St} (h : IV σ) (K : ∀ τ, IV τ → Rn LAY (some (n, xs)) RL cL_law 4 10 398 1025 [some (.ref 1000), some (.ref 0), some (.ref 33), some (.int (nI i))] [] τ (EI (fun v _ => v = nI 1))) : Rn LAY (some (n, xs)) RL cL_law 4 10 398 280 [some (.ref 1000), some (.ref 0), some (.ref 33), some (.int (nI i))] [] σ (EI (fun v _ => v = nI 1)) := by
  obtain ⟨E, hc, hk⟩ := st_share h (xs (i + 1)) (xs (i + 2)) (xs (i + 3))
  refine r_aload_n (q := 281) dL_law_280 rfl rfl ?_
  refine r_aload_n (q := 282) dL_law_281 rfl rfl ?_
  refine r_iload_n (q := 283) dL_law_282 rfl rfl ?_
  refine r_iconst (q := 284) (v := nI 1) dL_law_283 rfl (by decide) ?_
  refine r_iaddN (q := 285) dL_law_284 rfl ?_
  refine r_sld (q := 286) dL_law_285 rfl (by omega) (by omega) ?_
  refine r_aload_n (q := 287) dL_law_286 rfl rfl ?_
  refine r_iload_n (q := 288) dL_law_287 rfl rfl ?_
  refine r_iconst (q := 289) (v := nI 2) dL_law_288 rfl (by decide) ?_
  refine r_iaddN (q := 290) dL_law_289 rfl ?_
  refine r_sld (q := 291) dL_law_290 rfl (by omega) (by omega) ?_
  refine r_aload_n (q := 292) dL_law_291 rfl rfl ?_
  refine r_iload_n (q := 293) dL_law_292 rfl rfl ?_
  refine r_iconst (q := 294) (v := nI 3) dL_law_293 rfl (by decide) ?_
  refine r_iaddN (q := 295) dL_law_294 rfl ?_
  refine r_sld (q := 296) dL_law_295 rfl (by omega) (by omega) ?_
  refine r_x3 (q := 299) vL_23 dL_law_296 rfl rfl (Nat.le_of_ble_eq_true rfl) (by decide) (by decide) hc (fun v τ hv => ?_)
  have hr := hk v τ hv
  refine r_aload_n (q := 300) dL_law_299 rfl rfl ?_
  refine r_aload_n (q := 301) dL_law_300 rfl rfl ?_
  refine r_iload_n (q := 302) dL_law_301 rfl rfl ?_
  refine r_iconst (q := 303) (v := nI 1) dL_law_302 rfl (by decide) ?_
  refine r_iaddN (q := 304) dL_law_303 rfl ?_
  refine r_sld (q := 305) dL_law_304 rfl (by omega) (by omega) ?_
  refine r_aload_n (q := 306) dL_law_305 rfl rfl ?_
  refine r_iload_n (q := 307) dL_law_306 rfl rfl ?_
  refine r_iconst (q := 308) (v := nI 2) dL_law_307 rfl (by decide) ?_
  refine r_iaddN (q := 309) dL_law_308 rfl ?_
  refine r_sld (q := 310) dL_law_309 rfl (by omega) (by omega) ?_
  refine r_aload_n (q := 311) dL_law_310 rfl rfl ?_
  refine r_iload_n (q := 312) dL_law_311 rfl rfl ?_
  refine r_iconst (q := 313) (v := nI 3) dL_law_312 rfl (by decide) ?_
  refine r_iaddN (q := 314) dL_law_313 rfl ?_
  refine r_sld (q := 315) dL_law_314 rfl (by omega) (by omega) ?_
  refine r_cI3 (q := 318) vL_27 dL_law_315 rfl LYX6 rfl (Nat.le_of_ble_eq_true rfl) (by decide) (by decide) (hr) ?_
  rintro _ τ2 ⟨rfl, hIV⟩
  refine r_icmp_eq (t := 1025) (q := 321) dL_law_318 (by decide) rfl (fun c318 => ?_) (fun c318 => absurd rfl c318)
  exact K τ2 hIV
set_option maxRecDepth 100000 in
set_option maxHeartbeats 4000000 in
theorem lc_most {n : Nat} {xs : Nat → Int32} (hn : n ≤ 4096) {i : Nat} (hi : i + 8 ≤ n) {σ : St} (h : IV σ) (K : ∀ τ, IV τ → Rn LAY (some (n, xs)) RL cL_law 4 10 398 1025 [some (.ref 1000), some (.ref 0), some (.ref 33), some (.int (nI i))] [] τ (EI (fun v _ => v = nI 1))) : Rn LAY (some (n, xs)) RL cL_law 4 10 398 323 [some (.ref 1000), some (.ref 0), some (.ref 33), some (.int (nI i))] [] σ (EI (fun v _ => v = nI 1)) := by
  obtain ⟨E, hc, hk⟩ := st_most h (xs (i + 1)) (xs (i + 2))
  refine r_aload_n (q := 324) dL_law_323 rfl rfl ?_
  refine r_aload_n (q := 325) dL_law_324 rfl rfl ?_
  refine r_iload_n (q := 326) dL_law_325 rfl rfl ?_
  refine r_iconst (q := 327) (v := nI 1) dL_law_326 rfl (by decide) ?_
  refine r_iaddN (q := 328) dL_law_327 rfl ?_
  refine r_sld (q := 329) dL_law_328 rfl (by omega) (by omega) ?_
  refine r_aload_n (q := 330) dL_law_329 rfl rfl ?_
  refine r_iload_n (q := 331) dL_law_330 rfl rfl ?_
  refine r_iconst (q := 332) (v := nI 2) dL_law_331 rfl (by decide) ?_
  refine r_iaddN (q := 333) dL_law_332 rfl ?_
  refine r_sld (q := 334) dL_law_333 rfl (by omega) (by omega) ?_
  refine r_x2 (q := 337) vL_28 dL_law_334 rfl rfl (Nat.le_of_ble_eq_true rfl) (by decide) (by decide) hc (fun v τ hv => ?_)
  have hr := hk v τ hv
  refine r_aload_n (q := 338) dL_law_337 rfl rfl ?_
  refine r_aload_n (q := 339) dL_law_338 rfl rfl ?_
  refine r_iload_n (q := 340) dL_law_339 rfl rfl ?_
  refine r_iconst (q := 341) (v := nI 1) dL_law_340 rfl (by decide) ?_
  refine r_iaddN (q := 342) dL_law_341 rfl ?_
  refine r_sld (q := 343) dL_law_342 rfl (by omega) (by omega) ?_
  refine r_aload_n (q := 344) dL_law_343 rfl rfl ?_
  refine r_iload_n (q := 345) dL_law_344 rfl rfl ?_
  refine r_iconst (q := 346) (v := nI 2) dL_law_345 rfl (by decide) ?_
  refine r_iaddN (q := 347) dL_law_346 rfl ?_
  refine r_sld (q := 348) dL_law_347 rfl (by omega) (by omega) ?_
  refine r_cI2 (q := 351) vL_32 dL_law_348 rfl LYX6 rfl (Nat.le_of_ble_eq_true rfl) (by decide) (by decide) (hr) ?_
  rintro _ τ2 ⟨rfl, hIV⟩
  refine r_icmp_eq (t := 1025) (q := 354) dL_law_351 (by decide) rfl (fun c351 => ?_) (fun c351 => absurd rfl c351)
  exact K τ2 hIV
set_option maxRecDepth 100000 in
set_option maxHeartbeats 4000000 in
theorem lc_cut {n : Nat} {xs : Nat → Int32} (hn : n ≤ 4096) {i : Nat} (hi : i + 8 ≤ n) {σ : St} (h : IV σ) (K : ∀ τ, IV τ → Rn LAY (some (n, xs)) RL cL_law 4 10 398 1025 [some (.ref 1000), some (.ref 0), some (.ref 33), some (.int (nI i))] [] τ (EI (fun v _ => v = nI 1))) : Rn LAY (some (n, xs)) RL cL_law 4 10 398 356 [some (.ref 1000), some (.ref 0), some (.ref 33), some (.int (nI i))] [] σ (EI (fun v _ => v = nI 1)) := by
  obtain ⟨E, hc, hk⟩ := st_cut h (xs (i + 1)) (xs (i + 2))
  refine r_aload_n (q := 357) dL_law_356 rfl rfl ?_
  refine r_aload_n (q := 358) dL_law_357 rfl rfl ?_
  refine r_iload_n (q := 359) dL_law_358 rfl rfl ?_
  refine r_iconst (q := 360) (v := nI 1) dL_law_359 rfl (by decide) ?_
  refine r_iaddN (q := 361) dL_law_360 rfl ?_
  refine r_sld (q := 362) dL_law_361 rfl (by omega) (by omega) ?_
  refine r_aload_n (q := 363) dL_law_362 rfl rfl ?_
  refine r_iload_n (q := 364) dL_law_363 rfl rfl ?_
  refine r_iconst (q := 365) (v := nI 2) dL_law_364 rfl (by decide) ?_
  refine r_iaddN (q := 366) dL_law_365 rfl ?_
  refine r_sld (q := 367) dL_law_366 rfl (by omega) (by omega) ?_
  refine r_x2 (q := 370) vL_33 dL_law_367 rfl rfl (Nat.le_of_ble_eq_true rfl) (by decide) (by decide) hc (fun v τ hv => ?_)
  have hr := hk v τ hv
  refine r_aload_n (q := 371) dL_law_370 rfl rfl ?_
  refine r_aload_n (q := 372) dL_law_371 rfl rfl ?_
  refine r_iload_n (q := 373) dL_law_372 rfl rfl ?_
  refine r_iconst (q := 374) (v := nI 1) dL_law_373 rfl (by decide) ?_
  refine r_iaddN (q := 375) dL_law_374 rfl ?_
  refine r_sld (q := 376) dL_law_375 rfl (by omega) (by omega) ?_
  refine r_aload_n (q := 377) dL_law_376 rfl rfl ?_
  refine r_iload_n (q := 378) dL_law_377 rfl rfl ?_
  refine r_iconst (q := 379) (v := nI 2) dL_law_378 rfl (by decide) ?_
  refine r_iaddN (q := 380) dL_law_379 rfl ?_
  refine r_sld (q := 381) dL_law_380 rfl (by omega) (by omega) ?_
  refine r_cI2 (q := 384) vL_36 dL_law_381 rfl LYX6 rfl (Nat.le_of_ble_eq_true rfl) (by decide) (by decide) (hr) ?_
  rintro _ τ2 ⟨rfl, hIV⟩
  refine r_icmp_eq (t := 1025) (q := 387) dL_law_384 (by decide) rfl (fun c384 => ?_) (fun c384 => absurd rfl c384)
  exact K τ2 hIV
set_option maxRecDepth 100000 in
set_option maxHeartbeats 4000000 in
theorem lc_build {n : Nat} {xs : Nat → Int32} (hn : n ≤ 4096) {i : Nat} (hi : i + 8 ≤ n) {σ : St} (h : IV σ) (K : ∀ τ, IV τ → Rn LAY (some (n, xs)) RL cL_law 4 10 398 1025 [some (.ref 1000), some (.ref 0), some (.ref 33), some (.int (nI i))] [] τ (EI (fun v _ => v = nI 1))) : Rn LAY (some (n, xs)) RL cL_law 4 10 398 389 [some (.ref 1000), some (.ref 0), some (.ref 33), some (.int (nI i))] [] σ (EI (fun v _ => v = nI 1)) := by
  obtain ⟨E, hc, hk⟩ := st_build h (xs (i + 1))
  refine r_aload_n (q := 390) dL_law_389 rfl rfl ?_
  refine r_aload_n (q := 391) dL_law_390 rfl rfl ?_
  refine r_iload_n (q := 392) dL_law_391 rfl rfl ?_
  refine r_iconst (q := 393) (v := nI 1) dL_law_392 rfl (by decide) ?_
  refine r_iaddN (q := 394) dL_law_393 rfl ?_
  refine r_sld (q := 395) dL_law_394 rfl (by omega) (by omega) ?_
  refine r_x1 (q := 398) vL_37 dL_law_395 rfl rfl (Nat.le_of_ble_eq_true rfl) (by decide) (by decide) hc (fun v τ hv => ?_)
  have hr := hk v τ hv
  refine r_aload_n (q := 399) dL_law_398 rfl rfl ?_
  refine r_aload_n (q := 400) dL_law_399 rfl rfl ?_
  refine r_iload_n (q := 401) dL_law_400 rfl rfl ?_
  refine r_iconst (q := 402) (v := nI 1) dL_law_401 rfl (by decide) ?_
  refine r_iaddN (q := 403) dL_law_402 rfl ?_
  refine r_sld (q := 404) dL_law_403 rfl (by omega) (by omega) ?_
  refine r_cI1 (q := 407) vL_41 dL_law_404 rfl LYX6 rfl (Nat.le_of_ble_eq_true rfl) (by decide) (by decide) (hr) ?_
  rintro _ τ2 ⟨rfl, hIV⟩
  refine r_icmp_eq (t := 1025) (q := 410) dL_law_407 (by decide) rfl (fun c407 => ?_) (fun c407 => absurd rfl c407)
  exact K τ2 hIV
set_option maxRecDepth 100000 in
set_option maxHeartbeats 4000000 in
theorem lc_go {n : Nat} {xs : Nat → Int32} (hn : n ≤ 4096) {i : Nat} (hi : i + 8 ≤ n) {σ : St} (h : IV σ) (K : ∀ τ, IV τ → Rn LAY (some (n, xs)) RL cL_law 4 10 398 1025 [some (.ref 1000), some (.ref 0), some (.ref 33), some (.int (nI i))] [] τ (EI (fun v _ => v = nI 1))) : Rn LAY (some (n, xs)) RL cL_law 4 10 398 412 [some (.ref 1000), some (.ref 0), some (.ref 33), some (.int (nI i))] [] σ (EI (fun v _ => v = nI 1)) := by
  obtain ⟨E, hc, hk⟩ := st_go h (xs (i + 1))
  refine r_aload_n (q := 413) dL_law_412 rfl rfl ?_
  refine r_aload_n (q := 414) dL_law_413 rfl rfl ?_
  refine r_iload_n (q := 415) dL_law_414 rfl rfl ?_
  refine r_iconst (q := 416) (v := nI 1) dL_law_415 rfl (by decide) ?_
  refine r_iaddN (q := 417) dL_law_416 rfl ?_
  refine r_sld (q := 418) dL_law_417 rfl (by omega) (by omega) ?_
  refine r_x1 (q := 421) vL_42 dL_law_418 rfl rfl (Nat.le_of_ble_eq_true rfl) (by decide) (by decide) hc (fun v τ hv => ?_)
  have hr := hk v τ hv
  refine r_aload_n (q := 422) dL_law_421 rfl rfl ?_
  refine r_aload_n (q := 423) dL_law_422 rfl rfl ?_
  refine r_iload_n (q := 424) dL_law_423 rfl rfl ?_
  refine r_iconst (q := 425) (v := nI 1) dL_law_424 rfl (by decide) ?_
  refine r_iaddN (q := 426) dL_law_425 rfl ?_
  refine r_sld (q := 427) dL_law_426 rfl (by omega) (by omega) ?_
  refine r_cI1 (q := 430) vL_45 dL_law_427 rfl LYX6 rfl (Nat.le_of_ble_eq_true rfl) (by decide) (by decide) (hr) ?_
  rintro _ τ2 ⟨rfl, hIV⟩
  refine r_icmp_eq (t := 1025) (q := 433) dL_law_430 (by decide) rfl (fun c430 => ?_) (fun c430 => absurd rfl c430)
  exact K τ2 hIV
set_option maxRecDepth 100000 in
set_option maxHeartbeats 4000000 in
theorem lc_window {n : Nat} {xs : Nat → Int32} (hn : n ≤ 4096) {i : Nat} (hi : i + 8 ≤ n) {σ : St} (h : IV σ) (K : ∀ τ, IV τ → Rn LAY (some (n, xs)) RL cL_law 4 10 398 1025 [some (.ref 1000), some (.ref 0), some (.ref 33), some (.int (nI i))] [] τ (EI (fun v _ => v = nI 1))) : Rn LAY (some (n, xs)) RL cL_law 4 10 398 435 [some (.ref 1000), some (.ref 0), some (.ref 33), some (.int (nI i))] [] σ (EI (fun v _ => v = nI 1)) := by
  obtain ⟨E, hc, hk⟩ := st_window h (xs (i + 1)) (xs (i + 2)) (xs (i + 3)) (xs (i + 4)) (xs (i + 5)) (xs (i + 6))
  refine r_aload_n (q := 436) dL_law_435 rfl rfl ?_
  refine r_aload_n (q := 437) dL_law_436 rfl rfl ?_
  refine r_iload_n (q := 438) dL_law_437 rfl rfl ?_
  refine r_iconst (q := 439) (v := nI 1) dL_law_438 rfl (by decide) ?_
  refine r_iaddN (q := 440) dL_law_439 rfl ?_
  refine r_sld (q := 441) dL_law_440 rfl (by omega) (by omega) ?_
  refine r_aload_n (q := 442) dL_law_441 rfl rfl ?_
  refine r_iload_n (q := 443) dL_law_442 rfl rfl ?_
  refine r_iconst (q := 444) (v := nI 2) dL_law_443 rfl (by decide) ?_
  refine r_iaddN (q := 445) dL_law_444 rfl ?_
  refine r_sld (q := 446) dL_law_445 rfl (by omega) (by omega) ?_
  refine r_aload_n (q := 447) dL_law_446 rfl rfl ?_
  refine r_iload_n (q := 448) dL_law_447 rfl rfl ?_
  refine r_iconst (q := 449) (v := nI 3) dL_law_448 rfl (by decide) ?_
  refine r_iaddN (q := 450) dL_law_449 rfl ?_
  refine r_sld (q := 451) dL_law_450 rfl (by omega) (by omega) ?_
  refine r_aload_n (q := 452) dL_law_451 rfl rfl ?_
  refine r_iload_n (q := 453) dL_law_452 rfl rfl ?_
  refine r_iconst (q := 454) (v := nI 4) dL_law_453 rfl (by decide) ?_
  refine r_iaddN (q := 455) dL_law_454 rfl ?_
  refine r_sld (q := 456) dL_law_455 rfl (by omega) (by omega) ?_
  refine r_aload_n (q := 457) dL_law_456 rfl rfl ?_
  refine r_iload_n (q := 458) dL_law_457 rfl rfl ?_
  refine r_iconst (q := 459) (v := nI 5) dL_law_458 rfl (by decide) ?_
  refine r_iaddN (q := 460) dL_law_459 rfl ?_
  refine r_sld (q := 461) dL_law_460 rfl (by omega) (by omega) ?_
  refine r_aload_n (q := 462) dL_law_461 rfl rfl ?_
  refine r_iload_n (q := 463) dL_law_462 rfl rfl ?_
  refine r_bipush (q := 465) (v := nI 6) dL_law_463 rfl (by decide) ?_
  refine r_iaddN (q := 466) dL_law_465 rfl ?_
  refine r_sld (q := 467) dL_law_466 rfl (by omega) (by omega) ?_
  refine r_x6 (q := 470) vL_46 dL_law_467 rfl rfl (Nat.le_of_ble_eq_true rfl) (by decide) (by decide) hc (fun v τ hv => ?_)
  have hr := hk v τ hv
  refine r_aload_n (q := 471) dL_law_470 rfl rfl ?_
  refine r_aload_n (q := 472) dL_law_471 rfl rfl ?_
  refine r_iload_n (q := 473) dL_law_472 rfl rfl ?_
  refine r_iconst (q := 474) (v := nI 1) dL_law_473 rfl (by decide) ?_
  refine r_iaddN (q := 475) dL_law_474 rfl ?_
  refine r_sld (q := 476) dL_law_475 rfl (by omega) (by omega) ?_
  refine r_aload_n (q := 477) dL_law_476 rfl rfl ?_
  refine r_iload_n (q := 478) dL_law_477 rfl rfl ?_
  refine r_iconst (q := 479) (v := nI 2) dL_law_478 rfl (by decide) ?_
  refine r_iaddN (q := 480) dL_law_479 rfl ?_
  refine r_sld (q := 481) dL_law_480 rfl (by omega) (by omega) ?_
  refine r_aload_n (q := 482) dL_law_481 rfl rfl ?_
  refine r_iload_n (q := 483) dL_law_482 rfl rfl ?_
  refine r_iconst (q := 484) (v := nI 3) dL_law_483 rfl (by decide) ?_
  refine r_iaddN (q := 485) dL_law_484 rfl ?_
  refine r_sld (q := 486) dL_law_485 rfl (by omega) (by omega) ?_
  refine r_aload_n (q := 487) dL_law_486 rfl rfl ?_
  refine r_iload_n (q := 488) dL_law_487 rfl rfl ?_
  refine r_iconst (q := 489) (v := nI 4) dL_law_488 rfl (by decide) ?_
  refine r_iaddN (q := 490) dL_law_489 rfl ?_
  refine r_sld (q := 491) dL_law_490 rfl (by omega) (by omega) ?_
  refine r_aload_n (q := 492) dL_law_491 rfl rfl ?_
  refine r_iload_n (q := 493) dL_law_492 rfl rfl ?_
  refine r_iconst (q := 494) (v := nI 5) dL_law_493 rfl (by decide) ?_
  refine r_iaddN (q := 495) dL_law_494 rfl ?_
  refine r_sld (q := 496) dL_law_495 rfl (by omega) (by omega) ?_
  refine r_aload_n (q := 497) dL_law_496 rfl rfl ?_
  refine r_iload_n (q := 498) dL_law_497 rfl rfl ?_
  refine r_bipush (q := 500) (v := nI 6) dL_law_498 rfl (by decide) ?_
  refine r_iaddN (q := 501) dL_law_500 rfl ?_
  refine r_sld (q := 502) dL_law_501 rfl (by omega) (by omega) ?_
  refine r_cI6 (q := 505) vL_50 dL_law_502 rfl LYX6 rfl (Nat.le_of_ble_eq_true rfl) (by decide) (by decide) (hr) ?_
  rintro _ τ2 ⟨rfl, hIV⟩
  refine r_icmp_eq (t := 1025) (q := 508) dL_law_505 (by decide) rfl (fun c505 => ?_) (fun c505 => absurd rfl c505)
  exact K τ2 hIV
set_option maxRecDepth 100000 in
set_option maxHeartbeats 4000000 in
theorem lc_part {n : Nat} {xs : Nat → Int32} (hn : n ≤ 4096) {i : Nat} (hi : i + 8 ≤ n) {σ : St} (h : IV σ) (K : ∀ τ, IV τ → Rn LAY (some (n, xs)) RL cL_law 4 10 398 1025 [some (.ref 1000), some (.ref 0), some (.ref 33), some (.int (nI i))] [] τ (EI (fun v _ => v = nI 1))) : Rn LAY (some (n, xs)) RL cL_law 4 10 398 510 [some (.ref 1000), some (.ref 0), some (.ref 33), some (.int (nI i))] [] σ (EI (fun v _ => v = nI 1)) := by
  obtain ⟨E, hc, hk⟩ := st_part h (xs (i + 1))
  refine r_aload_n (q := 511) dL_law_510 rfl rfl ?_
  refine r_aload_n (q := 512) dL_law_511 rfl rfl ?_
  refine r_iload_n (q := 513) dL_law_512 rfl rfl ?_
  refine r_iconst (q := 514) (v := nI 1) dL_law_513 rfl (by decide) ?_
  refine r_iaddN (q := 515) dL_law_514 rfl ?_
  refine r_sld (q := 516) dL_law_515 rfl (by omega) (by omega) ?_
  refine r_x1 (q := 519) vL_51 dL_law_516 rfl rfl (Nat.le_of_ble_eq_true rfl) (by decide) (by decide) hc (fun v τ hv => ?_)
  have hr := hk v τ hv
  refine r_aload_n (q := 520) dL_law_519 rfl rfl ?_
  refine r_aload_n (q := 521) dL_law_520 rfl rfl ?_
  refine r_iload_n (q := 522) dL_law_521 rfl rfl ?_
  refine r_iconst (q := 523) (v := nI 1) dL_law_522 rfl (by decide) ?_
  refine r_iaddN (q := 524) dL_law_523 rfl ?_
  refine r_sld (q := 525) dL_law_524 rfl (by omega) (by omega) ?_
  refine r_cI1 (q := 528) vL_54 dL_law_525 rfl LYX6 rfl (Nat.le_of_ble_eq_true rfl) (by decide) (by decide) (hr) ?_
  rintro _ τ2 ⟨rfl, hIV⟩
  refine r_icmp_eq (t := 1025) (q := 531) dL_law_528 (by decide) rfl (fun c528 => ?_) (fun c528 => absurd rfl c528)
  exact K τ2 hIV
set_option maxRecDepth 100000 in
set_option maxHeartbeats 4000000 in
theorem lc_law {n : Nat} {xs : Nat → Int32} (hn : n ≤ 4096) {i : Nat} (hi : i + 8 ≤ n) {σ : St} (h : IV σ) (K : ∀ τ, IV τ → Rn LAY (some (n, xs)) RL cL_law 4 10 398 1025 [some (.ref 1000), some (.ref 0), some (.ref 33), some (.int (nI i))] [] τ (EI (fun v _ => v = nI 1))) : Rn LAY (some (n, xs)) RL cL_law 4 10 398 533 [some (.ref 1000), some (.ref 0), some (.ref 33), some (.int (nI i))] [] σ (EI (fun v _ => v = nI 1)) := by
  obtain ⟨E, hc, hk⟩ := st_law h (xs (i + 1)) (xs (i + 2))
  refine r_aload_n (q := 534) dL_law_533 rfl rfl ?_
  refine r_aload_n (q := 535) dL_law_534 rfl rfl ?_
  refine r_iload_n (q := 536) dL_law_535 rfl rfl ?_
  refine r_iconst (q := 537) (v := nI 1) dL_law_536 rfl (by decide) ?_
  refine r_iaddN (q := 538) dL_law_537 rfl ?_
  refine r_sld (q := 539) dL_law_538 rfl (by omega) (by omega) ?_
  refine r_aload_n (q := 540) dL_law_539 rfl rfl ?_
  refine r_iload_n (q := 541) dL_law_540 rfl rfl ?_
  refine r_iconst (q := 542) (v := nI 2) dL_law_541 rfl (by decide) ?_
  refine r_iaddN (q := 543) dL_law_542 rfl ?_
  refine r_sld (q := 544) dL_law_543 rfl (by omega) (by omega) ?_
  refine r_x2 (q := 547) vL_55 dL_law_544 rfl rfl (Nat.le_of_ble_eq_true rfl) (by decide) (by decide) hc (fun v τ hv => ?_)
  have hr := hk v τ hv
  refine r_aload_n (q := 548) dL_law_547 rfl rfl ?_
  refine r_aload_n (q := 549) dL_law_548 rfl rfl ?_
  refine r_iload_n (q := 550) dL_law_549 rfl rfl ?_
  refine r_iconst (q := 551) (v := nI 1) dL_law_550 rfl (by decide) ?_
  refine r_iaddN (q := 552) dL_law_551 rfl ?_
  refine r_sld (q := 553) dL_law_552 rfl (by omega) (by omega) ?_
  refine r_aload_n (q := 554) dL_law_553 rfl rfl ?_
  refine r_iload_n (q := 555) dL_law_554 rfl rfl ?_
  refine r_iconst (q := 556) (v := nI 2) dL_law_555 rfl (by decide) ?_
  refine r_iaddN (q := 557) dL_law_556 rfl ?_
  refine r_sld (q := 558) dL_law_557 rfl (by omega) (by omega) ?_
  refine r_cI2 (q := 561) vL_58 dL_law_558 rfl LYX6 rfl (Nat.le_of_ble_eq_true rfl) (by decide) (by decide) (hr) ?_
  rintro _ τ2 ⟨rfl, hIV⟩
  refine r_icmp_eq (t := 1025) (q := 564) dL_law_561 (by decide) rfl (fun c561 => ?_) (fun c561 => absurd rfl c561)
  exact K τ2 hIV
set_option maxRecDepth 100000 in
set_option maxHeartbeats 4000000 in
theorem lc_sun {n : Nat} {xs : Nat → Int32} (hn : n ≤ 4096) {i : Nat} (hi : i + 8 ≤ n) {σ : St} (h : IV σ) (K : ∀ τ, IV τ → Rn LAY (some (n, xs)) RL cL_law 4 10 398 1025 [some (.ref 1000), some (.ref 0), some (.ref 33), some (.int (nI i))] [] τ (EI (fun v _ => v = nI 1))) : Rn LAY (some (n, xs)) RL cL_law 4 10 398 566 [some (.ref 1000), some (.ref 0), some (.ref 33), some (.int (nI i))] [] σ (EI (fun v _ => v = nI 1)) := by
  obtain ⟨E, hc, hk⟩ := st_sun h (xs (i + 1)) (xs (i + 2)) (xs (i + 3))
  refine r_aload_n (q := 567) dL_law_566 rfl rfl ?_
  refine r_aload_n (q := 568) dL_law_567 rfl rfl ?_
  refine r_iload_n (q := 569) dL_law_568 rfl rfl ?_
  refine r_iconst (q := 570) (v := nI 1) dL_law_569 rfl (by decide) ?_
  refine r_iaddN (q := 571) dL_law_570 rfl ?_
  refine r_sld (q := 572) dL_law_571 rfl (by omega) (by omega) ?_
  refine r_aload_n (q := 573) dL_law_572 rfl rfl ?_
  refine r_iload_n (q := 574) dL_law_573 rfl rfl ?_
  refine r_iconst (q := 575) (v := nI 2) dL_law_574 rfl (by decide) ?_
  refine r_iaddN (q := 576) dL_law_575 rfl ?_
  refine r_sld (q := 577) dL_law_576 rfl (by omega) (by omega) ?_
  refine r_aload_n (q := 578) dL_law_577 rfl rfl ?_
  refine r_iload_n (q := 579) dL_law_578 rfl rfl ?_
  refine r_iconst (q := 580) (v := nI 3) dL_law_579 rfl (by decide) ?_
  refine r_iaddN (q := 581) dL_law_580 rfl ?_
  refine r_sld (q := 582) dL_law_581 rfl (by omega) (by omega) ?_
  refine r_x3 (q := 585) vL_59 dL_law_582 rfl rfl (Nat.le_of_ble_eq_true rfl) (by decide) (by decide) hc (fun v τ hv => ?_)
  have hr := hk v τ hv
  refine r_aload_n (q := 586) dL_law_585 rfl rfl ?_
  refine r_aload_n (q := 587) dL_law_586 rfl rfl ?_
  refine r_iload_n (q := 588) dL_law_587 rfl rfl ?_
  refine r_iconst (q := 589) (v := nI 1) dL_law_588 rfl (by decide) ?_
  refine r_iaddN (q := 590) dL_law_589 rfl ?_
  refine r_sld (q := 591) dL_law_590 rfl (by omega) (by omega) ?_
  refine r_aload_n (q := 592) dL_law_591 rfl rfl ?_
  refine r_iload_n (q := 593) dL_law_592 rfl rfl ?_
  refine r_iconst (q := 594) (v := nI 2) dL_law_593 rfl (by decide) ?_
  refine r_iaddN (q := 595) dL_law_594 rfl ?_
  refine r_sld (q := 596) dL_law_595 rfl (by omega) (by omega) ?_
  refine r_aload_n (q := 597) dL_law_596 rfl rfl ?_
  refine r_iload_n (q := 598) dL_law_597 rfl rfl ?_
  refine r_iconst (q := 599) (v := nI 3) dL_law_598 rfl (by decide) ?_
  refine r_iaddN (q := 600) dL_law_599 rfl ?_
  refine r_sld (q := 601) dL_law_600 rfl (by omega) (by omega) ?_
  refine r_cI3 (q := 604) vL_62 dL_law_601 rfl LYX6 rfl (Nat.le_of_ble_eq_true rfl) (by decide) (by decide) (hr) ?_
  rintro _ τ2 ⟨rfl, hIV⟩
  refine r_icmp_eq (t := 1025) (q := 607) dL_law_604 (by decide) rfl (fun c604 => ?_) (fun c604 => absurd rfl c604)
  exact K τ2 hIV
set_option maxRecDepth 100000 in
set_option maxHeartbeats 4000000 in
theorem lc_light {n : Nat} {xs : Nat → Int32} (hn : n ≤ 4096) {i : Nat} (hi : i + 8 ≤ n) {σ : St} (h : IV σ) (K : ∀ τ, IV τ → Rn LAY (some (n, xs)) RL cL_law 4 10 398 1025 [some (.ref 1000), some (.ref 0), some (.ref 33), some (.int (nI i))] [] τ (EI (fun v _ => v = nI 1))) : Rn LAY (some (n, xs)) RL cL_law 4 10 398 609 [some (.ref 1000), some (.ref 0), some (.ref 33), some (.int (nI i))] [] σ (EI (fun v _ => v = nI 1)) := by
  obtain ⟨E, hc, hk⟩ := st_light h (xs (i + 1)) (xs (i + 2)) (xs (i + 3)) (xs (i + 4))
  refine r_aload_n (q := 610) dL_law_609 rfl rfl ?_
  refine r_aload_n (q := 611) dL_law_610 rfl rfl ?_
  refine r_iload_n (q := 612) dL_law_611 rfl rfl ?_
  refine r_iconst (q := 613) (v := nI 1) dL_law_612 rfl (by decide) ?_
  refine r_iaddN (q := 614) dL_law_613 rfl ?_
  refine r_sld (q := 615) dL_law_614 rfl (by omega) (by omega) ?_
  refine r_aload_n (q := 616) dL_law_615 rfl rfl ?_
  refine r_iload_n (q := 617) dL_law_616 rfl rfl ?_
  refine r_iconst (q := 618) (v := nI 2) dL_law_617 rfl (by decide) ?_
  refine r_iaddN (q := 619) dL_law_618 rfl ?_
  refine r_sld (q := 620) dL_law_619 rfl (by omega) (by omega) ?_
  refine r_aload_n (q := 621) dL_law_620 rfl rfl ?_
  refine r_iload_n (q := 622) dL_law_621 rfl rfl ?_
  refine r_iconst (q := 623) (v := nI 3) dL_law_622 rfl (by decide) ?_
  refine r_iaddN (q := 624) dL_law_623 rfl ?_
  refine r_sld (q := 625) dL_law_624 rfl (by omega) (by omega) ?_
  refine r_aload_n (q := 626) dL_law_625 rfl rfl ?_
  refine r_iload_n (q := 627) dL_law_626 rfl rfl ?_
  refine r_iconst (q := 628) (v := nI 4) dL_law_627 rfl (by decide) ?_
  refine r_iaddN (q := 629) dL_law_628 rfl ?_
  refine r_sld (q := 630) dL_law_629 rfl (by omega) (by omega) ?_
  refine r_x4 (q := 633) vL_63 dL_law_630 rfl rfl (Nat.le_of_ble_eq_true rfl) (by decide) (by decide) hc (fun v τ hv => ?_)
  have hr := hk v τ hv
  refine r_aload_n (q := 634) dL_law_633 rfl rfl ?_
  refine r_aload_n (q := 635) dL_law_634 rfl rfl ?_
  refine r_iload_n (q := 636) dL_law_635 rfl rfl ?_
  refine r_iconst (q := 637) (v := nI 1) dL_law_636 rfl (by decide) ?_
  refine r_iaddN (q := 638) dL_law_637 rfl ?_
  refine r_sld (q := 639) dL_law_638 rfl (by omega) (by omega) ?_
  refine r_aload_n (q := 640) dL_law_639 rfl rfl ?_
  refine r_iload_n (q := 641) dL_law_640 rfl rfl ?_
  refine r_iconst (q := 642) (v := nI 2) dL_law_641 rfl (by decide) ?_
  refine r_iaddN (q := 643) dL_law_642 rfl ?_
  refine r_sld (q := 644) dL_law_643 rfl (by omega) (by omega) ?_
  refine r_aload_n (q := 645) dL_law_644 rfl rfl ?_
  refine r_iload_n (q := 646) dL_law_645 rfl rfl ?_
  refine r_iconst (q := 647) (v := nI 3) dL_law_646 rfl (by decide) ?_
  refine r_iaddN (q := 648) dL_law_647 rfl ?_
  refine r_sld (q := 649) dL_law_648 rfl (by omega) (by omega) ?_
  refine r_aload_n (q := 650) dL_law_649 rfl rfl ?_
  refine r_iload_n (q := 651) dL_law_650 rfl rfl ?_
  refine r_iconst (q := 652) (v := nI 4) dL_law_651 rfl (by decide) ?_
  refine r_iaddN (q := 653) dL_law_652 rfl ?_
  refine r_sld (q := 654) dL_law_653 rfl (by omega) (by omega) ?_
  refine r_cI4 (q := 657) vL_66 dL_law_654 rfl LYX6 rfl (Nat.le_of_ble_eq_true rfl) (by decide) (by decide) (hr) ?_
  rintro _ τ2 ⟨rfl, hIV⟩
  refine r_icmp_eq (t := 1025) (q := 660) dL_law_657 (by decide) rfl (fun c657 => ?_) (fun c657 => absurd rfl c657)
  exact K τ2 hIV
set_option maxRecDepth 100000 in
set_option maxHeartbeats 4000000 in
theorem lc_taker {n : Nat} {xs : Nat → Int32} (hn : n ≤ 4096) {i : Nat} (hi : i + 8 ≤ n) {σ : St} (h : IV σ) (K : ∀ τ, IV τ → Rn LAY (some (n, xs)) RL cL_law 4 10 398 1025 [some (.ref 1000), some (.ref 0), some (.ref 33), some (.int (nI i))] [] τ (EI (fun v _ => v = nI 1))) : Rn LAY (some (n, xs)) RL cL_law 4 10 398 662 [some (.ref 1000), some (.ref 0), some (.ref 33), some (.int (nI i))] [] σ (EI (fun v _ => v = nI 1)) := by
  obtain ⟨E, hc, hk⟩ := st_taker h (xs (i + 1)) (xs (i + 2)) (xs (i + 3)) (xs (i + 4))
  refine r_aload_n (q := 663) dL_law_662 rfl rfl ?_
  refine r_aload_n (q := 664) dL_law_663 rfl rfl ?_
  refine r_iload_n (q := 665) dL_law_664 rfl rfl ?_
  refine r_iconst (q := 666) (v := nI 1) dL_law_665 rfl (by decide) ?_
  refine r_iaddN (q := 667) dL_law_666 rfl ?_
  refine r_sld (q := 668) dL_law_667 rfl (by omega) (by omega) ?_
  refine r_aload_n (q := 669) dL_law_668 rfl rfl ?_
  refine r_iload_n (q := 670) dL_law_669 rfl rfl ?_
  refine r_iconst (q := 671) (v := nI 2) dL_law_670 rfl (by decide) ?_
  refine r_iaddN (q := 672) dL_law_671 rfl ?_
  refine r_sld (q := 673) dL_law_672 rfl (by omega) (by omega) ?_
  refine r_aload_n (q := 674) dL_law_673 rfl rfl ?_
  refine r_iload_n (q := 675) dL_law_674 rfl rfl ?_
  refine r_iconst (q := 676) (v := nI 3) dL_law_675 rfl (by decide) ?_
  refine r_iaddN (q := 677) dL_law_676 rfl ?_
  refine r_sld (q := 678) dL_law_677 rfl (by omega) (by omega) ?_
  refine r_aload_n (q := 679) dL_law_678 rfl rfl ?_
  refine r_iload_n (q := 680) dL_law_679 rfl rfl ?_
  refine r_iconst (q := 681) (v := nI 4) dL_law_680 rfl (by decide) ?_
  refine r_iaddN (q := 682) dL_law_681 rfl ?_
  refine r_sld (q := 683) dL_law_682 rfl (by omega) (by omega) ?_
  refine r_x4 (q := 686) vL_67 dL_law_683 rfl rfl (Nat.le_of_ble_eq_true rfl) (by decide) (by decide) hc (fun v τ hv => ?_)
  have hr := hk v τ hv
  refine r_aload_n (q := 687) dL_law_686 rfl rfl ?_
  refine r_aload_n (q := 688) dL_law_687 rfl rfl ?_
  refine r_iload_n (q := 689) dL_law_688 rfl rfl ?_
  refine r_iconst (q := 690) (v := nI 1) dL_law_689 rfl (by decide) ?_
  refine r_iaddN (q := 691) dL_law_690 rfl ?_
  refine r_sld (q := 692) dL_law_691 rfl (by omega) (by omega) ?_
  refine r_aload_n (q := 693) dL_law_692 rfl rfl ?_
  refine r_iload_n (q := 694) dL_law_693 rfl rfl ?_
  refine r_iconst (q := 695) (v := nI 2) dL_law_694 rfl (by decide) ?_
  refine r_iaddN (q := 696) dL_law_695 rfl ?_
  refine r_sld (q := 697) dL_law_696 rfl (by omega) (by omega) ?_
  refine r_aload_n (q := 698) dL_law_697 rfl rfl ?_
  refine r_iload_n (q := 699) dL_law_698 rfl rfl ?_
  refine r_iconst (q := 700) (v := nI 3) dL_law_699 rfl (by decide) ?_
  refine r_iaddN (q := 701) dL_law_700 rfl ?_
  refine r_sld (q := 702) dL_law_701 rfl (by omega) (by omega) ?_
  refine r_aload_n (q := 703) dL_law_702 rfl rfl ?_
  refine r_iload_n (q := 704) dL_law_703 rfl rfl ?_
  refine r_iconst (q := 705) (v := nI 4) dL_law_704 rfl (by decide) ?_
  refine r_iaddN (q := 706) dL_law_705 rfl ?_
  refine r_sld (q := 707) dL_law_706 rfl (by omega) (by omega) ?_
  refine r_cI4 (q := 710) vL_70 dL_law_707 rfl LYX6 rfl (Nat.le_of_ble_eq_true rfl) (by decide) (by decide) (hr) ?_
  rintro _ τ2 ⟨rfl, hIV⟩
  refine r_icmp_eq (t := 1025) (q := 713) dL_law_710 (by decide) rfl (fun c710 => ?_) (fun c710 => absurd rfl c710)
  exact K τ2 hIV
set_option maxRecDepth 100000 in
set_option maxHeartbeats 4000000 in
theorem lc_takes {n : Nat} {xs : Nat → Int32} (hn : n ≤ 4096) {i : Nat} (hi : i + 8 ≤ n) {σ : St} (h : IV σ) (K : ∀ τ, IV τ → Rn LAY (some (n, xs)) RL cL_law 4 10 398 1025 [some (.ref 1000), some (.ref 0), some (.ref 33), some (.int (nI i))] [] τ (EI (fun v _ => v = nI 1))) : Rn LAY (some (n, xs)) RL cL_law 4 10 398 715 [some (.ref 1000), some (.ref 0), some (.ref 33), some (.int (nI i))] [] σ (EI (fun v _ => v = nI 1)) := by
  obtain ⟨E, hc, hk⟩ := st_takes h (xs (i + 1)) (xs (i + 2)) (xs (i + 3))
  refine r_aload_n (q := 716) dL_law_715 rfl rfl ?_
  refine r_aload_n (q := 717) dL_law_716 rfl rfl ?_
  refine r_iload_n (q := 718) dL_law_717 rfl rfl ?_
  refine r_iconst (q := 719) (v := nI 1) dL_law_718 rfl (by decide) ?_
  refine r_iaddN (q := 720) dL_law_719 rfl ?_
  refine r_sld (q := 721) dL_law_720 rfl (by omega) (by omega) ?_
  refine r_aload_n (q := 722) dL_law_721 rfl rfl ?_
  refine r_iload_n (q := 723) dL_law_722 rfl rfl ?_
  refine r_iconst (q := 724) (v := nI 2) dL_law_723 rfl (by decide) ?_
  refine r_iaddN (q := 725) dL_law_724 rfl ?_
  refine r_sld (q := 726) dL_law_725 rfl (by omega) (by omega) ?_
  refine r_aload_n (q := 727) dL_law_726 rfl rfl ?_
  refine r_iload_n (q := 728) dL_law_727 rfl rfl ?_
  refine r_iconst (q := 729) (v := nI 3) dL_law_728 rfl (by decide) ?_
  refine r_iaddN (q := 730) dL_law_729 rfl ?_
  refine r_sld (q := 731) dL_law_730 rfl (by omega) (by omega) ?_
  refine r_x3 (q := 734) vL_71 dL_law_731 rfl rfl (Nat.le_of_ble_eq_true rfl) (by decide) (by decide) hc (fun v τ hv => ?_)
  have hr := hk v τ hv
  refine r_aload_n (q := 735) dL_law_734 rfl rfl ?_
  refine r_aload_n (q := 736) dL_law_735 rfl rfl ?_
  refine r_iload_n (q := 737) dL_law_736 rfl rfl ?_
  refine r_iconst (q := 738) (v := nI 1) dL_law_737 rfl (by decide) ?_
  refine r_iaddN (q := 739) dL_law_738 rfl ?_
  refine r_sld (q := 740) dL_law_739 rfl (by omega) (by omega) ?_
  refine r_aload_n (q := 741) dL_law_740 rfl rfl ?_
  refine r_iload_n (q := 742) dL_law_741 rfl rfl ?_
  refine r_iconst (q := 743) (v := nI 2) dL_law_742 rfl (by decide) ?_
  refine r_iaddN (q := 744) dL_law_743 rfl ?_
  refine r_sld (q := 745) dL_law_744 rfl (by omega) (by omega) ?_
  refine r_aload_n (q := 746) dL_law_745 rfl rfl ?_
  refine r_iload_n (q := 747) dL_law_746 rfl rfl ?_
  refine r_iconst (q := 748) (v := nI 3) dL_law_747 rfl (by decide) ?_
  refine r_iaddN (q := 749) dL_law_748 rfl ?_
  refine r_sld (q := 750) dL_law_749 rfl (by omega) (by omega) ?_
  refine r_cI3 (q := 753) vL_74 dL_law_750 rfl LYX6 rfl (Nat.le_of_ble_eq_true rfl) (by decide) (by decide) (hr) ?_
  rintro _ τ2 ⟨rfl, hIV⟩
  refine r_icmp_eq (t := 1025) (q := 756) dL_law_753 (by decide) rfl (fun c753 => ?_) (fun c753 => absurd rfl c753)
  exact K τ2 hIV
set_option maxRecDepth 100000 in
set_option maxHeartbeats 4000000 in
theorem lc_hours {n : Nat} {xs : Nat → Int32} (hn : n ≤ 4096) {i : Nat} (hi : i + 8 ≤ n) {σ : St} (h : IV σ) (K : ∀ τ, IV τ → Rn LAY (some (n, xs)) RL cL_law 4 10 398 1025 [some (.ref 1000), some (.ref 0), some (.ref 33), some (.int (nI i))] [] τ (EI (fun v _ => v = nI 1))) : Rn LAY (some (n, xs)) RL cL_law 4 10 398 758 [some (.ref 1000), some (.ref 0), some (.ref 33), some (.int (nI i))] [] σ (EI (fun v _ => v = nI 1)) := by
  obtain ⟨E, hc, hk⟩ := st_hours h (xs (i + 1)) (xs (i + 2))
  refine r_aload_n (q := 759) dL_law_758 rfl rfl ?_
  refine r_aload_n (q := 760) dL_law_759 rfl rfl ?_
  refine r_iload_n (q := 761) dL_law_760 rfl rfl ?_
  refine r_iconst (q := 762) (v := nI 1) dL_law_761 rfl (by decide) ?_
  refine r_iaddN (q := 763) dL_law_762 rfl ?_
  refine r_sld (q := 764) dL_law_763 rfl (by omega) (by omega) ?_
  refine r_aload_n (q := 765) dL_law_764 rfl rfl ?_
  refine r_iload_n (q := 766) dL_law_765 rfl rfl ?_
  refine r_iconst (q := 767) (v := nI 2) dL_law_766 rfl (by decide) ?_
  refine r_iaddN (q := 768) dL_law_767 rfl ?_
  refine r_sld (q := 769) dL_law_768 rfl (by omega) (by omega) ?_
  refine r_x2 (q := 772) vL_75 dL_law_769 rfl rfl (Nat.le_of_ble_eq_true rfl) (by decide) (by decide) hc (fun v τ hv => ?_)
  have hr := hk v τ hv
  refine r_aload_n (q := 773) dL_law_772 rfl rfl ?_
  refine r_aload_n (q := 774) dL_law_773 rfl rfl ?_
  refine r_iload_n (q := 775) dL_law_774 rfl rfl ?_
  refine r_iconst (q := 776) (v := nI 1) dL_law_775 rfl (by decide) ?_
  refine r_iaddN (q := 777) dL_law_776 rfl ?_
  refine r_sld (q := 778) dL_law_777 rfl (by omega) (by omega) ?_
  refine r_aload_n (q := 779) dL_law_778 rfl rfl ?_
  refine r_iload_n (q := 780) dL_law_779 rfl rfl ?_
  refine r_iconst (q := 781) (v := nI 2) dL_law_780 rfl (by decide) ?_
  refine r_iaddN (q := 782) dL_law_781 rfl ?_
  refine r_sld (q := 783) dL_law_782 rfl (by omega) (by omega) ?_
  refine r_cI2 (q := 786) vL_78 dL_law_783 rfl LYX6 rfl (Nat.le_of_ble_eq_true rfl) (by decide) (by decide) (hr) ?_
  rintro _ τ2 ⟨rfl, hIV⟩
  refine r_icmp_eq (t := 1025) (q := 789) dL_law_786 (by decide) rfl (fun c786 => ?_) (fun c786 => absurd rfl c786)
  exact K τ2 hIV
set_option maxRecDepth 100000 in
set_option maxHeartbeats 4000000 in
theorem lc_loss {n : Nat} {xs : Nat → Int32} (hn : n ≤ 4096) {i : Nat} (hi : i + 8 ≤ n) {σ : St} (h : IV σ) (K : ∀ τ, IV τ → Rn LAY (some (n, xs)) RL cL_law 4 10 398 1025 [some (.ref 1000), some (.ref 0), some (.ref 33), some (.int (nI i))] [] τ (EI (fun v _ => v = nI 1))) : Rn LAY (some (n, xs)) RL cL_law 4 10 398 791 [some (.ref 1000), some (.ref 0), some (.ref 33), some (.int (nI i))] [] σ (EI (fun v _ => v = nI 1)) := by
  obtain ⟨E, hc, hk⟩ := st_loss h (xs (i + 1)) (xs (i + 2)) (xs (i + 3))
  refine r_aload_n (q := 792) dL_law_791 rfl rfl ?_
  refine r_aload_n (q := 793) dL_law_792 rfl rfl ?_
  refine r_iload_n (q := 794) dL_law_793 rfl rfl ?_
  refine r_iconst (q := 795) (v := nI 1) dL_law_794 rfl (by decide) ?_
  refine r_iaddN (q := 796) dL_law_795 rfl ?_
  refine r_sld (q := 797) dL_law_796 rfl (by omega) (by omega) ?_
  refine r_aload_n (q := 798) dL_law_797 rfl rfl ?_
  refine r_iload_n (q := 799) dL_law_798 rfl rfl ?_
  refine r_iconst (q := 800) (v := nI 2) dL_law_799 rfl (by decide) ?_
  refine r_iaddN (q := 801) dL_law_800 rfl ?_
  refine r_sld (q := 802) dL_law_801 rfl (by omega) (by omega) ?_
  refine r_aload_n (q := 803) dL_law_802 rfl rfl ?_
  refine r_iload_n (q := 804) dL_law_803 rfl rfl ?_
  refine r_iconst (q := 805) (v := nI 3) dL_law_804 rfl (by decide) ?_
  refine r_iaddN (q := 806) dL_law_805 rfl ?_
  refine r_sld (q := 807) dL_law_806 rfl (by omega) (by omega) ?_
  refine r_x3 (q := 810) vL_79 dL_law_807 rfl rfl (Nat.le_of_ble_eq_true rfl) (by decide) (by decide) hc (fun v τ hv => ?_)
  have hr := hk v τ hv
  refine r_aload_n (q := 811) dL_law_810 rfl rfl ?_
  refine r_aload_n (q := 812) dL_law_811 rfl rfl ?_
  refine r_iload_n (q := 813) dL_law_812 rfl rfl ?_
  refine r_iconst (q := 814) (v := nI 1) dL_law_813 rfl (by decide) ?_
  refine r_iaddN (q := 815) dL_law_814 rfl ?_
  refine r_sld (q := 816) dL_law_815 rfl (by omega) (by omega) ?_
  refine r_aload_n (q := 817) dL_law_816 rfl rfl ?_
  refine r_iload_n (q := 818) dL_law_817 rfl rfl ?_
  refine r_iconst (q := 819) (v := nI 2) dL_law_818 rfl (by decide) ?_
  refine r_iaddN (q := 820) dL_law_819 rfl ?_
  refine r_sld (q := 821) dL_law_820 rfl (by omega) (by omega) ?_
  refine r_aload_n (q := 822) dL_law_821 rfl rfl ?_
  refine r_iload_n (q := 823) dL_law_822 rfl rfl ?_
  refine r_iconst (q := 824) (v := nI 3) dL_law_823 rfl (by decide) ?_
  refine r_iaddN (q := 825) dL_law_824 rfl ?_
  refine r_sld (q := 826) dL_law_825 rfl (by omega) (by omega) ?_
  refine r_cI3 (q := 829) vL_82 dL_law_826 rfl LYX6 rfl (Nat.le_of_ble_eq_true rfl) (by decide) (by decide) (hr) ?_
  rintro _ τ2 ⟨rfl, hIV⟩
  refine r_icmp_eq (t := 1025) (q := 832) dL_law_829 (by decide) rfl (fun c829 => ?_) (fun c829 => absurd rfl c829)
  exact K τ2 hIV
set_option maxRecDepth 100000 in
set_option maxHeartbeats 4000000 in
theorem lc_high {n : Nat} {xs : Nat → Int32} (hn : n ≤ 4096) {i : Nat} (hi : i + 8 ≤ n) {σ : St} (h : IV σ) (K : ∀ τ, IV τ → Rn LAY (some (n, xs)) RL cL_law 4 10 398 1025 [some (.ref 1000), some (.ref 0), some (.ref 33), some (.int (nI i))] [] τ (EI (fun v _ => v = nI 1))) : Rn LAY (some (n, xs)) RL cL_law 4 10 398 834 [some (.ref 1000), some (.ref 0), some (.ref 33), some (.int (nI i))] [] σ (EI (fun v _ => v = nI 1)) := by
  obtain ⟨E, hc, hk⟩ := st_high h (xs (i + 1))
  refine r_aload_n (q := 835) dL_law_834 rfl rfl ?_
  refine r_aload_n (q := 836) dL_law_835 rfl rfl ?_
  refine r_iload_n (q := 837) dL_law_836 rfl rfl ?_
  refine r_iconst (q := 838) (v := nI 1) dL_law_837 rfl (by decide) ?_
  refine r_iaddN (q := 839) dL_law_838 rfl ?_
  refine r_sld (q := 840) dL_law_839 rfl (by omega) (by omega) ?_
  refine r_x1 (q := 843) vL_83 dL_law_840 rfl rfl (Nat.le_of_ble_eq_true rfl) (by decide) (by decide) hc (fun v τ hv => ?_)
  have hr := hk v τ hv
  refine r_aload_n (q := 844) dL_law_843 rfl rfl ?_
  refine r_aload_n (q := 845) dL_law_844 rfl rfl ?_
  refine r_iload_n (q := 846) dL_law_845 rfl rfl ?_
  refine r_iconst (q := 847) (v := nI 1) dL_law_846 rfl (by decide) ?_
  refine r_iaddN (q := 848) dL_law_847 rfl ?_
  refine r_sld (q := 849) dL_law_848 rfl (by omega) (by omega) ?_
  refine r_cI1 (q := 852) vL_86 dL_law_849 rfl LYX6 rfl (Nat.le_of_ble_eq_true rfl) (by decide) (by decide) (hr) ?_
  rintro _ τ2 ⟨rfl, hIV⟩
  refine r_icmp_eq (t := 1025) (q := 855) dL_law_852 (by decide) rfl (fun c852 => ?_) (fun c852 => absurd rfl c852)
  exact K τ2 hIV
set_option maxRecDepth 100000 in
set_option maxHeartbeats 4000000 in
theorem lc_breach {n : Nat} {xs : Nat → Int32} (hn : n ≤ 4096) {i : Nat} (hi : i + 8 ≤ n) {σ : St} (h : IV σ) (K : ∀ τ, IV τ → Rn LAY (some (n, xs)) RL cL_law 4 10 398 1025 [some (.ref 1000), some (.ref 0), some (.ref 33), some (.int (nI i))] [] τ (EI (fun v _ => v = nI 1))) : Rn LAY (some (n, xs)) RL cL_law 4 10 398 857 [some (.ref 1000), some (.ref 0), some (.ref 33), some (.int (nI i))] [] σ (EI (fun v _ => v = nI 1)) := by
  obtain ⟨E, hc, hk⟩ := st_breach h (xs (i + 1)) (xs (i + 2))
  refine r_aload_n (q := 858) dL_law_857 rfl rfl ?_
  refine r_aload_n (q := 859) dL_law_858 rfl rfl ?_
  refine r_iload_n (q := 860) dL_law_859 rfl rfl ?_
  refine r_iconst (q := 861) (v := nI 1) dL_law_860 rfl (by decide) ?_
  refine r_iaddN (q := 862) dL_law_861 rfl ?_
  refine r_sld (q := 863) dL_law_862 rfl (by omega) (by omega) ?_
  refine r_aload_n (q := 864) dL_law_863 rfl rfl ?_
  refine r_iload_n (q := 865) dL_law_864 rfl rfl ?_
  refine r_iconst (q := 866) (v := nI 2) dL_law_865 rfl (by decide) ?_
  refine r_iaddN (q := 867) dL_law_866 rfl ?_
  refine r_sld (q := 868) dL_law_867 rfl (by omega) (by omega) ?_
  refine r_x2 (q := 871) vL_87 dL_law_868 rfl rfl (Nat.le_of_ble_eq_true rfl) (by decide) (by decide) hc (fun v τ hv => ?_)
  have hr := hk v τ hv
  refine r_aload_n (q := 872) dL_law_871 rfl rfl ?_
  refine r_aload_n (q := 873) dL_law_872 rfl rfl ?_
  refine r_iload_n (q := 874) dL_law_873 rfl rfl ?_
  refine r_iconst (q := 875) (v := nI 1) dL_law_874 rfl (by decide) ?_
  refine r_iaddN (q := 876) dL_law_875 rfl ?_
  refine r_sld (q := 877) dL_law_876 rfl (by omega) (by omega) ?_
  refine r_aload_n (q := 878) dL_law_877 rfl rfl ?_
  refine r_iload_n (q := 879) dL_law_878 rfl rfl ?_
  refine r_iconst (q := 880) (v := nI 2) dL_law_879 rfl (by decide) ?_
  refine r_iaddN (q := 881) dL_law_880 rfl ?_
  refine r_sld (q := 882) dL_law_881 rfl (by omega) (by omega) ?_
  refine r_cI2 (q := 885) vL_90 dL_law_882 rfl LYX6 rfl (Nat.le_of_ble_eq_true rfl) (by decide) (by decide) (hr) ?_
  rintro _ τ2 ⟨rfl, hIV⟩
  refine r_icmp_eq (t := 1025) (q := 888) dL_law_885 (by decide) rfl (fun c885 => ?_) (fun c885 => absurd rfl c885)
  exact K τ2 hIV
set_option maxRecDepth 100000 in
set_option maxHeartbeats 4000000 in
theorem lc_years {n : Nat} {xs : Nat → Int32} (hn : n ≤ 4096) {i : Nat} (hi : i + 8 ≤ n) {σ : St} (h : IV σ) (K : ∀ τ, IV τ → Rn LAY (some (n, xs)) RL cL_law 4 10 398 1025 [some (.ref 1000), some (.ref 0), some (.ref 33), some (.int (nI i))] [] τ (EI (fun v _ => v = nI 1))) : Rn LAY (some (n, xs)) RL cL_law 4 10 398 890 [some (.ref 1000), some (.ref 0), some (.ref 33), some (.int (nI i))] [] σ (EI (fun v _ => v = nI 1)) := by
  obtain ⟨E, hc, hk⟩ := st_years h (xs (i + 1))
  refine r_aload_n (q := 891) dL_law_890 rfl rfl ?_
  refine r_aload_n (q := 892) dL_law_891 rfl rfl ?_
  refine r_iload_n (q := 893) dL_law_892 rfl rfl ?_
  refine r_iconst (q := 894) (v := nI 1) dL_law_893 rfl (by decide) ?_
  refine r_iaddN (q := 895) dL_law_894 rfl ?_
  refine r_sld (q := 896) dL_law_895 rfl (by omega) (by omega) ?_
  refine r_x1 (q := 899) vL_91 dL_law_896 rfl rfl (Nat.le_of_ble_eq_true rfl) (by decide) (by decide) hc (fun v τ hv => ?_)
  have hr := hk v τ hv
  refine r_aload_n (q := 900) dL_law_899 rfl rfl ?_
  refine r_aload_n (q := 901) dL_law_900 rfl rfl ?_
  refine r_iload_n (q := 902) dL_law_901 rfl rfl ?_
  refine r_iconst (q := 903) (v := nI 1) dL_law_902 rfl (by decide) ?_
  refine r_iaddN (q := 904) dL_law_903 rfl ?_
  refine r_sld (q := 905) dL_law_904 rfl (by omega) (by omega) ?_
  refine r_cI1 (q := 908) vL_94 dL_law_905 rfl LYX6 rfl (Nat.le_of_ble_eq_true rfl) (by decide) (by decide) (hr) ?_
  rintro _ τ2 ⟨rfl, hIV⟩
  refine r_icmp_eq (t := 1025) (q := 911) dL_law_908 (by decide) rfl (fun c908 => ?_) (fun c908 => absurd rfl c908)
  exact K τ2 hIV
set_option maxRecDepth 100000 in
set_option maxHeartbeats 4000000 in
theorem lc_release {n : Nat} {xs : Nat → Int32} (hn : n ≤ 4096) {i : Nat} (hi : i + 8 ≤ n) {σ : St} (h : IV σ) (K : ∀ τ, IV τ → Rn LAY (some (n, xs)) RL cL_law 4 10 398 1025 [some (.ref 1000), some (.ref 0), some (.ref 33), some (.int (nI i))] [] τ (EI (fun v _ => v = nI 1))) : Rn LAY (some (n, xs)) RL cL_law 4 10 398 913 [some (.ref 1000), some (.ref 0), some (.ref 33), some (.int (nI i))] [] σ (EI (fun v _ => v = nI 1)) := by
  obtain ⟨E, hc, hk⟩ := st_release h (xs (i + 1))
  refine r_aload_n (q := 914) dL_law_913 rfl rfl ?_
  refine r_aload_n (q := 915) dL_law_914 rfl rfl ?_
  refine r_iload_n (q := 916) dL_law_915 rfl rfl ?_
  refine r_iconst (q := 917) (v := nI 1) dL_law_916 rfl (by decide) ?_
  refine r_iaddN (q := 918) dL_law_917 rfl ?_
  refine r_sld (q := 919) dL_law_918 rfl (by omega) (by omega) ?_
  refine r_x1 (q := 922) vL_95 dL_law_919 rfl rfl (Nat.le_of_ble_eq_true rfl) (by decide) (by decide) hc (fun v τ hv => ?_)
  have hr := hk v τ hv
  refine r_aload_n (q := 923) dL_law_922 rfl rfl ?_
  refine r_aload_n (q := 924) dL_law_923 rfl rfl ?_
  refine r_iload_n (q := 925) dL_law_924 rfl rfl ?_
  refine r_iconst (q := 926) (v := nI 1) dL_law_925 rfl (by decide) ?_
  refine r_iaddN (q := 927) dL_law_926 rfl ?_
  refine r_sld (q := 928) dL_law_927 rfl (by omega) (by omega) ?_
  refine r_cI1 (q := 931) vL_99 dL_law_928 rfl LYX6 rfl (Nat.le_of_ble_eq_true rfl) (by decide) (by decide) (hr) ?_
  rintro _ τ2 ⟨rfl, hIV⟩
  refine r_icmp_eq (t := 1025) (q := 934) dL_law_931 (by decide) rfl (fun c931 => ?_) (fun c931 => absurd rfl c931)
  exact K τ2 hIV
set_option maxRecDepth 100000 in
set_option maxHeartbeats 4000000 in
theorem lc_blockOf {n : Nat} {xs : Nat → Int32} (hn : n ≤ 4096) {i : Nat} (hi : i + 8 ≤ n) {σ : St} (h : IV σ) (K : ∀ τ, IV τ → Rn LAY (some (n, xs)) RL cL_law 4 10 398 1025 [some (.ref 1000), some (.ref 0), some (.ref 33), some (.int (nI i))] [] τ (EI (fun v _ => v = nI 1))) : Rn LAY (some (n, xs)) RL cL_law 4 10 398 936 [some (.ref 1000), some (.ref 0), some (.ref 33), some (.int (nI i))] [] σ (EI (fun v _ => v = nI 1)) := by
  obtain ⟨E, hc, hk⟩ := st_blockOf h (xs (i + 1)) (xs (i + 2))
  refine r_aload_n (q := 937) dL_law_936 rfl rfl ?_
  refine r_aload_n (q := 938) dL_law_937 rfl rfl ?_
  refine r_iload_n (q := 939) dL_law_938 rfl rfl ?_
  refine r_iconst (q := 940) (v := nI 1) dL_law_939 rfl (by decide) ?_
  refine r_iaddN (q := 941) dL_law_940 rfl ?_
  refine r_sld (q := 942) dL_law_941 rfl (by omega) (by omega) ?_
  refine r_aload_n (q := 943) dL_law_942 rfl rfl ?_
  refine r_iload_n (q := 944) dL_law_943 rfl rfl ?_
  refine r_iconst (q := 945) (v := nI 2) dL_law_944 rfl (by decide) ?_
  refine r_iaddN (q := 946) dL_law_945 rfl ?_
  refine r_sld (q := 947) dL_law_946 rfl (by omega) (by omega) ?_
  refine r_x2 (q := 950) vL_100 dL_law_947 rfl rfl (Nat.le_of_ble_eq_true rfl) (by decide) (by decide) hc (fun v τ hv => ?_)
  have hr := hk v τ hv
  refine r_aload_n (q := 951) dL_law_950 rfl rfl ?_
  refine r_aload_n (q := 952) dL_law_951 rfl rfl ?_
  refine r_iload_n (q := 953) dL_law_952 rfl rfl ?_
  refine r_iconst (q := 954) (v := nI 1) dL_law_953 rfl (by decide) ?_
  refine r_iaddN (q := 955) dL_law_954 rfl ?_
  refine r_sld (q := 956) dL_law_955 rfl (by omega) (by omega) ?_
  refine r_aload_n (q := 957) dL_law_956 rfl rfl ?_
  refine r_iload_n (q := 958) dL_law_957 rfl rfl ?_
  refine r_iconst (q := 959) (v := nI 2) dL_law_958 rfl (by decide) ?_
  refine r_iaddN (q := 960) dL_law_959 rfl ?_
  refine r_sld (q := 961) dL_law_960 rfl (by omega) (by omega) ?_
  refine r_cI2 (q := 964) vL_103 dL_law_961 rfl LYX6 rfl (Nat.le_of_ble_eq_true rfl) (by decide) (by decide) (hr) ?_
  rintro _ τ2 ⟨rfl, hIV⟩
  refine r_icmp_eq (t := 1025) (q := 967) dL_law_964 (by decide) rfl (fun c964 => ?_) (fun c964 => absurd rfl c964)
  exact K τ2 hIV
set_option maxRecDepth 100000 in
set_option maxHeartbeats 4000000 in
theorem lc_windowOf {n : Nat} {xs : Nat → Int32} (hn : n ≤ 4096) {i : Nat} (hi : i + 8 ≤ n) {σ : St} (h : IV σ) (K : ∀ τ, IV τ → Rn LAY (some (n, xs)) RL cL_law 4 10 398 1025 [some (.ref 1000), some (.ref 0), some (.ref 33), some (.int (nI i))] [] τ (EI (fun v _ => v = nI 1))) : Rn LAY (some (n, xs)) RL cL_law 4 10 398 969 [some (.ref 1000), some (.ref 0), some (.ref 33), some (.int (nI i))] [] σ (EI (fun v _ => v = nI 1)) := by
  obtain ⟨E, hc, hk⟩ := st_windowOf h (xs (i + 1)) (xs (i + 2))
  refine r_aload_n (q := 970) dL_law_969 rfl rfl ?_
  refine r_aload_n (q := 971) dL_law_970 rfl rfl ?_
  refine r_iload_n (q := 972) dL_law_971 rfl rfl ?_
  refine r_iconst (q := 973) (v := nI 1) dL_law_972 rfl (by decide) ?_
  refine r_iaddN (q := 974) dL_law_973 rfl ?_
  refine r_sld (q := 975) dL_law_974 rfl (by omega) (by omega) ?_
  refine r_aload_n (q := 976) dL_law_975 rfl rfl ?_
  refine r_iload_n (q := 977) dL_law_976 rfl rfl ?_
  refine r_iconst (q := 978) (v := nI 2) dL_law_977 rfl (by decide) ?_
  refine r_iaddN (q := 979) dL_law_978 rfl ?_
  refine r_sld (q := 980) dL_law_979 rfl (by omega) (by omega) ?_
  refine r_x2 (q := 983) vL_104 dL_law_980 rfl rfl (Nat.le_of_ble_eq_true rfl) (by decide) (by decide) hc (fun v τ hv => ?_)
  have hr := hk v τ hv
  refine r_aload_n (q := 984) dL_law_983 rfl rfl ?_
  refine r_aload_n (q := 985) dL_law_984 rfl rfl ?_
  refine r_iload_n (q := 986) dL_law_985 rfl rfl ?_
  refine r_iconst (q := 987) (v := nI 1) dL_law_986 rfl (by decide) ?_
  refine r_iaddN (q := 988) dL_law_987 rfl ?_
  refine r_sld (q := 989) dL_law_988 rfl (by omega) (by omega) ?_
  refine r_aload_n (q := 990) dL_law_989 rfl rfl ?_
  refine r_iload_n (q := 991) dL_law_990 rfl rfl ?_
  refine r_iconst (q := 992) (v := nI 2) dL_law_991 rfl (by decide) ?_
  refine r_iaddN (q := 993) dL_law_992 rfl ?_
  refine r_sld (q := 994) dL_law_993 rfl (by omega) (by omega) ?_
  refine r_cI2 (q := 997) vL_107 dL_law_994 rfl LYX6 rfl (Nat.le_of_ble_eq_true rfl) (by decide) (by decide) (hr) ?_
  rintro _ τ2 ⟨rfl, hIV⟩
  refine r_icmp_eq (t := 1025) (q := 1000) dL_law_997 (by decide) rfl (fun c997 => ?_) (fun c997 => absurd rfl c997)
  exact K τ2 hIV
set_option maxRecDepth 100000 in
set_option maxHeartbeats 4000000 in
theorem lc_count {n : Nat} {xs : Nat → Int32} (hn : n ≤ 4096) {i : Nat} (hi : i + 8 ≤ n) {σ : St} (h : IV σ) (K : ∀ τ, IV τ → Rn LAY (some (n, xs)) RL cL_law 4 10 398 1025 [some (.ref 1000), some (.ref 0), some (.ref 33), some (.int (nI i))] [] τ (EI (fun v _ => v = nI 1))) : Rn LAY (some (n, xs)) RL cL_law 4 10 398 1002 [some (.ref 1000), some (.ref 0), some (.ref 33), some (.int (nI i))] [] σ (EI (fun v _ => v = nI 1)) := by
  obtain ⟨E, hc, hk⟩ := st_count h (xs (i + 1))
  refine r_aload_n (q := 1003) dL_law_1002 rfl rfl ?_
  refine r_aload_n (q := 1004) dL_law_1003 rfl rfl ?_
  refine r_iload_n (q := 1005) dL_law_1004 rfl rfl ?_
  refine r_iconst (q := 1006) (v := nI 1) dL_law_1005 rfl (by decide) ?_
  refine r_iaddN (q := 1007) dL_law_1006 rfl ?_
  refine r_sld (q := 1008) dL_law_1007 rfl (by omega) (by omega) ?_
  refine r_x1 (q := 1011) vL_108 dL_law_1008 rfl rfl (Nat.le_of_ble_eq_true rfl) (by decide) (by decide) hc (fun v τ hv => ?_)
  have hr := hk v τ hv
  refine r_aload_n (q := 1012) dL_law_1011 rfl rfl ?_
  refine r_aload_n (q := 1013) dL_law_1012 rfl rfl ?_
  refine r_iload_n (q := 1014) dL_law_1013 rfl rfl ?_
  refine r_iconst (q := 1015) (v := nI 1) dL_law_1014 rfl (by decide) ?_
  refine r_iaddN (q := 1016) dL_law_1015 rfl ?_
  refine r_sld (q := 1017) dL_law_1016 rfl (by omega) (by omega) ?_
  refine r_cI1 (q := 1020) vL_111 dL_law_1017 rfl LYX6 rfl (Nat.le_of_ble_eq_true rfl) (by decide) (by decide) (hr) ?_
  rintro _ τ2 ⟨rfl, hIV⟩
  refine r_icmp_eq (t := 1025) (q := 1023) dL_law_1020 (by decide) rfl (fun c1020 => ?_) (fun c1020 => absurd rfl c1020)
  exact K τ2 hIV
theorem sw23 (x : Int32) : x = nI 0 ∨ x = nI 1 ∨ x = nI 2 ∨ x = nI 3 ∨ x = nI 4 ∨ x = nI 5 ∨ x = nI 6 ∨ x = nI 7 ∨ x = nI 8 ∨ x = nI 9 ∨ x = nI 10 ∨ x = nI 11 ∨ x = nI 12 ∨ x = nI 13 ∨ x = nI 14 ∨ x = nI 15 ∨ x = nI 16 ∨ x = nI 17 ∨ x = nI 18 ∨ x = nI 19 ∨ x = nI 20 ∨ x = nI 21 ∨ x = nI 22 ∨ (x.toInt < 0 ∨ 22 < x.toInt) := by
  by_cases h : ix x 23 = 0
  · refine Or.inr (Or.inr (Or.inr (Or.inr (Or.inr (Or.inr (Or.inr (Or.inr (Or.inr (Or.inr (Or.inr (Or.inr (Or.inr (Or.inr (Or.inr (Or.inr (Or.inr (Or.inr (Or.inr (Or.inr (Or.inr (Or.inr (Or.inr ?_))))))))))))))))))))))
    unfold ix at h
    split at h
    · omega
    · omega
  · obtain ⟨j, hj, rfl⟩ := ix_of h
    rcases (show j = 0 ∨ j = 1 ∨ j = 2 ∨ j = 3 ∨ j = 4 ∨ j = 5 ∨ j = 6 ∨ j = 7 ∨ j = 8 ∨ j = 9 ∨ j = 10 ∨ j = 11 ∨ j = 12 ∨ j = 13 ∨ j = 14 ∨ j = 15 ∨ j = 16 ∨ j = 17 ∨ j = 18 ∨ j = 19 ∨ j = 20 ∨ j = 21 ∨ j = 22 by omega) with rfl | rfl | rfl | rfl | rfl | rfl | rfl | rfl | rfl | rfl | rfl | rfl | rfl | rfl | rfl | rfl | rfl | rfl | rfl | rfl | rfl | rfl | rfl <;> simp
theorem law_go {n i : Nat} (hn : n ≤ 4096) (hi : i ≤ 5000) (h : ¬ nI n - nI 8 < nI i) : i + 8 ≤ n := by
  rw [Int32.lt_iff_toInt_lt, pk_sub_toInt (by omega) (by decide), nI_toInt (by omega)] at h
  omega
set_option maxRecDepth 100000 in
set_option maxHeartbeats 4000000 in
theorem l_law {n : Nat} {xs : Nat → Int32} (hn : n ≤ 4096) : ∀ (m i : Nat) (σ : St), n ≤ i + m → i ≤ 5000 → IV σ → Rn LAY (some (n, xs)) RL cL_law 4 10 398 18 [some (.ref 1000), some (.ref 0), some (.ref 33), some (.int (nI i))] [] σ (EI (fun v _ => v = nI 1)) := by
  intro m
  induction m with
  | zero =>
    intro i σ hm hi hIV
    refine r_iload_n (q := 19) dL_law_18 rfl rfl ?_
    refine r_aload_n (q := 20) dL_law_19 rfl rfl ?_
    refine r_slen (q := 21) dL_law_20 rfl ?_
    refine r_bipush (q := 23) (v := nI 8) dL_law_21 rfl (by decide) ?_
    refine r_isub (q := 24) dL_law_23 rfl ?_
    refine r_icmp_gt (t := 1031) (q := 27) dL_law_24 (by decide) rfl (fun c24 => ?_) (fun c24 => absurd (law_go hn hi c24) (by omega))
    refine r_iconst (q := 1032) (v := nI 1) dL_law_1031 rfl (by decide) ?_
    exact r_retI dL_law_1032 rfl
  | succ m ih =>
    intro i σ hm hi hIV
    refine r_iload_n (q := 19) dL_law_18 rfl rfl ?_
    refine r_aload_n (q := 20) dL_law_19 rfl rfl ?_
    refine r_slen (q := 21) dL_law_20 rfl ?_
    refine r_bipush (q := 23) (v := nI 8) dL_law_21 rfl (by decide) ?_
    refine r_isub (q := 24) dL_law_23 rfl ?_
    refine r_icmp_gt (t := 1031) (q := 27) dL_law_24 (by decide) rfl (fun c24 => ?_) (fun c24 => ?_)
    · refine r_iconst (q := 1032) (v := nI 1) dL_law_1031 rfl (by decide) ?_
      exact r_retI dL_law_1032 rfl
    · have hi8 := law_go hn hi c24
      have K : ∀ τ, IV τ → Rn LAY (some (n, xs)) RL cL_law 4 10 398 1025 [some (.ref 1000), some (.ref 0), some (.ref 33), some (.int (nI i))] [] τ (EI (fun v _ => v = nI 1)) := fun τ hτ => by
        refine r_iinc (q := 1028) (v := nI (i + 8)) dL_law_1025 rfl rfl (by rw [show Int32.ofInt 8 = nI 8 from rfl]; exact nI_add _ _) ?_
        refine r_goto (q := 18) dL_law_1028 (by decide) ?_
        exact ih (i + 8) τ (by omega) (by omega) hτ
      refine r_aload_n (q := 28) dL_law_27 rfl rfl ?_
      refine r_iload_n (q := 29) dL_law_28 rfl rfl ?_
      refine r_sld (q := 30) dL_law_29 rfl (by omega) (by omega) ?_
      refine r_bipush (q := 32) (v := nI 31) dL_law_30 rfl (by decide) ?_
      refine r_iand (q := 33) dL_law_32 rfl ?_
      generalize xs i &&& nI 31 = x
      rcases sw23 x with rfl | rfl | rfl | rfl | rfl | rfl | rfl | rfl | rfl | rfl | rfl | rfl | rfl | rfl | rfl | rfl | rfl | rfl | rfl | rfl | rfl | rfl | rfl | hsw
      · refine r_tableIn (q := 140) dL_law_33 (by decide) (by decide) rfl (by decide) ?_
        exact lc_minute hn hi8 hIV K
      · refine r_tableIn (q := 193) dL_law_33 (by decide) (by decide) rfl (by decide) ?_
        exact lc_block hn hi8 hIV K
      · refine r_tableIn (q := 280) dL_law_33 (by decide) (by decide) rfl (by decide) ?_
        exact lc_share hn hi8 hIV K
      · refine r_tableIn (q := 323) dL_law_33 (by decide) (by decide) rfl (by decide) ?_
        exact lc_most hn hi8 hIV K
      · refine r_tableIn (q := 356) dL_law_33 (by decide) (by decide) rfl (by decide) ?_
        exact lc_cut hn hi8 hIV K
      · refine r_tableIn (q := 389) dL_law_33 (by decide) (by decide) rfl (by decide) ?_
        exact lc_build hn hi8 hIV K
      · refine r_tableIn (q := 412) dL_law_33 (by decide) (by decide) rfl (by decide) ?_
        exact lc_go hn hi8 hIV K
      · refine r_tableIn (q := 435) dL_law_33 (by decide) (by decide) rfl (by decide) ?_
        exact lc_window hn hi8 hIV K
      · refine r_tableIn (q := 510) dL_law_33 (by decide) (by decide) rfl (by decide) ?_
        exact lc_part hn hi8 hIV K
      · refine r_tableIn (q := 533) dL_law_33 (by decide) (by decide) rfl (by decide) ?_
        exact lc_law hn hi8 hIV K
      · refine r_tableIn (q := 566) dL_law_33 (by decide) (by decide) rfl (by decide) ?_
        exact lc_sun hn hi8 hIV K
      · refine r_tableIn (q := 609) dL_law_33 (by decide) (by decide) rfl (by decide) ?_
        exact lc_light hn hi8 hIV K
      · refine r_tableIn (q := 662) dL_law_33 (by decide) (by decide) rfl (by decide) ?_
        exact lc_taker hn hi8 hIV K
      · refine r_tableIn (q := 715) dL_law_33 (by decide) (by decide) rfl (by decide) ?_
        exact lc_takes hn hi8 hIV K
      · refine r_tableIn (q := 758) dL_law_33 (by decide) (by decide) rfl (by decide) ?_
        exact lc_hours hn hi8 hIV K
      · refine r_tableIn (q := 791) dL_law_33 (by decide) (by decide) rfl (by decide) ?_
        exact lc_loss hn hi8 hIV K
      · refine r_tableIn (q := 834) dL_law_33 (by decide) (by decide) rfl (by decide) ?_
        exact lc_high hn hi8 hIV K
      · refine r_tableIn (q := 857) dL_law_33 (by decide) (by decide) rfl (by decide) ?_
        exact lc_breach hn hi8 hIV K
      · refine r_tableIn (q := 890) dL_law_33 (by decide) (by decide) rfl (by decide) ?_
        exact lc_years hn hi8 hIV K
      · refine r_tableIn (q := 913) dL_law_33 (by decide) (by decide) rfl (by decide) ?_
        exact lc_release hn hi8 hIV K
      · refine r_tableIn (q := 936) dL_law_33 (by decide) (by decide) rfl (by decide) ?_
        exact lc_blockOf hn hi8 hIV K
      · refine r_tableIn (q := 969) dL_law_33 (by decide) (by decide) rfl (by decide) ?_
        exact lc_windowOf hn hi8 hIV K
      · refine r_tableIn (q := 1002) dL_law_33 (by decide) (by decide) rfl (by decide) ?_
        exact lc_count hn hi8 hIV K
      · refine r_tableOut (q := 1025) dL_law_33 hsw (by decide) ?_
        exact K _ hIV
end
