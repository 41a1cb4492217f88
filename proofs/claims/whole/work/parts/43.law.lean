/-! ===== the law's loop ===== -/
/-- the script: a row of Ln ints that nobody writes, at the place 100 -/
def SX (E : Ev) (Γ : Cx) (Ln : Nat) (xs : Nat → Int32) : Prop := va_X (e_ad E 100) Ln xs (g_s Γ) (g_s Γ).heap ∧ e_ad E 100 < (g_s Γ).heap.size ∧ ¬ g_A Γ (e_ad E 100)
section LawRows
variable {E : Ev} {Γ : Cx} {cc : ByteArray} {nL : Nat} {own : String} {d pc : Nat} {L S : List Value} {μ : Mem}
theorem cw_slen {Ln : Nat} {xs : Nat → Int32} (hd : decode cc pc = .ok (.arraylength, 1)) (hX : SX E Γ Ln xs) (k : CW E Γ cc nL own d (pc + 1) L (.int (nI Ln) :: S) μ) : CW E Γ cc nL own d pc L (.ref 100 :: S) μ :=
  fun C H locs ls hP hS hl => va_slen C.1 C.2.1 hX.1 hX.2.1 hX.2.2 hS hd (k C H locs ls hP hS hl)
theorem cw_sld {Ln jn : Nat} {xs : Nat → Int32} {j : Int32} (hd : decode cc pc = .ok (.iaload, 1)) (hX : SX E Γ Ln xs) (hL : Ln ≤ 2048) (hj : j = nI jn) (hlt : jn < Ln) (k : CW E Γ cc nL own d (pc + 1) L (.int (xs jn) :: S) μ) : CW E Γ cc nL own d pc L (.int j :: .ref 100 :: S) μ := by
  subst hj
  intro C H locs ls hP hS hl
  refine va_sld C.1 C.2.1 hX.1 hX.2.1 hX.2.2 hS (vp_in_nI hlt (by omega)) hd ?_
  rw [nI_clamp (by omega)]
  exact k C H locs ls hP hS hl
end LawRows
set_option maxHeartbeats 20000000 in
set_option maxRecDepth 100000 in
theorem law_loop {E : Ev} {Γ : Cx} {Ln : Nat} {xs : Nat → Int32} (hL : Ln ≤ 2048) (hX : SX E Γ Ln xs) (hend : ∀ (L : List Value) (μ : Mem), CW E Γ cL_law 4 RL 100 1200 L [] μ) : ∀ (t : Nat) (a : Unit) (μ : Mem), t ≤ Ln / 4 → GI μ → CW E Γ cL_law 4 RL 100 18 [.ref 100, .ref 0, .ref 67, .int (nI (4 * t))] [] μ := by
  refine cw_for (σ := Unit) (Ln / 4) (fun _ _ m => GI m) (fun t _ => [.ref 100, .ref 0, .ref 67, .int (nI (4 * t))]) ?_ ?_
  · rintro ⟨⟩ m hG
    refine cw_iload_n (pc := 18) dL_law_18 rfl rfl <|
      cw_aload_n (pc := 19) dL_law_19 rfl rfl <|
      cw_slen (pc := 20) dL_law_20 hX <|
      cw_iconst (v := 4) (pc := 21) dL_law_21 (by decide) <|
      cw_isub (pc := 22) dL_law_22 <|
      cw_icmp_gt_T (tgt := 1200) (pc := 23) dL_law_23 (by decide) (by rw [Int32.lt_iff_toInt_lt, show (4 : Int32) = nI 4 from rfl, pk_sub_toInt (by omega) (by decide), nI_toInt (by omega)]; omega) <|
      ?_
    exact hend _ _
  · rintro t ⟨⟩ μ ht ⟨⟨n, code, mk, hI, hR⟩, hW, hIm, hT⟩ ih
    have hgt : ¬ nI Ln - 4 < nI (4 * t) := by
      rw [Int32.lt_iff_toInt_lt, show (4 : Int32) = nI 4 from rfl, pk_sub_toInt (by omega) (by decide), nI_toInt (by omega)]; omega
    have hnx : nI (4 * t) + 4 = nI (4 * (t + 1)) := nx_add (b := 4) rfl rfl
    by_cases k0 : xs (4 * t) &&& 63 = 0
    · refine cw_iload_n (pc := 18) dL_law_18 rfl rfl <|
        cw_aload_n (pc := 19) dL_law_19 rfl rfl <|
        cw_slen (pc := 20) dL_law_20 hX <|
        cw_iconst (v := 4) (pc := 21) dL_law_21 (by decide) <|
        cw_isub (pc := 22) dL_law_22 <|
        cw_icmp_gt_F (tgt := 1200) (pc := 23) dL_law_23 (by decide) hgt <|
        cw_aload_n (pc := 26) dL_law_26 rfl rfl <|
        cw_iload_n (pc := 27) dL_law_27 rfl rfl <|
        cw_sld (jn := (4 * t)) (pc := 28) dL_law_28 hX hL rfl (by omega) <|
        cw_bipush (v := 63) (pc := 29) dL_law_29 (by decide) <|
        cw_iand (pc := 31) dL_law_31 <|
        cw_tabI (v := 0) (tgt := 184) (pc := 32) dL_law_32 (by rw [k0]; rfl) (by decide) (by decide) rfl (by decide) <|
        cw_aload_n (pc := 184) dL_law_184 rfl rfl <|
        cw_aload_n (pc := 185) dL_law_185 rfl rfl <|
        cw_iload_n (pc := 186) dL_law_186 rfl rfl <|
        cw_iconst (v := 1) (pc := 187) dL_law_187 (by decide) <|
        cw_iadd (pc := 188) dL_law_188 <|
        cw_sld (jn := ((4 * t) + 1)) (pc := 189) dL_law_189 hX hL (nx_add rfl rfl) (by omega) <|
        cw_invP (q := 0) (pc := 190) dL_law_190 (c_X8_feed hI hR) rfl vL_13 sh_0 (by decide) rfl rfl rfl (by decide) <|
        ?_
      rintro _ m1 ⟨⟨rfl, r1⟩, s1⟩
      have e1 := PB68 s1
      refine cw_aload_n (pc := 193) dL_law_193 rfl rfl <|
        cw_aload_n (pc := 194) dL_law_194 rfl rfl <|
        cw_iload_n (pc := 195) dL_law_195 rfl rfl <|
        cw_iconst (v := 1) (pc := 196) dL_law_196 (by decide) <|
        cw_iadd (pc := 197) dL_law_197 <|
        cw_sld (jn := ((4 * t) + 1)) (pc := 198) dL_law_198 hX hL (nx_add rfl rfl) (by omega) <|
        cw_invP (q := 67) (pc := 199) dL_law_199 (c_X9_feed e1 hI) rfl vL_17 sh_67 (by decide) rfl rfl rfl (by decide) <|
        ?_
      rintro _ m2 ⟨rfl, e2, s2⟩
      refine cw_icmp_eq_T (tgt := 1194) (pc := 202) dL_law_202 (by decide) rfl <|
        cw_iincL (L' := [_, _, _, _]) (c := 4) (pc := 1194) dL_law_1194 rfl (by decide) (by decide) rfl rfl <|
        ?_
      rw [hnx]
      refine cw_goto (tgt := 18) (pc := 1197) dL_law_1197 (by decide) <|
        ?_
      exact ih () m2 (gi_step hW hIm hT s1 s2 (by rw [e2]; exact r1) (by rw [e2]; exact feed_inv hI _))
    by_cases k1 : xs (4 * t) &&& 63 = 1
    · refine cw_iload_n (pc := 18) dL_law_18 rfl rfl <|
        cw_aload_n (pc := 19) dL_law_19 rfl rfl <|
        cw_slen (pc := 20) dL_law_20 hX <|
        cw_iconst (v := 4) (pc := 21) dL_law_21 (by decide) <|
        cw_isub (pc := 22) dL_law_22 <|
        cw_icmp_gt_F (tgt := 1200) (pc := 23) dL_law_23 (by decide) hgt <|
        cw_aload_n (pc := 26) dL_law_26 rfl rfl <|
        cw_iload_n (pc := 27) dL_law_27 rfl rfl <|
        cw_sld (jn := (4 * t)) (pc := 28) dL_law_28 hX hL rfl (by omega) <|
        cw_bipush (v := 63) (pc := 29) dL_law_29 (by decide) <|
        cw_iand (pc := 31) dL_law_31 <|
        cw_tabI (v := 1) (tgt := 207) (pc := 32) dL_law_32 (by rw [k1]; rfl) (by decide) (by decide) rfl (by decide) <|
        cw_aload_n (pc := 207) dL_law_207 rfl rfl <|
        cw_invP (q := 0) (pc := 208) dL_law_208 (c_X8_parish hI hR) rfl vL_18 sh_0 (by decide) rfl rfl rfl (by decide) <|
        ?_
      rintro _ m1 ⟨rfl, r1, s1⟩
      have e1 := PB68 s1
      refine cw_aload_n (pc := 211) dL_law_211 rfl rfl <|
        cw_invP (q := 67) (pc := 212) dL_law_212 (c_X9_parish e1 hI) rfl vL_22 sh_67 (by decide) rfl rfl rfl (by decide) <|
        ?_
      rintro _ m2 ⟨rfl, p2, s2⟩
      have pv := parish_inv hI p2
      refine cw_icmp_eq_T (tgt := 1194) (pc := 215) dL_law_215 (by decide) rfl <|
        cw_iincL (L' := [_, _, _, _]) (c := 4) (pc := 1194) dL_law_1194 rfl (by decide) (by decide) rfl rfl <|
        ?_
      rw [hnx]
      refine cw_goto (tgt := 18) (pc := 1197) dL_law_1197 (by decide) <|
        ?_
      exact ih () m2 (gi_step hW hIm hT s1 s2 (r1.cg pv.2) pv.1)
    by_cases k2 : xs (4 * t) &&& 63 = 2
    · refine cw_iload_n (pc := 18) dL_law_18 rfl rfl <|
        cw_aload_n (pc := 19) dL_law_19 rfl rfl <|
        cw_slen (pc := 20) dL_law_20 hX <|
        cw_iconst (v := 4) (pc := 21) dL_law_21 (by decide) <|
        cw_isub (pc := 22) dL_law_22 <|
        cw_icmp_gt_F (tgt := 1200) (pc := 23) dL_law_23 (by decide) hgt <|
        cw_aload_n (pc := 26) dL_law_26 rfl rfl <|
        cw_iload_n (pc := 27) dL_law_27 rfl rfl <|
        cw_sld (jn := (4 * t)) (pc := 28) dL_law_28 hX hL rfl (by omega) <|
        cw_bipush (v := 63) (pc := 29) dL_law_29 (by decide) <|
        cw_iand (pc := 31) dL_law_31 <|
        cw_tabI (v := 2) (tgt := 220) (pc := 32) dL_law_32 (by rw [k2]; rfl) (by decide) (by decide) rfl (by decide) <|
        cw_aload_n (pc := 220) dL_law_220 rfl rfl <|
        cw_aload_n (pc := 221) dL_law_221 rfl rfl <|
        cw_iload_n (pc := 222) dL_law_222 rfl rfl <|
        cw_iconst (v := 1) (pc := 223) dL_law_223 (by decide) <|
        cw_iadd (pc := 224) dL_law_224 <|
        cw_sld (jn := ((4 * t) + 1)) (pc := 225) dL_law_225 hX hL (nx_add rfl rfl) (by omega) <|
        cw_aload_n (pc := 226) dL_law_226 rfl rfl <|
        cw_iload_n (pc := 227) dL_law_227 rfl rfl <|
        cw_iconst (v := 2) (pc := 228) dL_law_228 (by decide) <|
        cw_iadd (pc := 229) dL_law_229 <|
        cw_sld (jn := ((4 * t) + 2)) (pc := 230) dL_law_230 hX hL (nx_add rfl rfl) (by omega) <|
        cw_aload_n (pc := 231) dL_law_231 rfl rfl <|
        cw_iload_n (pc := 232) dL_law_232 rfl rfl <|
        cw_iconst (v := 3) (pc := 233) dL_law_233 (by decide) <|
        cw_iadd (pc := 234) dL_law_234 <|
        cw_sld (jn := ((4 * t) + 3)) (pc := 235) dL_law_235 hX hL (nx_add rfl rfl) (by omega) <|
        cw_invP (q := 0) (pc := 236) dL_law_236 (c_X8_man hI hR) rfl vL_23 sh_0 (by decide) rfl rfl rfl (by decide) <|
        ?_
      rintro _ m1 ⟨⟨rfl, r1⟩, s1⟩
      have e1 := PB68 s1
      refine cw_aload_n (pc := 239) dL_law_239 rfl rfl <|
        cw_aload_n (pc := 240) dL_law_240 rfl rfl <|
        cw_iload_n (pc := 241) dL_law_241 rfl rfl <|
        cw_iconst (v := 1) (pc := 242) dL_law_242 (by decide) <|
        cw_iadd (pc := 243) dL_law_243 <|
        cw_sld (jn := ((4 * t) + 1)) (pc := 244) dL_law_244 hX hL (nx_add rfl rfl) (by omega) <|
        cw_aload_n (pc := 245) dL_law_245 rfl rfl <|
        cw_iload_n (pc := 246) dL_law_246 rfl rfl <|
        cw_iconst (v := 2) (pc := 247) dL_law_247 (by decide) <|
        cw_iadd (pc := 248) dL_law_248 <|
        cw_sld (jn := ((4 * t) + 2)) (pc := 249) dL_law_249 hX hL (nx_add rfl rfl) (by omega) <|
        cw_aload_n (pc := 250) dL_law_250 rfl rfl <|
        cw_iload_n (pc := 251) dL_law_251 rfl rfl <|
        cw_iconst (v := 3) (pc := 252) dL_law_252 (by decide) <|
        cw_iadd (pc := 253) dL_law_253 <|
        cw_sld (jn := ((4 * t) + 3)) (pc := 254) dL_law_254 hX hL (nx_add rfl rfl) (by omega) <|
        cw_invP (q := 67) (pc := 255) dL_law_255 (c_X9_man e1 hI) rfl vL_27 sh_67 (by decide) rfl rfl rfl (by decide) <|
        ?_
      rintro _ m2 ⟨rfl, e2, s2⟩
      refine cw_icmp_eq_T (tgt := 1194) (pc := 258) dL_law_258 (by decide) rfl <|
        cw_iincL (L' := [_, _, _, _]) (c := 4) (pc := 1194) dL_law_1194 rfl (by decide) (by decide) rfl rfl <|
        ?_
      rw [hnx]
      refine cw_goto (tgt := 18) (pc := 1197) dL_law_1197 (by decide) <|
        ?_
      obtain ⟨n', hI'⟩ := man_inv hI _ _ _
      exact ih () m2 (gi_step hW hIm hT s1 s2 (by rw [e2]; exact r1) (by rw [e2]; exact hI'))
    by_cases k3 : xs (4 * t) &&& 63 = 3
    · refine cw_iload_n (pc := 18) dL_law_18 rfl rfl <|
        cw_aload_n (pc := 19) dL_law_19 rfl rfl <|
        cw_slen (pc := 20) dL_law_20 hX <|
        cw_iconst (v := 4) (pc := 21) dL_law_21 (by decide) <|
        cw_isub (pc := 22) dL_law_22 <|
        cw_icmp_gt_F (tgt := 1200) (pc := 23) dL_law_23 (by decide) hgt <|
        cw_aload_n (pc := 26) dL_law_26 rfl rfl <|
        cw_iload_n (pc := 27) dL_law_27 rfl rfl <|
        cw_sld (jn := (4 * t)) (pc := 28) dL_law_28 hX hL rfl (by omega) <|
        cw_bipush (v := 63) (pc := 29) dL_law_29 (by decide) <|
        cw_iand (pc := 31) dL_law_31 <|
        cw_tabI (v := 3) (tgt := 263) (pc := 32) dL_law_32 (by rw [k3]; rfl) (by decide) (by decide) rfl (by decide) <|
        cw_aload_n (pc := 263) dL_law_263 rfl rfl <|
        cw_aload_n (pc := 264) dL_law_264 rfl rfl <|
        cw_iload_n (pc := 265) dL_law_265 rfl rfl <|
        cw_iconst (v := 1) (pc := 266) dL_law_266 (by decide) <|
        cw_iadd (pc := 267) dL_law_267 <|
        cw_sld (jn := ((4 * t) + 1)) (pc := 268) dL_law_268 hX hL (nx_add rfl rfl) (by omega) <|
        cw_aload_n (pc := 269) dL_law_269 rfl rfl <|
        cw_iload_n (pc := 270) dL_law_270 rfl rfl <|
        cw_iconst (v := 2) (pc := 271) dL_law_271 (by decide) <|
        cw_iadd (pc := 272) dL_law_272 <|
        cw_sld (jn := ((4 * t) + 2)) (pc := 273) dL_law_273 hX hL (nx_add rfl rfl) (by omega) <|
        cw_invP (q := 0) (pc := 274) dL_law_274 (c_X8_of hI hR) rfl vL_28 sh_0 (by decide) rfl rfl rfl (by decide) <|
        ?_
      rintro _ m1 ⟨rfl, s1⟩
      have e1 := SC68 s1
      refine cw_aload_n (pc := 277) dL_law_277 rfl rfl <|
        cw_aload_n (pc := 278) dL_law_278 rfl rfl <|
        cw_iload_n (pc := 279) dL_law_279 rfl rfl <|
        cw_iconst (v := 1) (pc := 280) dL_law_280 (by decide) <|
        cw_iadd (pc := 281) dL_law_281 <|
        cw_sld (jn := ((4 * t) + 1)) (pc := 282) dL_law_282 hX hL (nx_add rfl rfl) (by omega) <|
        cw_aload_n (pc := 283) dL_law_283 rfl rfl <|
        cw_iload_n (pc := 284) dL_law_284 rfl rfl <|
        cw_iconst (v := 2) (pc := 285) dL_law_285 (by decide) <|
        cw_iadd (pc := 286) dL_law_286 <|
        cw_sld (jn := ((4 * t) + 2)) (pc := 287) dL_law_287 hX hL (nx_add rfl rfl) (by omega) <|
        cw_invP (q := 67) (pc := 288) dL_law_288 (c_X9_of e1 hI) rfl vL_32 sh_67 (by decide) rfl rfl rfl (by decide) <|
        ?_
      rintro _ m2 ⟨rfl, s2⟩
      refine cw_icmp_eq_T (tgt := 1194) (pc := 291) dL_law_291 (by decide) rfl <|
        cw_iincL (L' := [_, _, _, _]) (c := 4) (pc := 1194) dL_law_1194 rfl (by decide) (by decide) rfl rfl <|
        ?_
      rw [hnx]
      refine cw_goto (tgt := 18) (pc := 1197) dL_law_1197 (by decide) <|
        ?_
      exact ih () m2 (gi_q hW hIm hT hI hR s1 s2)
    by_cases k4 : xs (4 * t) &&& 63 = 4
    · refine cw_iload_n (pc := 18) dL_law_18 rfl rfl <|
        cw_aload_n (pc := 19) dL_law_19 rfl rfl <|
        cw_slen (pc := 20) dL_law_20 hX <|
        cw_iconst (v := 4) (pc := 21) dL_law_21 (by decide) <|
        cw_isub (pc := 22) dL_law_22 <|
        cw_icmp_gt_F (tgt := 1200) (pc := 23) dL_law_23 (by decide) hgt <|
        cw_aload_n (pc := 26) dL_law_26 rfl rfl <|
        cw_iload_n (pc := 27) dL_law_27 rfl rfl <|
        cw_sld (jn := (4 * t)) (pc := 28) dL_law_28 hX hL rfl (by omega) <|
        cw_bipush (v := 63) (pc := 29) dL_law_29 (by decide) <|
        cw_iand (pc := 31) dL_law_31 <|
        cw_tabI (v := 4) (tgt := 296) (pc := 32) dL_law_32 (by rw [k4]; rfl) (by decide) (by decide) rfl (by decide) <|
        cw_aload_n (pc := 296) dL_law_296 rfl rfl <|
        cw_aload_n (pc := 297) dL_law_297 rfl rfl <|
        cw_iload_n (pc := 298) dL_law_298 rfl rfl <|
        cw_iconst (v := 1) (pc := 299) dL_law_299 (by decide) <|
        cw_iadd (pc := 300) dL_law_300 <|
        cw_sld (jn := ((4 * t) + 1)) (pc := 301) dL_law_301 hX hL (nx_add rfl rfl) (by omega) <|
        cw_aload_n (pc := 302) dL_law_302 rfl rfl <|
        cw_iload_n (pc := 303) dL_law_303 rfl rfl <|
        cw_iconst (v := 2) (pc := 304) dL_law_304 (by decide) <|
        cw_iadd (pc := 305) dL_law_305 <|
        cw_sld (jn := ((4 * t) + 2)) (pc := 306) dL_law_306 hX hL (nx_add rfl rfl) (by omega) <|
        cw_aload_n (pc := 307) dL_law_307 rfl rfl <|
        cw_iload_n (pc := 308) dL_law_308 rfl rfl <|
        cw_iconst (v := 3) (pc := 309) dL_law_309 (by decide) <|
        cw_iadd (pc := 310) dL_law_310 <|
        cw_sld (jn := ((4 * t) + 3)) (pc := 311) dL_law_311 hX hL (nx_add rfl rfl) (by omega) <|
        cw_invP (q := 0) (pc := 312) dL_law_312 (c_X8_row hI hR) rfl vL_33 sh_0 (by decide) rfl rfl rfl (by decide) <|
        ?_
      rintro _ m1 ⟨⟨rfl, r1⟩, s1⟩
      have e1 := PB68 s1
      refine cw_aload_n (pc := 315) dL_law_315 rfl rfl <|
        cw_aload_n (pc := 316) dL_law_316 rfl rfl <|
        cw_iload_n (pc := 317) dL_law_317 rfl rfl <|
        cw_iconst (v := 1) (pc := 318) dL_law_318 (by decide) <|
        cw_iadd (pc := 319) dL_law_319 <|
        cw_sld (jn := ((4 * t) + 1)) (pc := 320) dL_law_320 hX hL (nx_add rfl rfl) (by omega) <|
        cw_aload_n (pc := 321) dL_law_321 rfl rfl <|
        cw_iload_n (pc := 322) dL_law_322 rfl rfl <|
        cw_iconst (v := 2) (pc := 323) dL_law_323 (by decide) <|
        cw_iadd (pc := 324) dL_law_324 <|
        cw_sld (jn := ((4 * t) + 2)) (pc := 325) dL_law_325 hX hL (nx_add rfl rfl) (by omega) <|
        cw_aload_n (pc := 326) dL_law_326 rfl rfl <|
        cw_iload_n (pc := 327) dL_law_327 rfl rfl <|
        cw_iconst (v := 3) (pc := 328) dL_law_328 (by decide) <|
        cw_iadd (pc := 329) dL_law_329 <|
        cw_sld (jn := ((4 * t) + 3)) (pc := 330) dL_law_330 hX hL (nx_add rfl rfl) (by omega) <|
        cw_invP (q := 67) (pc := 331) dL_law_331 (c_X9_row e1 hI) rfl vL_36 sh_67 (by decide) rfl rfl rfl (by decide) <|
        ?_
      rintro _ m2 ⟨rfl, e2, s2⟩
      refine cw_icmp_eq_T (tgt := 1194) (pc := 334) dL_law_334 (by decide) rfl <|
        cw_iincL (L' := [_, _, _, _]) (c := 4) (pc := 1194) dL_law_1194 rfl (by decide) (by decide) rfl rfl <|
        ?_
      rw [hnx]
      refine cw_goto (tgt := 18) (pc := 1197) dL_law_1197 (by decide) <|
        ?_
      exact ih () m2 (gi_step hW hIm hT s1 s2 (by rw [e2]; exact r1) (by rw [e2]; exact row_inv hI _ _ _))
    by_cases k5 : xs (4 * t) &&& 63 = 5
    · refine cw_iload_n (pc := 18) dL_law_18 rfl rfl <|
        cw_aload_n (pc := 19) dL_law_19 rfl rfl <|
        cw_slen (pc := 20) dL_law_20 hX <|
        cw_iconst (v := 4) (pc := 21) dL_law_21 (by decide) <|
        cw_isub (pc := 22) dL_law_22 <|
        cw_icmp_gt_F (tgt := 1200) (pc := 23) dL_law_23 (by decide) hgt <|
        cw_aload_n (pc := 26) dL_law_26 rfl rfl <|
        cw_iload_n (pc := 27) dL_law_27 rfl rfl <|
        cw_sld (jn := (4 * t)) (pc := 28) dL_law_28 hX hL rfl (by omega) <|
        cw_bipush (v := 63) (pc := 29) dL_law_29 (by decide) <|
        cw_iand (pc := 31) dL_law_31 <|
        cw_tabI (v := 5) (tgt := 339) (pc := 32) dL_law_32 (by rw [k5]; rfl) (by decide) (by decide) rfl (by decide) <|
        cw_aload_n (pc := 339) dL_law_339 rfl rfl <|
        cw_aload_n (pc := 340) dL_law_340 rfl rfl <|
        cw_iload_n (pc := 341) dL_law_341 rfl rfl <|
        cw_iconst (v := 1) (pc := 342) dL_law_342 (by decide) <|
        cw_iadd (pc := 343) dL_law_343 <|
        cw_sld (jn := ((4 * t) + 1)) (pc := 344) dL_law_344 hX hL (nx_add rfl rfl) (by omega) <|
        cw_aload_n (pc := 345) dL_law_345 rfl rfl <|
        cw_iload_n (pc := 346) dL_law_346 rfl rfl <|
        cw_iconst (v := 2) (pc := 347) dL_law_347 (by decide) <|
        cw_iadd (pc := 348) dL_law_348 <|
        cw_sld (jn := ((4 * t) + 2)) (pc := 349) dL_law_349 hX hL (nx_add rfl rfl) (by omega) <|
        cw_invP (q := 0) (pc := 350) dL_law_350 (c_X8_peg hI hR) rfl vL_37 sh_0 (by decide) rfl rfl rfl (by decide) <|
        ?_
      rintro _ m1 ⟨⟨rfl, r1⟩, s1⟩
      have e1 := PB68 s1
      refine cw_aload_n (pc := 353) dL_law_353 rfl rfl <|
        cw_aload_n (pc := 354) dL_law_354 rfl rfl <|
        cw_iload_n (pc := 355) dL_law_355 rfl rfl <|
        cw_iconst (v := 1) (pc := 356) dL_law_356 (by decide) <|
        cw_iadd (pc := 357) dL_law_357 <|
        cw_sld (jn := ((4 * t) + 1)) (pc := 358) dL_law_358 hX hL (nx_add rfl rfl) (by omega) <|
        cw_aload_n (pc := 359) dL_law_359 rfl rfl <|
        cw_iload_n (pc := 360) dL_law_360 rfl rfl <|
        cw_iconst (v := 2) (pc := 361) dL_law_361 (by decide) <|
        cw_iadd (pc := 362) dL_law_362 <|
        cw_sld (jn := ((4 * t) + 2)) (pc := 363) dL_law_363 hX hL (nx_add rfl rfl) (by omega) <|
        cw_invP (q := 67) (pc := 364) dL_law_364 (c_X9_peg e1 hI) rfl vL_40 sh_67 (by decide) rfl rfl rfl (by decide) <|
        ?_
      rintro _ m2 ⟨rfl, e2, s2⟩
      refine cw_icmp_eq_T (tgt := 1194) (pc := 367) dL_law_367 (by decide) rfl <|
        cw_iincL (L' := [_, _, _, _]) (c := 4) (pc := 1194) dL_law_1194 rfl (by decide) (by decide) rfl rfl <|
        ?_
      rw [hnx]
      refine cw_goto (tgt := 18) (pc := 1197) dL_law_1197 (by decide) <|
        ?_
      exact ih () m2 (gi_step hW hIm hT s1 s2 (by rw [e2]; exact r1) (by rw [e2]; exact peg_inv hI _ _))
    by_cases k6 : xs (4 * t) &&& 63 = 6
    · by_cases hz : xs (4 * t + 2) = 0
      · refine cw_iload_n (pc := 18) dL_law_18 rfl rfl <|
          cw_aload_n (pc := 19) dL_law_19 rfl rfl <|
          cw_slen (pc := 20) dL_law_20 hX <|
          cw_iconst (v := 4) (pc := 21) dL_law_21 (by decide) <|
          cw_isub (pc := 22) dL_law_22 <|
          cw_icmp_gt_F (tgt := 1200) (pc := 23) dL_law_23 (by decide) hgt <|
          cw_aload_n (pc := 26) dL_law_26 rfl rfl <|
          cw_iload_n (pc := 27) dL_law_27 rfl rfl <|
          cw_sld (jn := (4 * t)) (pc := 28) dL_law_28 hX hL rfl (by omega) <|
          cw_bipush (v := 63) (pc := 29) dL_law_29 (by decide) <|
          cw_iand (pc := 31) dL_law_31 <|
          cw_tabI (v := 6) (tgt := 372) (pc := 32) dL_law_32 (by rw [k6]; rfl) (by decide) (by decide) rfl (by decide) <|
          cw_aload_n (pc := 372) dL_law_372 rfl rfl <|
          cw_aload_n (pc := 373) dL_law_373 rfl rfl <|
          cw_iload_n (pc := 374) dL_law_374 rfl rfl <|
          cw_iconst (v := 1) (pc := 375) dL_law_375 (by decide) <|
          cw_iadd (pc := 376) dL_law_376 <|
          cw_sld (jn := ((4 * t) + 1)) (pc := 377) dL_law_377 hX hL (nx_add rfl rfl) (by omega) <|
          cw_aload_n (pc := 378) dL_law_378 rfl rfl <|
          cw_iload_n (pc := 379) dL_law_379 rfl rfl <|
          cw_iconst (v := 2) (pc := 380) dL_law_380 (by decide) <|
          cw_iadd (pc := 381) dL_law_381 <|
          cw_sld (jn := ((4 * t) + 2)) (pc := 382) dL_law_382 hX hL (nx_add rfl rfl) (by omega) <|
          cw_if_eq_T (tgt := 390) (pc := 383) dL_law_383 (by decide) hz <|
          cw_iconst (v := 0) (pc := 390) dL_law_390 (by decide) <|
          cw_invP (q := 0) (pc := 391) dL_law_391 (c_X8_away hI hR) rfl vL_41 sh_0 (by decide) rfl rfl rfl (by decide) <|
          ?_
        rintro _ m1 ⟨⟨rfl, r1⟩, s1⟩
        have e1 := PB68 s1
        refine cw_aload_n (pc := 394) dL_law_394 rfl rfl <|
          cw_aload_n (pc := 395) dL_law_395 rfl rfl <|
          cw_iload_n (pc := 396) dL_law_396 rfl rfl <|
          cw_iconst (v := 1) (pc := 397) dL_law_397 (by decide) <|
          cw_iadd (pc := 398) dL_law_398 <|
          cw_sld (jn := ((4 * t) + 1)) (pc := 399) dL_law_399 hX hL (nx_add rfl rfl) (by omega) <|
          cw_aload_n (pc := 400) dL_law_400 rfl rfl <|
          cw_iload_n (pc := 401) dL_law_401 rfl rfl <|
          cw_iconst (v := 2) (pc := 402) dL_law_402 (by decide) <|
          cw_iadd (pc := 403) dL_law_403 <|
          cw_sld (jn := ((4 * t) + 2)) (pc := 404) dL_law_404 hX hL (nx_add rfl rfl) (by omega) <|
          cw_if_eq_T (tgt := 412) (pc := 405) dL_law_405 (by decide) hz <|
          cw_iconst (v := 0) (pc := 412) dL_law_412 (by decide) <|
          cw_invP (q := 67) (pc := 413) dL_law_413 (c_X9_away e1 hI) rfl vL_45 sh_67 (by decide) rfl rfl rfl (by decide) <|
          ?_
        rintro _ m2 ⟨rfl, e2, s2⟩
        refine cw_icmp_eq_T (tgt := 1194) (pc := 416) dL_law_416 (by decide) rfl <|
          cw_iincL (L' := [_, _, _, _]) (c := 4) (pc := 1194) dL_law_1194 rfl (by decide) (by decide) rfl rfl <|
          ?_
        rw [hnx]
        refine cw_goto (tgt := 18) (pc := 1197) dL_law_1197 (by decide) <|
          ?_
        exact ih () m2 (gi_step hW hIm hT s1 s2 (by rw [e2]; exact r1) (by rw [e2]; exact away_inv hI _ _))
      · refine cw_iload_n (pc := 18) dL_law_18 rfl rfl <|
          cw_aload_n (pc := 19) dL_law_19 rfl rfl <|
          cw_slen (pc := 20) dL_law_20 hX <|
          cw_iconst (v := 4) (pc := 21) dL_law_21 (by decide) <|
          cw_isub (pc := 22) dL_law_22 <|
          cw_icmp_gt_F (tgt := 1200) (pc := 23) dL_law_23 (by decide) hgt <|
          cw_aload_n (pc := 26) dL_law_26 rfl rfl <|
          cw_iload_n (pc := 27) dL_law_27 rfl rfl <|
          cw_sld (jn := (4 * t)) (pc := 28) dL_law_28 hX hL rfl (by omega) <|
          cw_bipush (v := 63) (pc := 29) dL_law_29 (by decide) <|
          cw_iand (pc := 31) dL_law_31 <|
          cw_tabI (v := 6) (tgt := 372) (pc := 32) dL_law_32 (by rw [k6]; rfl) (by decide) (by decide) rfl (by decide) <|
          cw_aload_n (pc := 372) dL_law_372 rfl rfl <|
          cw_aload_n (pc := 373) dL_law_373 rfl rfl <|
          cw_iload_n (pc := 374) dL_law_374 rfl rfl <|
          cw_iconst (v := 1) (pc := 375) dL_law_375 (by decide) <|
          cw_iadd (pc := 376) dL_law_376 <|
          cw_sld (jn := ((4 * t) + 1)) (pc := 377) dL_law_377 hX hL (nx_add rfl rfl) (by omega) <|
          cw_aload_n (pc := 378) dL_law_378 rfl rfl <|
          cw_iload_n (pc := 379) dL_law_379 rfl rfl <|
          cw_iconst (v := 2) (pc := 380) dL_law_380 (by decide) <|
          cw_iadd (pc := 381) dL_law_381 <|
          cw_sld (jn := ((4 * t) + 2)) (pc := 382) dL_law_382 hX hL (nx_add rfl rfl) (by omega) <|
          cw_if_eq_F (tgt := 390) (pc := 383) dL_law_383 (by decide) hz <|
          cw_iconst (v := 1) (pc := 386) dL_law_386 (by decide) <|
          cw_goto (tgt := 391) (pc := 387) dL_law_387 (by decide) <|
          cw_invP (q := 0) (pc := 391) dL_law_391 (c_X8_away hI hR) rfl vL_41 sh_0 (by decide) rfl rfl rfl (by decide) <|
          ?_
        rintro _ m1 ⟨⟨rfl, r1⟩, s1⟩
        have e1 := PB68 s1
        refine cw_aload_n (pc := 394) dL_law_394 rfl rfl <|
          cw_aload_n (pc := 395) dL_law_395 rfl rfl <|
          cw_iload_n (pc := 396) dL_law_396 rfl rfl <|
          cw_iconst (v := 1) (pc := 397) dL_law_397 (by decide) <|
          cw_iadd (pc := 398) dL_law_398 <|
          cw_sld (jn := ((4 * t) + 1)) (pc := 399) dL_law_399 hX hL (nx_add rfl rfl) (by omega) <|
          cw_aload_n (pc := 400) dL_law_400 rfl rfl <|
          cw_iload_n (pc := 401) dL_law_401 rfl rfl <|
          cw_iconst (v := 2) (pc := 402) dL_law_402 (by decide) <|
          cw_iadd (pc := 403) dL_law_403 <|
          cw_sld (jn := ((4 * t) + 2)) (pc := 404) dL_law_404 hX hL (nx_add rfl rfl) (by omega) <|
          cw_if_eq_F (tgt := 412) (pc := 405) dL_law_405 (by decide) hz <|
          cw_iconst (v := 1) (pc := 408) dL_law_408 (by decide) <|
          cw_goto (tgt := 413) (pc := 409) dL_law_409 (by decide) <|
          cw_invP (q := 67) (pc := 413) dL_law_413 (c_X9_away e1 hI) rfl vL_45 sh_67 (by decide) rfl rfl rfl (by decide) <|
          ?_
        rintro _ m2 ⟨rfl, e2, s2⟩
        refine cw_icmp_eq_T (tgt := 1194) (pc := 416) dL_law_416 (by decide) rfl <|
          cw_iincL (L' := [_, _, _, _]) (c := 4) (pc := 1194) dL_law_1194 rfl (by decide) (by decide) rfl rfl <|
          ?_
        rw [hnx]
        refine cw_goto (tgt := 18) (pc := 1197) dL_law_1197 (by decide) <|
          ?_
        exact ih () m2 (gi_step hW hIm hT s1 s2 (by rw [e2]; exact r1) (by rw [e2]; exact away_inv hI _ _))
    by_cases k7 : xs (4 * t) &&& 63 = 7
    · refine cw_iload_n (pc := 18) dL_law_18 rfl rfl <|
        cw_aload_n (pc := 19) dL_law_19 rfl rfl <|
        cw_slen (pc := 20) dL_law_20 hX <|
        cw_iconst (v := 4) (pc := 21) dL_law_21 (by decide) <|
        cw_isub (pc := 22) dL_law_22 <|
        cw_icmp_gt_F (tgt := 1200) (pc := 23) dL_law_23 (by decide) hgt <|
        cw_aload_n (pc := 26) dL_law_26 rfl rfl <|
        cw_iload_n (pc := 27) dL_law_27 rfl rfl <|
        cw_sld (jn := (4 * t)) (pc := 28) dL_law_28 hX hL rfl (by omega) <|
        cw_bipush (v := 63) (pc := 29) dL_law_29 (by decide) <|
        cw_iand (pc := 31) dL_law_31 <|
        cw_tabI (v := 7) (tgt := 421) (pc := 32) dL_law_32 (by rw [k7]; rfl) (by decide) (by decide) rfl (by decide) <|
        cw_aload_n (pc := 421) dL_law_421 rfl rfl <|
        cw_aload_n (pc := 422) dL_law_422 rfl rfl <|
        cw_iload_n (pc := 423) dL_law_423 rfl rfl <|
        cw_iconst (v := 1) (pc := 424) dL_law_424 (by decide) <|
        cw_iadd (pc := 425) dL_law_425 <|
        cw_sld (jn := ((4 * t) + 1)) (pc := 426) dL_law_426 hX hL (nx_add rfl rfl) (by omega) <|
        cw_aload_n (pc := 427) dL_law_427 rfl rfl <|
        cw_iload_n (pc := 428) dL_law_428 rfl rfl <|
        cw_iconst (v := 2) (pc := 429) dL_law_429 (by decide) <|
        cw_iadd (pc := 430) dL_law_430 <|
        cw_sld (jn := ((4 * t) + 2)) (pc := 431) dL_law_431 hX hL (nx_add rfl rfl) (by omega) <|
        cw_invP (q := 0) (pc := 432) dL_law_432 (c_X8_lay hI hR) rfl vL_46 sh_0 (by decide) rfl rfl rfl (by decide) <|
        ?_
      rintro _ m1 ⟨⟨rfl, r1⟩, s1⟩
      have e1 := PB68 s1
      refine cw_aload_n (pc := 435) dL_law_435 rfl rfl <|
        cw_aload_n (pc := 436) dL_law_436 rfl rfl <|
        cw_iload_n (pc := 437) dL_law_437 rfl rfl <|
        cw_iconst (v := 1) (pc := 438) dL_law_438 (by decide) <|
        cw_iadd (pc := 439) dL_law_439 <|
        cw_sld (jn := ((4 * t) + 1)) (pc := 440) dL_law_440 hX hL (nx_add rfl rfl) (by omega) <|
        cw_aload_n (pc := 441) dL_law_441 rfl rfl <|
        cw_iload_n (pc := 442) dL_law_442 rfl rfl <|
        cw_iconst (v := 2) (pc := 443) dL_law_443 (by decide) <|
        cw_iadd (pc := 444) dL_law_444 <|
        cw_sld (jn := ((4 * t) + 2)) (pc := 445) dL_law_445 hX hL (nx_add rfl rfl) (by omega) <|
        cw_invP (q := 67) (pc := 446) dL_law_446 (c_X9_lay e1 hI) rfl vL_49 sh_67 (by decide) rfl rfl rfl (by decide) <|
        ?_
      rintro _ m2 ⟨rfl, e2, s2⟩
      refine cw_icmp_eq_T (tgt := 1194) (pc := 449) dL_law_449 (by decide) rfl <|
        cw_iincL (L' := [_, _, _, _]) (c := 4) (pc := 1194) dL_law_1194 rfl (by decide) (by decide) rfl rfl <|
        ?_
      rw [hnx]
      refine cw_goto (tgt := 18) (pc := 1197) dL_law_1197 (by decide) <|
        ?_
      exact ih () m2 (gi_step hW hIm hT s1 s2 (by rw [e2]; exact r1) (by rw [e2]; exact lay_inv hI _ _))
    by_cases k8 : xs (4 * t) &&& 63 = 8
    · refine cw_iload_n (pc := 18) dL_law_18 rfl rfl <|
        cw_aload_n (pc := 19) dL_law_19 rfl rfl <|
        cw_slen (pc := 20) dL_law_20 hX <|
        cw_iconst (v := 4) (pc := 21) dL_law_21 (by decide) <|
        cw_isub (pc := 22) dL_law_22 <|
        cw_icmp_gt_F (tgt := 1200) (pc := 23) dL_law_23 (by decide) hgt <|
        cw_aload_n (pc := 26) dL_law_26 rfl rfl <|
        cw_iload_n (pc := 27) dL_law_27 rfl rfl <|
        cw_sld (jn := (4 * t)) (pc := 28) dL_law_28 hX hL rfl (by omega) <|
        cw_bipush (v := 63) (pc := 29) dL_law_29 (by decide) <|
        cw_iand (pc := 31) dL_law_31 <|
        cw_tabI (v := 8) (tgt := 454) (pc := 32) dL_law_32 (by rw [k8]; rfl) (by decide) (by decide) rfl (by decide) <|
        cw_aload_n (pc := 454) dL_law_454 rfl rfl <|
        cw_aload_n (pc := 455) dL_law_455 rfl rfl <|
        cw_iload_n (pc := 456) dL_law_456 rfl rfl <|
        cw_iconst (v := 1) (pc := 457) dL_law_457 (by decide) <|
        cw_iadd (pc := 458) dL_law_458 <|
        cw_sld (jn := ((4 * t) + 1)) (pc := 459) dL_law_459 hX hL (nx_add rfl rfl) (by omega) <|
        cw_aload_n (pc := 460) dL_law_460 rfl rfl <|
        cw_iload_n (pc := 461) dL_law_461 rfl rfl <|
        cw_iconst (v := 2) (pc := 462) dL_law_462 (by decide) <|
        cw_iadd (pc := 463) dL_law_463 <|
        cw_sld (jn := ((4 * t) + 2)) (pc := 464) dL_law_464 hX hL (nx_add rfl rfl) (by omega) <|
        cw_invP (q := 0) (pc := 465) dL_law_465 (c_X8_plead hI hR) rfl vL_50 sh_0 (by decide) rfl rfl rfl (by decide) <|
        ?_
      rintro _ m1 ⟨⟨rfl, r1⟩, s1⟩
      have e1 := PB68 s1
      refine cw_aload_n (pc := 468) dL_law_468 rfl rfl <|
        cw_aload_n (pc := 469) dL_law_469 rfl rfl <|
        cw_iload_n (pc := 470) dL_law_470 rfl rfl <|
        cw_iconst (v := 1) (pc := 471) dL_law_471 (by decide) <|
        cw_iadd (pc := 472) dL_law_472 <|
        cw_sld (jn := ((4 * t) + 1)) (pc := 473) dL_law_473 hX hL (nx_add rfl rfl) (by omega) <|
        cw_aload_n (pc := 474) dL_law_474 rfl rfl <|
        cw_iload_n (pc := 475) dL_law_475 rfl rfl <|
        cw_iconst (v := 2) (pc := 476) dL_law_476 (by decide) <|
        cw_iadd (pc := 477) dL_law_477 <|
        cw_sld (jn := ((4 * t) + 2)) (pc := 478) dL_law_478 hX hL (nx_add rfl rfl) (by omega) <|
        cw_invP (q := 67) (pc := 479) dL_law_479 (c_X9_plead e1 hI) rfl vL_53 sh_67 (by decide) rfl rfl rfl (by decide) <|
        ?_
      rintro _ m2 ⟨rfl, e2, s2⟩
      refine cw_icmp_eq_T (tgt := 1194) (pc := 482) dL_law_482 (by decide) rfl <|
        cw_iincL (L' := [_, _, _, _]) (c := 4) (pc := 1194) dL_law_1194 rfl (by decide) (by decide) rfl rfl <|
        ?_
      rw [hnx]
      refine cw_goto (tgt := 18) (pc := 1197) dL_law_1197 (by decide) <|
        ?_
      exact ih () m2 (gi_step hW hIm hT s1 s2 (by rw [e2]; exact r1) (by rw [e2]; exact plead_inv hI _ _))
    by_cases k9 : xs (4 * t) &&& 63 = 9
    · refine cw_iload_n (pc := 18) dL_law_18 rfl rfl <|
        cw_aload_n (pc := 19) dL_law_19 rfl rfl <|
        cw_slen (pc := 20) dL_law_20 hX <|
        cw_iconst (v := 4) (pc := 21) dL_law_21 (by decide) <|
        cw_isub (pc := 22) dL_law_22 <|
        cw_icmp_gt_F (tgt := 1200) (pc := 23) dL_law_23 (by decide) hgt <|
        cw_aload_n (pc := 26) dL_law_26 rfl rfl <|
        cw_iload_n (pc := 27) dL_law_27 rfl rfl <|
        cw_sld (jn := (4 * t)) (pc := 28) dL_law_28 hX hL rfl (by omega) <|
        cw_bipush (v := 63) (pc := 29) dL_law_29 (by decide) <|
        cw_iand (pc := 31) dL_law_31 <|
        cw_tabI (v := 9) (tgt := 487) (pc := 32) dL_law_32 (by rw [k9]; rfl) (by decide) (by decide) rfl (by decide) <|
        cw_aload_n (pc := 487) dL_law_487 rfl rfl <|
        cw_aload_n (pc := 488) dL_law_488 rfl rfl <|
        cw_iload_n (pc := 489) dL_law_489 rfl rfl <|
        cw_iconst (v := 1) (pc := 490) dL_law_490 (by decide) <|
        cw_iadd (pc := 491) dL_law_491 <|
        cw_sld (jn := ((4 * t) + 1)) (pc := 492) dL_law_492 hX hL (nx_add rfl rfl) (by omega) <|
        cw_invP (q := 0) (pc := 493) dL_law_493 (c_X8_told hI hR) rfl vL_54 sh_0 (by decide) rfl rfl rfl (by decide) <|
        ?_
      rintro _ m1 ⟨rfl, s1⟩
      have e1 := SC68 s1
      refine cw_aload_n (pc := 496) dL_law_496 rfl rfl <|
        cw_aload_n (pc := 497) dL_law_497 rfl rfl <|
        cw_iload_n (pc := 498) dL_law_498 rfl rfl <|
        cw_iconst (v := 1) (pc := 499) dL_law_499 (by decide) <|
        cw_iadd (pc := 500) dL_law_500 <|
        cw_sld (jn := ((4 * t) + 1)) (pc := 501) dL_law_501 hX hL (nx_add rfl rfl) (by omega) <|
        cw_invP (q := 67) (pc := 502) dL_law_502 (c_X9_told e1 hI) rfl vL_57 sh_67 (by decide) rfl rfl rfl (by decide) <|
        ?_
      rintro _ m2 ⟨rfl, s2⟩
      refine cw_icmp_eq_T (tgt := 1194) (pc := 505) dL_law_505 (by decide) rfl <|
        cw_iincL (L' := [_, _, _, _]) (c := 4) (pc := 1194) dL_law_1194 rfl (by decide) (by decide) rfl rfl <|
        ?_
      rw [hnx]
      refine cw_goto (tgt := 18) (pc := 1197) dL_law_1197 (by decide) <|
        ?_
      exact ih () m2 (gi_q hW hIm hT hI hR s1 s2)
    by_cases k10 : xs (4 * t) &&& 63 = 10
    · refine cw_iload_n (pc := 18) dL_law_18 rfl rfl <|
        cw_aload_n (pc := 19) dL_law_19 rfl rfl <|
        cw_slen (pc := 20) dL_law_20 hX <|
        cw_iconst (v := 4) (pc := 21) dL_law_21 (by decide) <|
        cw_isub (pc := 22) dL_law_22 <|
        cw_icmp_gt_F (tgt := 1200) (pc := 23) dL_law_23 (by decide) hgt <|
        cw_aload_n (pc := 26) dL_law_26 rfl rfl <|
        cw_iload_n (pc := 27) dL_law_27 rfl rfl <|
        cw_sld (jn := (4 * t)) (pc := 28) dL_law_28 hX hL rfl (by omega) <|
        cw_bipush (v := 63) (pc := 29) dL_law_29 (by decide) <|
        cw_iand (pc := 31) dL_law_31 <|
        cw_tabI (v := 10) (tgt := 510) (pc := 32) dL_law_32 (by rw [k10]; rfl) (by decide) (by decide) rfl (by decide) <|
        cw_aload_n (pc := 510) dL_law_510 rfl rfl <|
        cw_aload_n (pc := 511) dL_law_511 rfl rfl <|
        cw_iload_n (pc := 512) dL_law_512 rfl rfl <|
        cw_iconst (v := 1) (pc := 513) dL_law_513 (by decide) <|
        cw_iadd (pc := 514) dL_law_514 <|
        cw_sld (jn := ((4 * t) + 1)) (pc := 515) dL_law_515 hX hL (nx_add rfl rfl) (by omega) <|
        cw_invP (q := 0) (pc := 516) dL_law_516 (c_X8_pass hI hR) rfl vL_58 sh_0 (by decide) rfl rfl rfl (by decide) <|
        ?_
      rintro _ m1 ⟨⟨rfl, r1⟩, s1⟩
      have e1 := PB68 s1
      refine cw_aload_n (pc := 519) dL_law_519 rfl rfl <|
        cw_aload_n (pc := 520) dL_law_520 rfl rfl <|
        cw_iload_n (pc := 521) dL_law_521 rfl rfl <|
        cw_iconst (v := 1) (pc := 522) dL_law_522 (by decide) <|
        cw_iadd (pc := 523) dL_law_523 <|
        cw_sld (jn := ((4 * t) + 1)) (pc := 524) dL_law_524 hX hL (nx_add rfl rfl) (by omega) <|
        cw_invP (q := 67) (pc := 525) dL_law_525 (c_X9_pass e1 hI) rfl vL_61 sh_67 (by decide) rfl rfl rfl (by decide) <|
        ?_
      rintro _ m2 ⟨rfl, e2, s2⟩
      refine cw_icmp_eq_T (tgt := 1194) (pc := 528) dL_law_528 (by decide) rfl <|
        cw_iincL (L' := [_, _, _, _]) (c := 4) (pc := 1194) dL_law_1194 rfl (by decide) (by decide) rfl rfl <|
        ?_
      rw [hnx]
      refine cw_goto (tgt := 18) (pc := 1197) dL_law_1197 (by decide) <|
        ?_
      exact ih () m2 (gi_step hW hIm hT s1 s2 (by rw [e2]; exact r1) (by rw [e2]; exact pass_inv hI _))
    by_cases k11 : xs (4 * t) &&& 63 = 11
    · refine cw_iload_n (pc := 18) dL_law_18 rfl rfl <|
        cw_aload_n (pc := 19) dL_law_19 rfl rfl <|
        cw_slen (pc := 20) dL_law_20 hX <|
        cw_iconst (v := 4) (pc := 21) dL_law_21 (by decide) <|
        cw_isub (pc := 22) dL_law_22 <|
        cw_icmp_gt_F (tgt := 1200) (pc := 23) dL_law_23 (by decide) hgt <|
        cw_aload_n (pc := 26) dL_law_26 rfl rfl <|
        cw_iload_n (pc := 27) dL_law_27 rfl rfl <|
        cw_sld (jn := (4 * t)) (pc := 28) dL_law_28 hX hL rfl (by omega) <|
        cw_bipush (v := 63) (pc := 29) dL_law_29 (by decide) <|
        cw_iand (pc := 31) dL_law_31 <|
        cw_tabI (v := 11) (tgt := 533) (pc := 32) dL_law_32 (by rw [k11]; rfl) (by decide) (by decide) rfl (by decide) <|
        cw_aload_n (pc := 533) dL_law_533 rfl rfl <|
        cw_aload_n (pc := 534) dL_law_534 rfl rfl <|
        cw_iload_n (pc := 535) dL_law_535 rfl rfl <|
        cw_iconst (v := 1) (pc := 536) dL_law_536 (by decide) <|
        cw_iadd (pc := 537) dL_law_537 <|
        cw_sld (jn := ((4 * t) + 1)) (pc := 538) dL_law_538 hX hL (nx_add rfl rfl) (by omega) <|
        cw_aload_n (pc := 539) dL_law_539 rfl rfl <|
        cw_iload_n (pc := 540) dL_law_540 rfl rfl <|
        cw_iconst (v := 2) (pc := 541) dL_law_541 (by decide) <|
        cw_iadd (pc := 542) dL_law_542 <|
        cw_sld (jn := ((4 * t) + 2)) (pc := 543) dL_law_543 hX hL (nx_add rfl rfl) (by omega) <|
        cw_aload_n (pc := 544) dL_law_544 rfl rfl <|
        cw_iload_n (pc := 545) dL_law_545 rfl rfl <|
        cw_iconst (v := 3) (pc := 546) dL_law_546 (by decide) <|
        cw_iadd (pc := 547) dL_law_547 <|
        cw_sld (jn := ((4 * t) + 3)) (pc := 548) dL_law_548 hX hL (nx_add rfl rfl) (by omega) <|
        cw_invP (q := 0) (pc := 549) dL_law_549 (c_X8_line hI hR) rfl vL_62 sh_0 (by decide) rfl rfl rfl (by decide) <|
        ?_
      rintro _ m1 ⟨rfl, s1⟩
      have e1 := SC68 s1
      refine cw_aload_n (pc := 552) dL_law_552 rfl rfl <|
        cw_aload_n (pc := 553) dL_law_553 rfl rfl <|
        cw_iload_n (pc := 554) dL_law_554 rfl rfl <|
        cw_iconst (v := 1) (pc := 555) dL_law_555 (by decide) <|
        cw_iadd (pc := 556) dL_law_556 <|
        cw_sld (jn := ((4 * t) + 1)) (pc := 557) dL_law_557 hX hL (nx_add rfl rfl) (by omega) <|
        cw_aload_n (pc := 558) dL_law_558 rfl rfl <|
        cw_iload_n (pc := 559) dL_law_559 rfl rfl <|
        cw_iconst (v := 2) (pc := 560) dL_law_560 (by decide) <|
        cw_iadd (pc := 561) dL_law_561 <|
        cw_sld (jn := ((4 * t) + 2)) (pc := 562) dL_law_562 hX hL (nx_add rfl rfl) (by omega) <|
        cw_aload_n (pc := 563) dL_law_563 rfl rfl <|
        cw_iload_n (pc := 564) dL_law_564 rfl rfl <|
        cw_iconst (v := 3) (pc := 565) dL_law_565 (by decide) <|
        cw_iadd (pc := 566) dL_law_566 <|
        cw_sld (jn := ((4 * t) + 3)) (pc := 567) dL_law_567 hX hL (nx_add rfl rfl) (by omega) <|
        cw_invP (q := 67) (pc := 568) dL_law_568 (c_X9_line e1 hI) rfl vL_65 sh_67 (by decide) rfl rfl rfl (by decide) <|
        ?_
      rintro _ m2 ⟨rfl, s2⟩
      refine cw_icmp_eq_T (tgt := 1194) (pc := 571) dL_law_571 (by decide) rfl <|
        cw_iincL (L' := [_, _, _, _]) (c := 4) (pc := 1194) dL_law_1194 rfl (by decide) (by decide) rfl rfl <|
        ?_
      rw [hnx]
      refine cw_goto (tgt := 18) (pc := 1197) dL_law_1197 (by decide) <|
        ?_
      exact ih () m2 (gi_q hW hIm hT hI hR s1 s2)
    by_cases k12 : xs (4 * t) &&& 63 = 12
    · refine cw_iload_n (pc := 18) dL_law_18 rfl rfl <|
        cw_aload_n (pc := 19) dL_law_19 rfl rfl <|
        cw_slen (pc := 20) dL_law_20 hX <|
        cw_iconst (v := 4) (pc := 21) dL_law_21 (by decide) <|
        cw_isub (pc := 22) dL_law_22 <|
        cw_icmp_gt_F (tgt := 1200) (pc := 23) dL_law_23 (by decide) hgt <|
        cw_aload_n (pc := 26) dL_law_26 rfl rfl <|
        cw_iload_n (pc := 27) dL_law_27 rfl rfl <|
        cw_sld (jn := (4 * t)) (pc := 28) dL_law_28 hX hL rfl (by omega) <|
        cw_bipush (v := 63) (pc := 29) dL_law_29 (by decide) <|
        cw_iand (pc := 31) dL_law_31 <|
        cw_tabI (v := 12) (tgt := 576) (pc := 32) dL_law_32 (by rw [k12]; rfl) (by decide) (by decide) rfl (by decide) <|
        cw_aload_n (pc := 576) dL_law_576 rfl rfl <|
        cw_aload_n (pc := 577) dL_law_577 rfl rfl <|
        cw_iload_n (pc := 578) dL_law_578 rfl rfl <|
        cw_iconst (v := 1) (pc := 579) dL_law_579 (by decide) <|
        cw_iadd (pc := 580) dL_law_580 <|
        cw_sld (jn := ((4 * t) + 1)) (pc := 581) dL_law_581 hX hL (nx_add rfl rfl) (by omega) <|
        cw_aload_n (pc := 582) dL_law_582 rfl rfl <|
        cw_iload_n (pc := 583) dL_law_583 rfl rfl <|
        cw_iconst (v := 2) (pc := 584) dL_law_584 (by decide) <|
        cw_iadd (pc := 585) dL_law_585 <|
        cw_sld (jn := ((4 * t) + 2)) (pc := 586) dL_law_586 hX hL (nx_add rfl rfl) (by omega) <|
        cw_aload_n (pc := 587) dL_law_587 rfl rfl <|
        cw_iload_n (pc := 588) dL_law_588 rfl rfl <|
        cw_iconst (v := 3) (pc := 589) dL_law_589 (by decide) <|
        cw_iadd (pc := 590) dL_law_590 <|
        cw_sld (jn := ((4 * t) + 3)) (pc := 591) dL_law_591 hX hL (nx_add rfl rfl) (by omega) <|
        cw_invP (q := 0) (pc := 592) dL_law_592 (c_X8_strays hI hR) rfl vL_66 sh_0 (by decide) rfl rfl rfl (by decide) <|
        ?_
      rintro _ m1 ⟨rfl, s1⟩
      have e1 := SC68 s1
      refine cw_aload_n (pc := 595) dL_law_595 rfl rfl <|
        cw_aload_n (pc := 596) dL_law_596 rfl rfl <|
        cw_iload_n (pc := 597) dL_law_597 rfl rfl <|
        cw_iconst (v := 1) (pc := 598) dL_law_598 (by decide) <|
        cw_iadd (pc := 599) dL_law_599 <|
        cw_sld (jn := ((4 * t) + 1)) (pc := 600) dL_law_600 hX hL (nx_add rfl rfl) (by omega) <|
        cw_aload_n (pc := 601) dL_law_601 rfl rfl <|
        cw_iload_n (pc := 602) dL_law_602 rfl rfl <|
        cw_iconst (v := 2) (pc := 603) dL_law_603 (by decide) <|
        cw_iadd (pc := 604) dL_law_604 <|
        cw_sld (jn := ((4 * t) + 2)) (pc := 605) dL_law_605 hX hL (nx_add rfl rfl) (by omega) <|
        cw_aload_n (pc := 606) dL_law_606 rfl rfl <|
        cw_iload_n (pc := 607) dL_law_607 rfl rfl <|
        cw_iconst (v := 3) (pc := 608) dL_law_608 (by decide) <|
        cw_iadd (pc := 609) dL_law_609 <|
        cw_sld (jn := ((4 * t) + 3)) (pc := 610) dL_law_610 hX hL (nx_add rfl rfl) (by omega) <|
        cw_invP (q := 67) (pc := 611) dL_law_611 (c_X9_strays e1 hI) rfl vL_69 sh_67 (by decide) rfl rfl rfl (by decide) <|
        ?_
      rintro _ m2 ⟨rfl, s2⟩
      refine cw_icmp_eq_T (tgt := 1194) (pc := 614) dL_law_614 (by decide) rfl <|
        cw_iincL (L' := [_, _, _, _]) (c := 4) (pc := 1194) dL_law_1194 rfl (by decide) (by decide) rfl rfl <|
        ?_
      rw [hnx]
      refine cw_goto (tgt := 18) (pc := 1197) dL_law_1197 (by decide) <|
        ?_
      exact ih () m2 (gi_q hW hIm hT hI hR s1 s2)
    by_cases k13 : xs (4 * t) &&& 63 = 13
    · refine cw_iload_n (pc := 18) dL_law_18 rfl rfl <|
        cw_aload_n (pc := 19) dL_law_19 rfl rfl <|
        cw_slen (pc := 20) dL_law_20 hX <|
        cw_iconst (v := 4) (pc := 21) dL_law_21 (by decide) <|
        cw_isub (pc := 22) dL_law_22 <|
        cw_icmp_gt_F (tgt := 1200) (pc := 23) dL_law_23 (by decide) hgt <|
        cw_aload_n (pc := 26) dL_law_26 rfl rfl <|
        cw_iload_n (pc := 27) dL_law_27 rfl rfl <|
        cw_sld (jn := (4 * t)) (pc := 28) dL_law_28 hX hL rfl (by omega) <|
        cw_bipush (v := 63) (pc := 29) dL_law_29 (by decide) <|
        cw_iand (pc := 31) dL_law_31 <|
        cw_tabI (v := 13) (tgt := 619) (pc := 32) dL_law_32 (by rw [k13]; rfl) (by decide) (by decide) rfl (by decide) <|
        cw_aload_n (pc := 619) dL_law_619 rfl rfl <|
        cw_aload_n (pc := 620) dL_law_620 rfl rfl <|
        cw_iload_n (pc := 621) dL_law_621 rfl rfl <|
        cw_iconst (v := 1) (pc := 622) dL_law_622 (by decide) <|
        cw_iadd (pc := 623) dL_law_623 <|
        cw_sld (jn := ((4 * t) + 1)) (pc := 624) dL_law_624 hX hL (nx_add rfl rfl) (by omega) <|
        cw_aload_n (pc := 625) dL_law_625 rfl rfl <|
        cw_iload_n (pc := 626) dL_law_626 rfl rfl <|
        cw_iconst (v := 2) (pc := 627) dL_law_627 (by decide) <|
        cw_iadd (pc := 628) dL_law_628 <|
        cw_sld (jn := ((4 * t) + 2)) (pc := 629) dL_law_629 hX hL (nx_add rfl rfl) (by omega) <|
        cw_invP (q := 0) (pc := 630) dL_law_630 (c_X8_on hI hR) rfl vL_70 sh_0 (by decide) rfl rfl rfl (by decide) <|
        ?_
      rintro _ m1 ⟨rfl, s1⟩
      have e1 := SC68 s1
      refine cw_aload_n (pc := 633) dL_law_633 rfl rfl <|
        cw_aload_n (pc := 634) dL_law_634 rfl rfl <|
        cw_iload_n (pc := 635) dL_law_635 rfl rfl <|
        cw_iconst (v := 1) (pc := 636) dL_law_636 (by decide) <|
        cw_iadd (pc := 637) dL_law_637 <|
        cw_sld (jn := ((4 * t) + 1)) (pc := 638) dL_law_638 hX hL (nx_add rfl rfl) (by omega) <|
        cw_aload_n (pc := 639) dL_law_639 rfl rfl <|
        cw_iload_n (pc := 640) dL_law_640 rfl rfl <|
        cw_iconst (v := 2) (pc := 641) dL_law_641 (by decide) <|
        cw_iadd (pc := 642) dL_law_642 <|
        cw_sld (jn := ((4 * t) + 2)) (pc := 643) dL_law_643 hX hL (nx_add rfl rfl) (by omega) <|
        cw_invP (q := 67) (pc := 644) dL_law_644 (c_X9_on e1 hI) rfl vL_73 sh_67 (by decide) rfl rfl rfl (by decide) <|
        ?_
      rintro _ m2 ⟨rfl, s2⟩
      refine cw_icmp_eq_T (tgt := 1194) (pc := 647) dL_law_647 (by decide) rfl <|
        cw_iincL (L' := [_, _, _, _]) (c := 4) (pc := 1194) dL_law_1194 rfl (by decide) (by decide) rfl rfl <|
        ?_
      rw [hnx]
      refine cw_goto (tgt := 18) (pc := 1197) dL_law_1197 (by decide) <|
        ?_
      exact ih () m2 (gi_q hW hIm hT hI hR s1 s2)
    by_cases k14 : xs (4 * t) &&& 63 = 14
    · refine cw_iload_n (pc := 18) dL_law_18 rfl rfl <|
        cw_aload_n (pc := 19) dL_law_19 rfl rfl <|
        cw_slen (pc := 20) dL_law_20 hX <|
        cw_iconst (v := 4) (pc := 21) dL_law_21 (by decide) <|
        cw_isub (pc := 22) dL_law_22 <|
        cw_icmp_gt_F (tgt := 1200) (pc := 23) dL_law_23 (by decide) hgt <|
        cw_aload_n (pc := 26) dL_law_26 rfl rfl <|
        cw_iload_n (pc := 27) dL_law_27 rfl rfl <|
        cw_sld (jn := (4 * t)) (pc := 28) dL_law_28 hX hL rfl (by omega) <|
        cw_bipush (v := 63) (pc := 29) dL_law_29 (by decide) <|
        cw_iand (pc := 31) dL_law_31 <|
        cw_tabI (v := 14) (tgt := 652) (pc := 32) dL_law_32 (by rw [k14]; rfl) (by decide) (by decide) rfl (by decide) <|
        cw_aload_n (pc := 652) dL_law_652 rfl rfl <|
        cw_aload_n (pc := 653) dL_law_653 rfl rfl <|
        cw_iload_n (pc := 654) dL_law_654 rfl rfl <|
        cw_iconst (v := 1) (pc := 655) dL_law_655 (by decide) <|
        cw_iadd (pc := 656) dL_law_656 <|
        cw_sld (jn := ((4 * t) + 1)) (pc := 657) dL_law_657 hX hL (nx_add rfl rfl) (by omega) <|
        cw_invP (q := 0) (pc := 658) dL_law_658 (c_X8_when hI hR) rfl vL_74 sh_0 (by decide) rfl rfl rfl (by decide) <|
        ?_
      rintro _ m1 ⟨rfl, s1⟩
      have e1 := SC68 s1
      refine cw_aload_n (pc := 661) dL_law_661 rfl rfl <|
        cw_aload_n (pc := 662) dL_law_662 rfl rfl <|
        cw_iload_n (pc := 663) dL_law_663 rfl rfl <|
        cw_iconst (v := 1) (pc := 664) dL_law_664 (by decide) <|
        cw_iadd (pc := 665) dL_law_665 <|
        cw_sld (jn := ((4 * t) + 1)) (pc := 666) dL_law_666 hX hL (nx_add rfl rfl) (by omega) <|
        cw_invP (q := 67) (pc := 667) dL_law_667 (c_X9_when e1 hI) rfl vL_77 sh_67 (by decide) rfl rfl rfl (by decide) <|
        ?_
      rintro _ m2 ⟨rfl, s2⟩
      refine cw_icmp_eq_T (tgt := 1194) (pc := 670) dL_law_670 (by decide) rfl <|
        cw_iincL (L' := [_, _, _, _]) (c := 4) (pc := 1194) dL_law_1194 rfl (by decide) (by decide) rfl rfl <|
        ?_
      rw [hnx]
      refine cw_goto (tgt := 18) (pc := 1197) dL_law_1197 (by decide) <|
        ?_
      exact ih () m2 (gi_q hW hIm hT hI hR s1 s2)
    by_cases k15 : xs (4 * t) &&& 63 = 15
    · refine cw_iload_n (pc := 18) dL_law_18 rfl rfl <|
        cw_aload_n (pc := 19) dL_law_19 rfl rfl <|
        cw_slen (pc := 20) dL_law_20 hX <|
        cw_iconst (v := 4) (pc := 21) dL_law_21 (by decide) <|
        cw_isub (pc := 22) dL_law_22 <|
        cw_icmp_gt_F (tgt := 1200) (pc := 23) dL_law_23 (by decide) hgt <|
        cw_aload_n (pc := 26) dL_law_26 rfl rfl <|
        cw_iload_n (pc := 27) dL_law_27 rfl rfl <|
        cw_sld (jn := (4 * t)) (pc := 28) dL_law_28 hX hL rfl (by omega) <|
        cw_bipush (v := 63) (pc := 29) dL_law_29 (by decide) <|
        cw_iand (pc := 31) dL_law_31 <|
        cw_tabI (v := 15) (tgt := 675) (pc := 32) dL_law_32 (by rw [k15]; rfl) (by decide) (by decide) rfl (by decide) <|
        cw_aload_n (pc := 675) dL_law_675 rfl rfl <|
        cw_aload_n (pc := 676) dL_law_676 rfl rfl <|
        cw_iload_n (pc := 677) dL_law_677 rfl rfl <|
        cw_iconst (v := 1) (pc := 678) dL_law_678 (by decide) <|
        cw_iadd (pc := 679) dL_law_679 <|
        cw_sld (jn := ((4 * t) + 1)) (pc := 680) dL_law_680 hX hL (nx_add rfl rfl) (by omega) <|
        cw_invP (q := 0) (pc := 681) dL_law_681 (c_X8_start hI hR) rfl vL_78 sh_0 (by decide) rfl rfl rfl (by decide) <|
        ?_
      rintro _ m1 ⟨rfl, s1⟩
      have e1 := SC68 s1
      refine cw_aload_n (pc := 684) dL_law_684 rfl rfl <|
        cw_aload_n (pc := 685) dL_law_685 rfl rfl <|
        cw_iload_n (pc := 686) dL_law_686 rfl rfl <|
        cw_iconst (v := 1) (pc := 687) dL_law_687 (by decide) <|
        cw_iadd (pc := 688) dL_law_688 <|
        cw_sld (jn := ((4 * t) + 1)) (pc := 689) dL_law_689 hX hL (nx_add rfl rfl) (by omega) <|
        cw_invP (q := 67) (pc := 690) dL_law_690 (c_X9_start e1 hI) rfl vL_81 sh_67 (by decide) rfl rfl rfl (by decide) <|
        ?_
      rintro _ m2 ⟨rfl, s2⟩
      refine cw_icmp_eq_T (tgt := 1194) (pc := 693) dL_law_693 (by decide) rfl <|
        cw_iincL (L' := [_, _, _, _]) (c := 4) (pc := 1194) dL_law_1194 rfl (by decide) (by decide) rfl rfl <|
        ?_
      rw [hnx]
      refine cw_goto (tgt := 18) (pc := 1197) dL_law_1197 (by decide) <|
        ?_
      exact ih () m2 (gi_q hW hIm hT hI hR s1 s2)
    by_cases k16 : xs (4 * t) &&& 63 = 16
    · refine cw_iload_n (pc := 18) dL_law_18 rfl rfl <|
        cw_aload_n (pc := 19) dL_law_19 rfl rfl <|
        cw_slen (pc := 20) dL_law_20 hX <|
        cw_iconst (v := 4) (pc := 21) dL_law_21 (by decide) <|
        cw_isub (pc := 22) dL_law_22 <|
        cw_icmp_gt_F (tgt := 1200) (pc := 23) dL_law_23 (by decide) hgt <|
        cw_aload_n (pc := 26) dL_law_26 rfl rfl <|
        cw_iload_n (pc := 27) dL_law_27 rfl rfl <|
        cw_sld (jn := (4 * t)) (pc := 28) dL_law_28 hX hL rfl (by omega) <|
        cw_bipush (v := 63) (pc := 29) dL_law_29 (by decide) <|
        cw_iand (pc := 31) dL_law_31 <|
        cw_tabI (v := 16) (tgt := 698) (pc := 32) dL_law_32 (by rw [k16]; rfl) (by decide) (by decide) rfl (by decide) <|
        cw_aload_n (pc := 698) dL_law_698 rfl rfl <|
        cw_aload_n (pc := 699) dL_law_699 rfl rfl <|
        cw_iload_n (pc := 700) dL_law_700 rfl rfl <|
        cw_iconst (v := 1) (pc := 701) dL_law_701 (by decide) <|
        cw_iadd (pc := 702) dL_law_702 <|
        cw_sld (jn := ((4 * t) + 1)) (pc := 703) dL_law_703 hX hL (nx_add rfl rfl) (by omega) <|
        cw_aload_n (pc := 704) dL_law_704 rfl rfl <|
        cw_iload_n (pc := 705) dL_law_705 rfl rfl <|
        cw_iconst (v := 2) (pc := 706) dL_law_706 (by decide) <|
        cw_iadd (pc := 707) dL_law_707 <|
        cw_sld (jn := ((4 * t) + 2)) (pc := 708) dL_law_708 hX hL (nx_add rfl rfl) (by omega) <|
        cw_invP (q := 0) (pc := 709) dL_law_709 (c_X8_waver hI hR) rfl vL_82 sh_0 (by decide) rfl rfl rfl (by decide) <|
        ?_
      rintro _ m1 ⟨rfl, s1⟩
      have e1 := SC68 s1
      refine cw_aload_n (pc := 712) dL_law_712 rfl rfl <|
        cw_aload_n (pc := 713) dL_law_713 rfl rfl <|
        cw_iload_n (pc := 714) dL_law_714 rfl rfl <|
        cw_iconst (v := 1) (pc := 715) dL_law_715 (by decide) <|
        cw_iadd (pc := 716) dL_law_716 <|
        cw_sld (jn := ((4 * t) + 1)) (pc := 717) dL_law_717 hX hL (nx_add rfl rfl) (by omega) <|
        cw_aload_n (pc := 718) dL_law_718 rfl rfl <|
        cw_iload_n (pc := 719) dL_law_719 rfl rfl <|
        cw_iconst (v := 2) (pc := 720) dL_law_720 (by decide) <|
        cw_iadd (pc := 721) dL_law_721 <|
        cw_sld (jn := ((4 * t) + 2)) (pc := 722) dL_law_722 hX hL (nx_add rfl rfl) (by omega) <|
        cw_invP (q := 67) (pc := 723) dL_law_723 (c_X9_waver e1 hI) rfl vL_85 sh_67 (by decide) rfl rfl rfl (by decide) <|
        ?_
      rintro _ m2 ⟨rfl, s2⟩
      refine cw_icmp_eq_T (tgt := 1194) (pc := 726) dL_law_726 (by decide) rfl <|
        cw_iincL (L' := [_, _, _, _]) (c := 4) (pc := 1194) dL_law_1194 rfl (by decide) (by decide) rfl rfl <|
        ?_
      rw [hnx]
      refine cw_goto (tgt := 18) (pc := 1197) dL_law_1197 (by decide) <|
        ?_
      exact ih () m2 (gi_q hW hIm hT hI hR s1 s2)
    by_cases k17 : xs (4 * t) &&& 63 = 17
    · refine cw_iload_n (pc := 18) dL_law_18 rfl rfl <|
        cw_aload_n (pc := 19) dL_law_19 rfl rfl <|
        cw_slen (pc := 20) dL_law_20 hX <|
        cw_iconst (v := 4) (pc := 21) dL_law_21 (by decide) <|
        cw_isub (pc := 22) dL_law_22 <|
        cw_icmp_gt_F (tgt := 1200) (pc := 23) dL_law_23 (by decide) hgt <|
        cw_aload_n (pc := 26) dL_law_26 rfl rfl <|
        cw_iload_n (pc := 27) dL_law_27 rfl rfl <|
        cw_sld (jn := (4 * t)) (pc := 28) dL_law_28 hX hL rfl (by omega) <|
        cw_bipush (v := 63) (pc := 29) dL_law_29 (by decide) <|
        cw_iand (pc := 31) dL_law_31 <|
        cw_tabI (v := 17) (tgt := 731) (pc := 32) dL_law_32 (by rw [k17]; rfl) (by decide) (by decide) rfl (by decide) <|
        cw_aload_n (pc := 731) dL_law_731 rfl rfl <|
        cw_aload_n (pc := 732) dL_law_732 rfl rfl <|
        cw_iload_n (pc := 733) dL_law_733 rfl rfl <|
        cw_iconst (v := 1) (pc := 734) dL_law_734 (by decide) <|
        cw_iadd (pc := 735) dL_law_735 <|
        cw_sld (jn := ((4 * t) + 1)) (pc := 736) dL_law_736 hX hL (nx_add rfl rfl) (by omega) <|
        cw_invP (q := 0) (pc := 737) dL_law_737 (c_X8_clear hI hR) rfl vL_86 sh_0 (by decide) rfl rfl rfl (by decide) <|
        ?_
      rintro _ m1 ⟨rfl, s1⟩
      have e1 := SC68 s1
      refine cw_aload_n (pc := 740) dL_law_740 rfl rfl <|
        cw_aload_n (pc := 741) dL_law_741 rfl rfl <|
        cw_iload_n (pc := 742) dL_law_742 rfl rfl <|
        cw_iconst (v := 1) (pc := 743) dL_law_743 (by decide) <|
        cw_iadd (pc := 744) dL_law_744 <|
        cw_sld (jn := ((4 * t) + 1)) (pc := 745) dL_law_745 hX hL (nx_add rfl rfl) (by omega) <|
        cw_invP (q := 67) (pc := 746) dL_law_746 (c_X9_clear e1 hI) rfl vL_89 sh_67 (by decide) rfl rfl rfl (by decide) <|
        ?_
      rintro _ m2 ⟨rfl, s2⟩
      refine cw_icmp_eq_T (tgt := 1194) (pc := 749) dL_law_749 (by decide) rfl <|
        cw_iincL (L' := [_, _, _, _]) (c := 4) (pc := 1194) dL_law_1194 rfl (by decide) (by decide) rfl rfl <|
        ?_
      rw [hnx]
      refine cw_goto (tgt := 18) (pc := 1197) dL_law_1197 (by decide) <|
        ?_
      exact ih () m2 (gi_q hW hIm hT hI hR s1 s2)
    by_cases k18 : xs (4 * t) &&& 63 = 18
    · refine cw_iload_n (pc := 18) dL_law_18 rfl rfl <|
        cw_aload_n (pc := 19) dL_law_19 rfl rfl <|
        cw_slen (pc := 20) dL_law_20 hX <|
        cw_iconst (v := 4) (pc := 21) dL_law_21 (by decide) <|
        cw_isub (pc := 22) dL_law_22 <|
        cw_icmp_gt_F (tgt := 1200) (pc := 23) dL_law_23 (by decide) hgt <|
        cw_aload_n (pc := 26) dL_law_26 rfl rfl <|
        cw_iload_n (pc := 27) dL_law_27 rfl rfl <|
        cw_sld (jn := (4 * t)) (pc := 28) dL_law_28 hX hL rfl (by omega) <|
        cw_bipush (v := 63) (pc := 29) dL_law_29 (by decide) <|
        cw_iand (pc := 31) dL_law_31 <|
        cw_tabI (v := 18) (tgt := 754) (pc := 32) dL_law_32 (by rw [k18]; rfl) (by decide) (by decide) rfl (by decide) <|
        cw_aload_n (pc := 754) dL_law_754 rfl rfl <|
        cw_aload_n (pc := 755) dL_law_755 rfl rfl <|
        cw_iload_n (pc := 756) dL_law_756 rfl rfl <|
        cw_iconst (v := 1) (pc := 757) dL_law_757 (by decide) <|
        cw_iadd (pc := 758) dL_law_758 <|
        cw_sld (jn := ((4 * t) + 1)) (pc := 759) dL_law_759 hX hL (nx_add rfl rfl) (by omega) <|
        cw_invP (q := 0) (pc := 760) dL_law_760 (c_X8_bar hI hR) rfl vL_90 sh_0 (by decide) rfl rfl rfl (by decide) <|
        ?_
      rintro _ m1 ⟨rfl, s1⟩
      have e1 := SC68 s1
      refine cw_aload_n (pc := 763) dL_law_763 rfl rfl <|
        cw_aload_n (pc := 764) dL_law_764 rfl rfl <|
        cw_iload_n (pc := 765) dL_law_765 rfl rfl <|
        cw_iconst (v := 1) (pc := 766) dL_law_766 (by decide) <|
        cw_iadd (pc := 767) dL_law_767 <|
        cw_sld (jn := ((4 * t) + 1)) (pc := 768) dL_law_768 hX hL (nx_add rfl rfl) (by omega) <|
        cw_invP (q := 67) (pc := 769) dL_law_769 (c_X9_bar e1 hI) rfl vL_93 sh_67 (by decide) rfl rfl rfl (by decide) <|
        ?_
      rintro _ m2 ⟨rfl, s2⟩
      refine cw_icmp_eq_T (tgt := 1194) (pc := 772) dL_law_772 (by decide) rfl <|
        cw_iincL (L' := [_, _, _, _]) (c := 4) (pc := 1194) dL_law_1194 rfl (by decide) (by decide) rfl rfl <|
        ?_
      rw [hnx]
      refine cw_goto (tgt := 18) (pc := 1197) dL_law_1197 (by decide) <|
        ?_
      exact ih () m2 (gi_q hW hIm hT hI hR s1 s2)
    by_cases k19 : xs (4 * t) &&& 63 = 19
    · refine cw_iload_n (pc := 18) dL_law_18 rfl rfl <|
        cw_aload_n (pc := 19) dL_law_19 rfl rfl <|
        cw_slen (pc := 20) dL_law_20 hX <|
        cw_iconst (v := 4) (pc := 21) dL_law_21 (by decide) <|
        cw_isub (pc := 22) dL_law_22 <|
        cw_icmp_gt_F (tgt := 1200) (pc := 23) dL_law_23 (by decide) hgt <|
        cw_aload_n (pc := 26) dL_law_26 rfl rfl <|
        cw_iload_n (pc := 27) dL_law_27 rfl rfl <|
        cw_sld (jn := (4 * t)) (pc := 28) dL_law_28 hX hL rfl (by omega) <|
        cw_bipush (v := 63) (pc := 29) dL_law_29 (by decide) <|
        cw_iand (pc := 31) dL_law_31 <|
        cw_tabI (v := 19) (tgt := 777) (pc := 32) dL_law_32 (by rw [k19]; rfl) (by decide) (by decide) rfl (by decide) <|
        cw_aload_n (pc := 777) dL_law_777 rfl rfl <|
        cw_aload_n (pc := 778) dL_law_778 rfl rfl <|
        cw_iload_n (pc := 779) dL_law_779 rfl rfl <|
        cw_iconst (v := 1) (pc := 780) dL_law_780 (by decide) <|
        cw_iadd (pc := 781) dL_law_781 <|
        cw_sld (jn := ((4 * t) + 1)) (pc := 782) dL_law_782 hX hL (nx_add rfl rfl) (by omega) <|
        cw_aload_n (pc := 783) dL_law_783 rfl rfl <|
        cw_iload_n (pc := 784) dL_law_784 rfl rfl <|
        cw_iconst (v := 2) (pc := 785) dL_law_785 (by decide) <|
        cw_iadd (pc := 786) dL_law_786 <|
        cw_sld (jn := ((4 * t) + 2)) (pc := 787) dL_law_787 hX hL (nx_add rfl rfl) (by omega) <|
        cw_aload_n (pc := 788) dL_law_788 rfl rfl <|
        cw_iload_n (pc := 789) dL_law_789 rfl rfl <|
        cw_iconst (v := 3) (pc := 790) dL_law_790 (by decide) <|
        cw_iadd (pc := 791) dL_law_791 <|
        cw_sld (jn := ((4 * t) + 3)) (pc := 792) dL_law_792 hX hL (nx_add rfl rfl) (by omega) <|
        cw_invP (q := 0) (pc := 793) dL_law_793 (c_X8_see hI hR) rfl vL_94 sh_0 (by decide) rfl rfl rfl (by decide) <|
        ?_
      rintro _ m1 ⟨⟨rfl, r1⟩, s1⟩
      have e1 := PB68 s1
      refine cw_aload_n (pc := 796) dL_law_796 rfl rfl <|
        cw_aload_n (pc := 797) dL_law_797 rfl rfl <|
        cw_iload_n (pc := 798) dL_law_798 rfl rfl <|
        cw_iconst (v := 1) (pc := 799) dL_law_799 (by decide) <|
        cw_iadd (pc := 800) dL_law_800 <|
        cw_sld (jn := ((4 * t) + 1)) (pc := 801) dL_law_801 hX hL (nx_add rfl rfl) (by omega) <|
        cw_aload_n (pc := 802) dL_law_802 rfl rfl <|
        cw_iload_n (pc := 803) dL_law_803 rfl rfl <|
        cw_iconst (v := 2) (pc := 804) dL_law_804 (by decide) <|
        cw_iadd (pc := 805) dL_law_805 <|
        cw_sld (jn := ((4 * t) + 2)) (pc := 806) dL_law_806 hX hL (nx_add rfl rfl) (by omega) <|
        cw_aload_n (pc := 807) dL_law_807 rfl rfl <|
        cw_iload_n (pc := 808) dL_law_808 rfl rfl <|
        cw_iconst (v := 3) (pc := 809) dL_law_809 (by decide) <|
        cw_iadd (pc := 810) dL_law_810 <|
        cw_sld (jn := ((4 * t) + 3)) (pc := 811) dL_law_811 hX hL (nx_add rfl rfl) (by omega) <|
        cw_invP (q := 67) (pc := 812) dL_law_812 (c_X9_see e1 hI) rfl vL_97 sh_67 (by decide) rfl rfl rfl (by decide) <|
        ?_
      rintro _ m2 ⟨rfl, e2, s2⟩
      refine cw_icmp_eq_T (tgt := 1194) (pc := 815) dL_law_815 (by decide) rfl <|
        cw_iincL (L' := [_, _, _, _]) (c := 4) (pc := 1194) dL_law_1194 rfl (by decide) (by decide) rfl rfl <|
        ?_
      rw [hnx]
      refine cw_goto (tgt := 18) (pc := 1197) dL_law_1197 (by decide) <|
        ?_
      exact ih () m2 (gi_step hW hIm hT s1 s2 (by rw [e2]; exact r1) (by rw [e2]; exact see_inv hI _ _ _))
    by_cases k20 : xs (4 * t) &&& 63 = 20
    · refine cw_iload_n (pc := 18) dL_law_18 rfl rfl <|
        cw_aload_n (pc := 19) dL_law_19 rfl rfl <|
        cw_slen (pc := 20) dL_law_20 hX <|
        cw_iconst (v := 4) (pc := 21) dL_law_21 (by decide) <|
        cw_isub (pc := 22) dL_law_22 <|
        cw_icmp_gt_F (tgt := 1200) (pc := 23) dL_law_23 (by decide) hgt <|
        cw_aload_n (pc := 26) dL_law_26 rfl rfl <|
        cw_iload_n (pc := 27) dL_law_27 rfl rfl <|
        cw_sld (jn := (4 * t)) (pc := 28) dL_law_28 hX hL rfl (by omega) <|
        cw_bipush (v := 63) (pc := 29) dL_law_29 (by decide) <|
        cw_iand (pc := 31) dL_law_31 <|
        cw_tabI (v := 20) (tgt := 820) (pc := 32) dL_law_32 (by rw [k20]; rfl) (by decide) (by decide) rfl (by decide) <|
        cw_aload_n (pc := 820) dL_law_820 rfl rfl <|
        cw_aload_n (pc := 821) dL_law_821 rfl rfl <|
        cw_iload_n (pc := 822) dL_law_822 rfl rfl <|
        cw_iconst (v := 1) (pc := 823) dL_law_823 (by decide) <|
        cw_iadd (pc := 824) dL_law_824 <|
        cw_sld (jn := ((4 * t) + 1)) (pc := 825) dL_law_825 hX hL (nx_add rfl rfl) (by omega) <|
        cw_invP (q := 0) (pc := 826) dL_law_826 (c_X8_from hI hR) rfl vL_98 sh_0 (by decide) rfl rfl rfl (by decide) <|
        ?_
      rintro _ m1 ⟨rfl, s1⟩
      have e1 := SC68 s1
      refine cw_aload_n (pc := 829) dL_law_829 rfl rfl <|
        cw_aload_n (pc := 830) dL_law_830 rfl rfl <|
        cw_iload_n (pc := 831) dL_law_831 rfl rfl <|
        cw_iconst (v := 1) (pc := 832) dL_law_832 (by decide) <|
        cw_iadd (pc := 833) dL_law_833 <|
        cw_sld (jn := ((4 * t) + 1)) (pc := 834) dL_law_834 hX hL (nx_add rfl rfl) (by omega) <|
        cw_invP (q := 67) (pc := 835) dL_law_835 (c_X9_from e1 hI) rfl vL_101 sh_67 (by decide) rfl rfl rfl (by decide) <|
        ?_
      rintro _ m2 ⟨rfl, s2⟩
      refine cw_icmp_eq_T (tgt := 1194) (pc := 838) dL_law_838 (by decide) rfl <|
        cw_iincL (L' := [_, _, _, _]) (c := 4) (pc := 1194) dL_law_1194 rfl (by decide) (by decide) rfl rfl <|
        ?_
      rw [hnx]
      refine cw_goto (tgt := 18) (pc := 1197) dL_law_1197 (by decide) <|
        ?_
      exact ih () m2 (gi_q hW hIm hT hI hR s1 s2)
    by_cases k21 : xs (4 * t) &&& 63 = 21
    · refine cw_iload_n (pc := 18) dL_law_18 rfl rfl <|
        cw_aload_n (pc := 19) dL_law_19 rfl rfl <|
        cw_slen (pc := 20) dL_law_20 hX <|
        cw_iconst (v := 4) (pc := 21) dL_law_21 (by decide) <|
        cw_isub (pc := 22) dL_law_22 <|
        cw_icmp_gt_F (tgt := 1200) (pc := 23) dL_law_23 (by decide) hgt <|
        cw_aload_n (pc := 26) dL_law_26 rfl rfl <|
        cw_iload_n (pc := 27) dL_law_27 rfl rfl <|
        cw_sld (jn := (4 * t)) (pc := 28) dL_law_28 hX hL rfl (by omega) <|
        cw_bipush (v := 63) (pc := 29) dL_law_29 (by decide) <|
        cw_iand (pc := 31) dL_law_31 <|
        cw_tabI (v := 21) (tgt := 843) (pc := 32) dL_law_32 (by rw [k21]; rfl) (by decide) (by decide) rfl (by decide) <|
        cw_aload_n (pc := 843) dL_law_843 rfl rfl <|
        cw_aload_n (pc := 844) dL_law_844 rfl rfl <|
        cw_iload_n (pc := 845) dL_law_845 rfl rfl <|
        cw_iconst (v := 1) (pc := 846) dL_law_846 (by decide) <|
        cw_iadd (pc := 847) dL_law_847 <|
        cw_sld (jn := ((4 * t) + 1)) (pc := 848) dL_law_848 hX hL (nx_add rfl rfl) (by omega) <|
        cw_aload_n (pc := 849) dL_law_849 rfl rfl <|
        cw_iload_n (pc := 850) dL_law_850 rfl rfl <|
        cw_iconst (v := 2) (pc := 851) dL_law_851 (by decide) <|
        cw_iadd (pc := 852) dL_law_852 <|
        cw_sld (jn := ((4 * t) + 2)) (pc := 853) dL_law_853 hX hL (nx_add rfl rfl) (by omega) <|
        cw_invP (q := 0) (pc := 854) dL_law_854 (c_X8_firm hI hR) rfl vL_102 sh_0 (by decide) rfl rfl rfl (by decide) <|
        ?_
      rintro _ m1 ⟨rfl, s1⟩
      have e1 := SC68 s1
      refine cw_aload_n (pc := 857) dL_law_857 rfl rfl <|
        cw_aload_n (pc := 858) dL_law_858 rfl rfl <|
        cw_iload_n (pc := 859) dL_law_859 rfl rfl <|
        cw_iconst (v := 1) (pc := 860) dL_law_860 (by decide) <|
        cw_iadd (pc := 861) dL_law_861 <|
        cw_sld (jn := ((4 * t) + 1)) (pc := 862) dL_law_862 hX hL (nx_add rfl rfl) (by omega) <|
        cw_aload_n (pc := 863) dL_law_863 rfl rfl <|
        cw_iload_n (pc := 864) dL_law_864 rfl rfl <|
        cw_iconst (v := 2) (pc := 865) dL_law_865 (by decide) <|
        cw_iadd (pc := 866) dL_law_866 <|
        cw_sld (jn := ((4 * t) + 2)) (pc := 867) dL_law_867 hX hL (nx_add rfl rfl) (by omega) <|
        cw_invP (q := 67) (pc := 868) dL_law_868 (c_X9_firm e1 hI) rfl vL_105 sh_67 (by decide) rfl rfl rfl (by decide) <|
        ?_
      rintro _ m2 ⟨rfl, s2⟩
      refine cw_icmp_eq_T (tgt := 1194) (pc := 871) dL_law_871 (by decide) rfl <|
        cw_iincL (L' := [_, _, _, _]) (c := 4) (pc := 1194) dL_law_1194 rfl (by decide) (by decide) rfl rfl <|
        ?_
      rw [hnx]
      refine cw_goto (tgt := 18) (pc := 1197) dL_law_1197 (by decide) <|
        ?_
      exact ih () m2 (gi_q hW hIm hT hI hR s1 s2)
    by_cases k22 : xs (4 * t) &&& 63 = 22
    · refine cw_iload_n (pc := 18) dL_law_18 rfl rfl <|
        cw_aload_n (pc := 19) dL_law_19 rfl rfl <|
        cw_slen (pc := 20) dL_law_20 hX <|
        cw_iconst (v := 4) (pc := 21) dL_law_21 (by decide) <|
        cw_isub (pc := 22) dL_law_22 <|
        cw_icmp_gt_F (tgt := 1200) (pc := 23) dL_law_23 (by decide) hgt <|
        cw_aload_n (pc := 26) dL_law_26 rfl rfl <|
        cw_iload_n (pc := 27) dL_law_27 rfl rfl <|
        cw_sld (jn := (4 * t)) (pc := 28) dL_law_28 hX hL rfl (by omega) <|
        cw_bipush (v := 63) (pc := 29) dL_law_29 (by decide) <|
        cw_iand (pc := 31) dL_law_31 <|
        cw_tabI (v := 22) (tgt := 876) (pc := 32) dL_law_32 (by rw [k22]; rfl) (by decide) (by decide) rfl (by decide) <|
        cw_aload_n (pc := 876) dL_law_876 rfl rfl <|
        cw_aload_n (pc := 877) dL_law_877 rfl rfl <|
        cw_iload_n (pc := 878) dL_law_878 rfl rfl <|
        cw_iconst (v := 1) (pc := 879) dL_law_879 (by decide) <|
        cw_iadd (pc := 880) dL_law_880 <|
        cw_sld (jn := ((4 * t) + 1)) (pc := 881) dL_law_881 hX hL (nx_add rfl rfl) (by omega) <|
        cw_aload_n (pc := 882) dL_law_882 rfl rfl <|
        cw_iload_n (pc := 883) dL_law_883 rfl rfl <|
        cw_iconst (v := 2) (pc := 884) dL_law_884 (by decide) <|
        cw_iadd (pc := 885) dL_law_885 <|
        cw_sld (jn := ((4 * t) + 2)) (pc := 886) dL_law_886 hX hL (nx_add rfl rfl) (by omega) <|
        cw_aload_n (pc := 887) dL_law_887 rfl rfl <|
        cw_iload_n (pc := 888) dL_law_888 rfl rfl <|
        cw_iconst (v := 3) (pc := 889) dL_law_889 (by decide) <|
        cw_iadd (pc := 890) dL_law_890 <|
        cw_sld (jn := ((4 * t) + 3)) (pc := 891) dL_law_891 hX hL (nx_add rfl rfl) (by omega) <|
        cw_invP (q := 0) (pc := 892) dL_law_892 (c_X8_odds hI hR) rfl vL_106 sh_0 (by decide) rfl rfl rfl (by decide) <|
        ?_
      rintro _ m1 ⟨rfl, s1⟩
      have e1 := SC68 s1
      refine cw_aload_n (pc := 895) dL_law_895 rfl rfl <|
        cw_aload_n (pc := 896) dL_law_896 rfl rfl <|
        cw_iload_n (pc := 897) dL_law_897 rfl rfl <|
        cw_iconst (v := 1) (pc := 898) dL_law_898 (by decide) <|
        cw_iadd (pc := 899) dL_law_899 <|
        cw_sld (jn := ((4 * t) + 1)) (pc := 900) dL_law_900 hX hL (nx_add rfl rfl) (by omega) <|
        cw_aload_n (pc := 901) dL_law_901 rfl rfl <|
        cw_iload_n (pc := 902) dL_law_902 rfl rfl <|
        cw_iconst (v := 2) (pc := 903) dL_law_903 (by decide) <|
        cw_iadd (pc := 904) dL_law_904 <|
        cw_sld (jn := ((4 * t) + 2)) (pc := 905) dL_law_905 hX hL (nx_add rfl rfl) (by omega) <|
        cw_aload_n (pc := 906) dL_law_906 rfl rfl <|
        cw_iload_n (pc := 907) dL_law_907 rfl rfl <|
        cw_iconst (v := 3) (pc := 908) dL_law_908 (by decide) <|
        cw_iadd (pc := 909) dL_law_909 <|
        cw_sld (jn := ((4 * t) + 3)) (pc := 910) dL_law_910 hX hL (nx_add rfl rfl) (by omega) <|
        cw_invP (q := 67) (pc := 911) dL_law_911 (c_X9_odds e1 hI) rfl vL_110 sh_67 (by decide) rfl rfl rfl (by decide) <|
        ?_
      rintro _ m2 ⟨rfl, s2⟩
      refine cw_lcmp (pc := 914) dL_law_914 <|
        cw_if_eq_T (tgt := 1194) (pc := 915) dL_law_915 (by decide) ((lg_cmp_eq _ _).mpr rfl) <|
        cw_iincL (L' := [_, _, _, _]) (c := 4) (pc := 1194) dL_law_1194 rfl (by decide) (by decide) rfl rfl <|
        ?_
      rw [hnx]
      refine cw_goto (tgt := 18) (pc := 1197) dL_law_1197 (by decide) <|
        ?_
      exact ih () m2 (gi_q hW hIm hT hI hR s1 s2)
    by_cases k23 : xs (4 * t) &&& 63 = 23
    · refine cw_iload_n (pc := 18) dL_law_18 rfl rfl <|
        cw_aload_n (pc := 19) dL_law_19 rfl rfl <|
        cw_slen (pc := 20) dL_law_20 hX <|
        cw_iconst (v := 4) (pc := 21) dL_law_21 (by decide) <|
        cw_isub (pc := 22) dL_law_22 <|
        cw_icmp_gt_F (tgt := 1200) (pc := 23) dL_law_23 (by decide) hgt <|
        cw_aload_n (pc := 26) dL_law_26 rfl rfl <|
        cw_iload_n (pc := 27) dL_law_27 rfl rfl <|
        cw_sld (jn := (4 * t)) (pc := 28) dL_law_28 hX hL rfl (by omega) <|
        cw_bipush (v := 63) (pc := 29) dL_law_29 (by decide) <|
        cw_iand (pc := 31) dL_law_31 <|
        cw_tabI (v := 23) (tgt := 920) (pc := 32) dL_law_32 (by rw [k23]; rfl) (by decide) (by decide) rfl (by decide) <|
        cw_aload_n (pc := 920) dL_law_920 rfl rfl <|
        cw_aload_n (pc := 921) dL_law_921 rfl rfl <|
        cw_iload_n (pc := 922) dL_law_922 rfl rfl <|
        cw_iconst (v := 1) (pc := 923) dL_law_923 (by decide) <|
        cw_iadd (pc := 924) dL_law_924 <|
        cw_sld (jn := ((4 * t) + 1)) (pc := 925) dL_law_925 hX hL (nx_add rfl rfl) (by omega) <|
        cw_invP (q := 0) (pc := 926) dL_law_926 (c_X8_mean hI hR) rfl vL_111 sh_0 (by decide) rfl rfl rfl (by decide) <|
        ?_
      rintro _ m1 ⟨rfl, s1⟩
      have e1 := SC68 s1
      refine cw_aload_n (pc := 929) dL_law_929 rfl rfl <|
        cw_aload_n (pc := 930) dL_law_930 rfl rfl <|
        cw_iload_n (pc := 931) dL_law_931 rfl rfl <|
        cw_iconst (v := 1) (pc := 932) dL_law_932 (by decide) <|
        cw_iadd (pc := 933) dL_law_933 <|
        cw_sld (jn := ((4 * t) + 1)) (pc := 934) dL_law_934 hX hL (nx_add rfl rfl) (by omega) <|
        cw_invP (q := 67) (pc := 935) dL_law_935 (c_X9_mean e1 hI) rfl vL_115 sh_67 (by decide) rfl rfl rfl (by decide) <|
        ?_
      rintro _ m2 ⟨rfl, s2⟩
      refine cw_lcmp (pc := 938) dL_law_938 <|
        cw_if_eq_T (tgt := 1194) (pc := 939) dL_law_939 (by decide) ((lg_cmp_eq _ _).mpr rfl) <|
        cw_iincL (L' := [_, _, _, _]) (c := 4) (pc := 1194) dL_law_1194 rfl (by decide) (by decide) rfl rfl <|
        ?_
      rw [hnx]
      refine cw_goto (tgt := 18) (pc := 1197) dL_law_1197 (by decide) <|
        ?_
      exact ih () m2 (gi_q hW hIm hT hI hR s1 s2)
    by_cases k24 : xs (4 * t) &&& 63 = 24
    · refine cw_iload_n (pc := 18) dL_law_18 rfl rfl <|
        cw_aload_n (pc := 19) dL_law_19 rfl rfl <|
        cw_slen (pc := 20) dL_law_20 hX <|
        cw_iconst (v := 4) (pc := 21) dL_law_21 (by decide) <|
        cw_isub (pc := 22) dL_law_22 <|
        cw_icmp_gt_F (tgt := 1200) (pc := 23) dL_law_23 (by decide) hgt <|
        cw_aload_n (pc := 26) dL_law_26 rfl rfl <|
        cw_iload_n (pc := 27) dL_law_27 rfl rfl <|
        cw_sld (jn := (4 * t)) (pc := 28) dL_law_28 hX hL rfl (by omega) <|
        cw_bipush (v := 63) (pc := 29) dL_law_29 (by decide) <|
        cw_iand (pc := 31) dL_law_31 <|
        cw_tabI (v := 24) (tgt := 944) (pc := 32) dL_law_32 (by rw [k24]; rfl) (by decide) (by decide) rfl (by decide) <|
        cw_aload_n (pc := 944) dL_law_944 rfl rfl <|
        cw_aload_n (pc := 945) dL_law_945 rfl rfl <|
        cw_iload_n (pc := 946) dL_law_946 rfl rfl <|
        cw_iconst (v := 1) (pc := 947) dL_law_947 (by decide) <|
        cw_iadd (pc := 948) dL_law_948 <|
        cw_sld (jn := ((4 * t) + 1)) (pc := 949) dL_law_949 hX hL (nx_add rfl rfl) (by omega) <|
        cw_aload_n (pc := 950) dL_law_950 rfl rfl <|
        cw_iload_n (pc := 951) dL_law_951 rfl rfl <|
        cw_iconst (v := 2) (pc := 952) dL_law_952 (by decide) <|
        cw_iadd (pc := 953) dL_law_953 <|
        cw_sld (jn := ((4 * t) + 2)) (pc := 954) dL_law_954 hX hL (nx_add rfl rfl) (by omega) <|
        cw_invP (q := 0) (pc := 955) dL_law_955 (c_X8_plan hI hR) rfl vL_116 sh_0 (by decide) rfl rfl rfl (by decide) <|
        ?_
      rintro _ m1 ⟨⟨rfl, r1⟩, s1⟩
      have e1 := PB68 s1
      refine cw_aload_n (pc := 958) dL_law_958 rfl rfl <|
        cw_aload_n (pc := 959) dL_law_959 rfl rfl <|
        cw_iload_n (pc := 960) dL_law_960 rfl rfl <|
        cw_iconst (v := 1) (pc := 961) dL_law_961 (by decide) <|
        cw_iadd (pc := 962) dL_law_962 <|
        cw_sld (jn := ((4 * t) + 1)) (pc := 963) dL_law_963 hX hL (nx_add rfl rfl) (by omega) <|
        cw_aload_n (pc := 964) dL_law_964 rfl rfl <|
        cw_iload_n (pc := 965) dL_law_965 rfl rfl <|
        cw_iconst (v := 2) (pc := 966) dL_law_966 (by decide) <|
        cw_iadd (pc := 967) dL_law_967 <|
        cw_sld (jn := ((4 * t) + 2)) (pc := 968) dL_law_968 hX hL (nx_add rfl rfl) (by omega) <|
        cw_invP (q := 67) (pc := 969) dL_law_969 (c_X9_plan e1 hI) rfl vL_119 sh_67 (by decide) rfl rfl rfl (by decide) <|
        ?_
      rintro _ m2 ⟨rfl, e2, s2⟩
      refine cw_icmp_eq_T (tgt := 1194) (pc := 972) dL_law_972 (by decide) rfl <|
        cw_iincL (L' := [_, _, _, _]) (c := 4) (pc := 1194) dL_law_1194 rfl (by decide) (by decide) rfl rfl <|
        ?_
      rw [hnx]
      refine cw_goto (tgt := 18) (pc := 1197) dL_law_1197 (by decide) <|
        ?_
      exact ih () m2 (gi_step hW hIm hT s1 s2 (by rw [e2]; exact r1) (by rw [e2]; exact plan_inv hI _ _))
    by_cases k25 : xs (4 * t) &&& 63 = 25
    · refine cw_iload_n (pc := 18) dL_law_18 rfl rfl <|
        cw_aload_n (pc := 19) dL_law_19 rfl rfl <|
        cw_slen (pc := 20) dL_law_20 hX <|
        cw_iconst (v := 4) (pc := 21) dL_law_21 (by decide) <|
        cw_isub (pc := 22) dL_law_22 <|
        cw_icmp_gt_F (tgt := 1200) (pc := 23) dL_law_23 (by decide) hgt <|
        cw_aload_n (pc := 26) dL_law_26 rfl rfl <|
        cw_iload_n (pc := 27) dL_law_27 rfl rfl <|
        cw_sld (jn := (4 * t)) (pc := 28) dL_law_28 hX hL rfl (by omega) <|
        cw_bipush (v := 63) (pc := 29) dL_law_29 (by decide) <|
        cw_iand (pc := 31) dL_law_31 <|
        cw_tabI (v := 25) (tgt := 977) (pc := 32) dL_law_32 (by rw [k25]; rfl) (by decide) (by decide) rfl (by decide) <|
        cw_aload_n (pc := 977) dL_law_977 rfl rfl <|
        cw_aload_n (pc := 978) dL_law_978 rfl rfl <|
        cw_iload_n (pc := 979) dL_law_979 rfl rfl <|
        cw_iconst (v := 1) (pc := 980) dL_law_980 (by decide) <|
        cw_iadd (pc := 981) dL_law_981 <|
        cw_sld (jn := ((4 * t) + 1)) (pc := 982) dL_law_982 hX hL (nx_add rfl rfl) (by omega) <|
        cw_invP (q := 0) (pc := 983) dL_law_983 (c_X8_done hI hR) rfl vL_120 sh_0 (by decide) rfl rfl rfl (by decide) <|
        ?_
      rintro _ m1 ⟨rfl, s1⟩
      have e1 := SC68 s1
      refine cw_aload_n (pc := 986) dL_law_986 rfl rfl <|
        cw_aload_n (pc := 987) dL_law_987 rfl rfl <|
        cw_iload_n (pc := 988) dL_law_988 rfl rfl <|
        cw_iconst (v := 1) (pc := 989) dL_law_989 (by decide) <|
        cw_iadd (pc := 990) dL_law_990 <|
        cw_sld (jn := ((4 * t) + 1)) (pc := 991) dL_law_991 hX hL (nx_add rfl rfl) (by omega) <|
        cw_invP (q := 67) (pc := 992) dL_law_992 (c_X9_done e1 hI) rfl vL_123 sh_67 (by decide) rfl rfl rfl (by decide) <|
        ?_
      rintro _ m2 ⟨rfl, s2⟩
      refine cw_icmp_eq_T (tgt := 1194) (pc := 995) dL_law_995 (by decide) rfl <|
        cw_iincL (L' := [_, _, _, _]) (c := 4) (pc := 1194) dL_law_1194 rfl (by decide) (by decide) rfl rfl <|
        ?_
      rw [hnx]
      refine cw_goto (tgt := 18) (pc := 1197) dL_law_1197 (by decide) <|
        ?_
      exact ih () m2 (gi_q hW hIm hT hI hR s1 s2)
    by_cases k26 : xs (4 * t) &&& 63 = 26
    · refine cw_iload_n (pc := 18) dL_law_18 rfl rfl <|
        cw_aload_n (pc := 19) dL_law_19 rfl rfl <|
        cw_slen (pc := 20) dL_law_20 hX <|
        cw_iconst (v := 4) (pc := 21) dL_law_21 (by decide) <|
        cw_isub (pc := 22) dL_law_22 <|
        cw_icmp_gt_F (tgt := 1200) (pc := 23) dL_law_23 (by decide) hgt <|
        cw_aload_n (pc := 26) dL_law_26 rfl rfl <|
        cw_iload_n (pc := 27) dL_law_27 rfl rfl <|
        cw_sld (jn := (4 * t)) (pc := 28) dL_law_28 hX hL rfl (by omega) <|
        cw_bipush (v := 63) (pc := 29) dL_law_29 (by decide) <|
        cw_iand (pc := 31) dL_law_31 <|
        cw_tabI (v := 26) (tgt := 1000) (pc := 32) dL_law_32 (by rw [k26]; rfl) (by decide) (by decide) rfl (by decide) <|
        cw_aload_n (pc := 1000) dL_law_1000 rfl rfl <|
        cw_aload_n (pc := 1001) dL_law_1001 rfl rfl <|
        cw_iload_n (pc := 1002) dL_law_1002 rfl rfl <|
        cw_iconst (v := 1) (pc := 1003) dL_law_1003 (by decide) <|
        cw_iadd (pc := 1004) dL_law_1004 <|
        cw_sld (jn := ((4 * t) + 1)) (pc := 1005) dL_law_1005 hX hL (nx_add rfl rfl) (by omega) <|
        cw_aload_n (pc := 1006) dL_law_1006 rfl rfl <|
        cw_iload_n (pc := 1007) dL_law_1007 rfl rfl <|
        cw_iconst (v := 2) (pc := 1008) dL_law_1008 (by decide) <|
        cw_iadd (pc := 1009) dL_law_1009 <|
        cw_sld (jn := ((4 * t) + 2)) (pc := 1010) dL_law_1010 hX hL (nx_add rfl rfl) (by omega) <|
        cw_invP (q := 0) (pc := 1011) dL_law_1011 (c_X8_book hI hR) rfl vL_124 sh_0 (by decide) rfl rfl rfl (by decide) <|
        ?_
      rintro _ m1 ⟨⟨rfl, r1⟩, s1⟩
      have e1 := PB68 s1
      refine cw_aload_n (pc := 1014) dL_law_1014 rfl rfl <|
        cw_aload_n (pc := 1015) dL_law_1015 rfl rfl <|
        cw_iload_n (pc := 1016) dL_law_1016 rfl rfl <|
        cw_iconst (v := 1) (pc := 1017) dL_law_1017 (by decide) <|
        cw_iadd (pc := 1018) dL_law_1018 <|
        cw_sld (jn := ((4 * t) + 1)) (pc := 1019) dL_law_1019 hX hL (nx_add rfl rfl) (by omega) <|
        cw_aload_n (pc := 1020) dL_law_1020 rfl rfl <|
        cw_iload_n (pc := 1021) dL_law_1021 rfl rfl <|
        cw_iconst (v := 2) (pc := 1022) dL_law_1022 (by decide) <|
        cw_iadd (pc := 1023) dL_law_1023 <|
        cw_sld (jn := ((4 * t) + 2)) (pc := 1024) dL_law_1024 hX hL (nx_add rfl rfl) (by omega) <|
        cw_invP (q := 67) (pc := 1025) dL_law_1025 (c_X9_book e1 hI) rfl vL_127 sh_67 (by decide) rfl rfl rfl (by decide) <|
        ?_
      rintro _ m2 ⟨rfl, e2, s2⟩
      refine cw_icmp_eq_T (tgt := 1194) (pc := 1028) dL_law_1028 (by decide) rfl <|
        cw_iincL (L' := [_, _, _, _]) (c := 4) (pc := 1194) dL_law_1194 rfl (by decide) (by decide) rfl rfl <|
        ?_
      rw [hnx]
      refine cw_goto (tgt := 18) (pc := 1197) dL_law_1197 (by decide) <|
        ?_
      exact ih () m2 (gi_step hW hIm hT s1 s2 (by rw [e2]; exact r1) (by rw [e2]; exact book_inv hI _ _))
    by_cases k27 : xs (4 * t) &&& 63 = 27
    · refine cw_iload_n (pc := 18) dL_law_18 rfl rfl <|
        cw_aload_n (pc := 19) dL_law_19 rfl rfl <|
        cw_slen (pc := 20) dL_law_20 hX <|
        cw_iconst (v := 4) (pc := 21) dL_law_21 (by decide) <|
        cw_isub (pc := 22) dL_law_22 <|
        cw_icmp_gt_F (tgt := 1200) (pc := 23) dL_law_23 (by decide) hgt <|
        cw_aload_n (pc := 26) dL_law_26 rfl rfl <|
        cw_iload_n (pc := 27) dL_law_27 rfl rfl <|
        cw_sld (jn := (4 * t)) (pc := 28) dL_law_28 hX hL rfl (by omega) <|
        cw_bipush (v := 63) (pc := 29) dL_law_29 (by decide) <|
        cw_iand (pc := 31) dL_law_31 <|
        cw_tabI (v := 27) (tgt := 1033) (pc := 32) dL_law_32 (by rw [k27]; rfl) (by decide) (by decide) rfl (by decide) <|
        cw_aload_n (pc := 1033) dL_law_1033 rfl rfl <|
        cw_invP (q := 0) (pc := 1034) dL_law_1034 (c_X8_looked hI hR) rfl vL_128 sh_0 (by decide) rfl rfl rfl (by decide) <|
        ?_
      rintro _ m1 ⟨rfl, rfl⟩
      refine cw_aload_n (pc := 1037) dL_law_1037 rfl rfl <|
        cw_invP (q := 67) (pc := 1038) dL_law_1038 (c_X9_looked rfl hI) rfl vL_131 sh_67 (by decide) rfl rfl rfl (by decide) <|
        ?_
      rintro _ m2 ⟨rfl, s2⟩
      refine cw_icmp_eq_T (tgt := 1194) (pc := 1041) dL_law_1041 (by decide) rfl <|
        cw_iincL (L' := [_, _, _, _]) (c := 4) (pc := 1194) dL_law_1194 rfl (by decide) (by decide) rfl rfl <|
        ?_
      rw [hnx]
      refine cw_goto (tgt := 18) (pc := 1197) dL_law_1197 (by decide) <|
        ?_
      exact ih () m2 (gi_q hW hIm hT hI hR Same.rf s2)
    by_cases k28 : xs (4 * t) &&& 63 = 28
    · refine cw_iload_n (pc := 18) dL_law_18 rfl rfl <|
        cw_aload_n (pc := 19) dL_law_19 rfl rfl <|
        cw_slen (pc := 20) dL_law_20 hX <|
        cw_iconst (v := 4) (pc := 21) dL_law_21 (by decide) <|
        cw_isub (pc := 22) dL_law_22 <|
        cw_icmp_gt_F (tgt := 1200) (pc := 23) dL_law_23 (by decide) hgt <|
        cw_aload_n (pc := 26) dL_law_26 rfl rfl <|
        cw_iload_n (pc := 27) dL_law_27 rfl rfl <|
        cw_sld (jn := (4 * t)) (pc := 28) dL_law_28 hX hL rfl (by omega) <|
        cw_bipush (v := 63) (pc := 29) dL_law_29 (by decide) <|
        cw_iand (pc := 31) dL_law_31 <|
        cw_tabI (v := 28) (tgt := 1046) (pc := 32) dL_law_32 (by rw [k28]; rfl) (by decide) (by decide) rfl (by decide) <|
        cw_aload_n (pc := 1046) dL_law_1046 rfl rfl <|
        cw_aload_n (pc := 1047) dL_law_1047 rfl rfl <|
        cw_iload_n (pc := 1048) dL_law_1048 rfl rfl <|
        cw_iconst (v := 1) (pc := 1049) dL_law_1049 (by decide) <|
        cw_iadd (pc := 1050) dL_law_1050 <|
        cw_sld (jn := ((4 * t) + 1)) (pc := 1051) dL_law_1051 hX hL (nx_add rfl rfl) (by omega) <|
        cw_aload_n (pc := 1052) dL_law_1052 rfl rfl <|
        cw_iload_n (pc := 1053) dL_law_1053 rfl rfl <|
        cw_iconst (v := 2) (pc := 1054) dL_law_1054 (by decide) <|
        cw_iadd (pc := 1055) dL_law_1055 <|
        cw_sld (jn := ((4 * t) + 2)) (pc := 1056) dL_law_1056 hX hL (nx_add rfl rfl) (by omega) <|
        cw_aload_n (pc := 1057) dL_law_1057 rfl rfl <|
        cw_iload_n (pc := 1058) dL_law_1058 rfl rfl <|
        cw_iconst (v := 3) (pc := 1059) dL_law_1059 (by decide) <|
        cw_iadd (pc := 1060) dL_law_1060 <|
        cw_sld (jn := ((4 * t) + 3)) (pc := 1061) dL_law_1061 hX hL (nx_add rfl rfl) (by omega) <|
        cw_invP (q := 0) (pc := 1062) dL_law_1062 (c_X8_act hI hR) rfl vL_132 sh_0 (by decide) rfl rfl rfl (by decide) <|
        ?_
      rintro _ m1 ⟨rfl, t1, s1⟩
      have e1 : m1 68 = μ 68 := funext fun i => s1 _ _ (by unfold DG; omega)
      refine cw_aload_n (pc := 1065) dL_law_1065 rfl rfl <|
        cw_aload_n (pc := 1066) dL_law_1066 rfl rfl <|
        cw_iload_n (pc := 1067) dL_law_1067 rfl rfl <|
        cw_iconst (v := 1) (pc := 1068) dL_law_1068 (by decide) <|
        cw_iadd (pc := 1069) dL_law_1069 <|
        cw_sld (jn := ((4 * t) + 1)) (pc := 1070) dL_law_1070 hX hL (nx_add rfl rfl) (by omega) <|
        cw_aload_n (pc := 1071) dL_law_1071 rfl rfl <|
        cw_iload_n (pc := 1072) dL_law_1072 rfl rfl <|
        cw_iconst (v := 2) (pc := 1073) dL_law_1073 (by decide) <|
        cw_iadd (pc := 1074) dL_law_1074 <|
        cw_sld (jn := ((4 * t) + 2)) (pc := 1075) dL_law_1075 hX hL (nx_add rfl rfl) (by omega) <|
        cw_aload_n (pc := 1076) dL_law_1076 rfl rfl <|
        cw_iload_n (pc := 1077) dL_law_1077 rfl rfl <|
        cw_iconst (v := 3) (pc := 1078) dL_law_1078 (by decide) <|
        cw_iadd (pc := 1079) dL_law_1079 <|
        cw_sld (jn := ((4 * t) + 3)) (pc := 1080) dL_law_1080 hX hL (nx_add rfl rfl) (by omega) <|
        cw_invP (q := 67) (pc := 1081) dL_law_1081 (c_X9_act e1 hI) rfl vL_135 sh_67 (by decide) rfl rfl rfl (by decide) <|
        ?_
      rintro _ m2 ⟨rfl, t2, s2⟩
      refine cw_icmp_eq_T (tgt := 1194) (pc := 1084) dL_law_1084 (by decide) rfl <|
        cw_iincL (L' := [_, _, _, _]) (c := 4) (pc := 1194) dL_law_1194 rfl (by decide) (by decide) rfl rfl <|
        ?_
      rw [hnx]
      refine cw_goto (tgt := 18) (pc := 1197) dL_law_1197 (by decide) <|
        ?_
      exact ih () m2 (gi_act hW hIm hI hR s1 t1 s2 t2)
    by_cases k29 : xs (4 * t) &&& 63 = 29
    · obtain ⟨l, t1, t2⟩ := id hT
      refine cw_iload_n (pc := 18) dL_law_18 rfl rfl <|
        cw_aload_n (pc := 19) dL_law_19 rfl rfl <|
        cw_slen (pc := 20) dL_law_20 hX <|
        cw_iconst (v := 4) (pc := 21) dL_law_21 (by decide) <|
        cw_isub (pc := 22) dL_law_22 <|
        cw_icmp_gt_F (tgt := 1200) (pc := 23) dL_law_23 (by decide) hgt <|
        cw_aload_n (pc := 26) dL_law_26 rfl rfl <|
        cw_iload_n (pc := 27) dL_law_27 rfl rfl <|
        cw_sld (jn := (4 * t)) (pc := 28) dL_law_28 hX hL rfl (by omega) <|
        cw_bipush (v := 63) (pc := 29) dL_law_29 (by decide) <|
        cw_iand (pc := 31) dL_law_31 <|
        cw_tabI (v := 29) (tgt := 1089) (pc := 32) dL_law_32 (by rw [k29]; rfl) (by decide) (by decide) rfl (by decide) <|
        cw_aload_n (pc := 1089) dL_law_1089 rfl rfl <|
        cw_aload_n (pc := 1090) dL_law_1090 rfl rfl <|
        cw_iload_n (pc := 1091) dL_law_1091 rfl rfl <|
        cw_iconst (v := 1) (pc := 1092) dL_law_1092 (by decide) <|
        cw_iadd (pc := 1093) dL_law_1093 <|
        cw_sld (jn := ((4 * t) + 1)) (pc := 1094) dL_law_1094 hX hL (nx_add rfl rfl) (by omega) <|
        cw_invP (q := 0) (pc := 1095) dL_law_1095 (c_X8_trace t1) rfl vL_136 sh_0 (by decide) rfl rfl rfl (by decide) <|
        ?_
      rintro _ m1 ⟨rfl, rfl⟩
      refine cw_aload_n (pc := 1098) dL_law_1098 rfl rfl <|
        cw_aload_n (pc := 1099) dL_law_1099 rfl rfl <|
        cw_iload_n (pc := 1100) dL_law_1100 rfl rfl <|
        cw_iconst (v := 1) (pc := 1101) dL_law_1101 (by decide) <|
        cw_iadd (pc := 1102) dL_law_1102 <|
        cw_sld (jn := ((4 * t) + 1)) (pc := 1103) dL_law_1103 hX hL (nx_add rfl rfl) (by omega) <|
        cw_invP (q := 67) (pc := 1104) dL_law_1104 (c_X9_trace t2) rfl vL_139 sh_67 (by decide) rfl rfl rfl (by decide) <|
        ?_
      rintro _ m2 ⟨rfl, rfl⟩
      refine cw_icmp_eq_T (tgt := 1194) (pc := 1107) dL_law_1107 (by decide) rfl <|
        cw_iincL (L' := [_, _, _, _]) (c := 4) (pc := 1194) dL_law_1194 rfl (by decide) (by decide) rfl rfl <|
        ?_
      rw [hnx]
      refine cw_goto (tgt := 18) (pc := 1197) dL_law_1197 (by decide) <|
        ?_
      exact ih () _ ⟨⟨n, code, mk, hI, hR⟩, hW, hIm, hT⟩
    by_cases k30 : xs (4 * t) &&& 63 = 30
    · refine cw_iload_n (pc := 18) dL_law_18 rfl rfl <|
        cw_aload_n (pc := 19) dL_law_19 rfl rfl <|
        cw_slen (pc := 20) dL_law_20 hX <|
        cw_iconst (v := 4) (pc := 21) dL_law_21 (by decide) <|
        cw_isub (pc := 22) dL_law_22 <|
        cw_icmp_gt_F (tgt := 1200) (pc := 23) dL_law_23 (by decide) hgt <|
        cw_aload_n (pc := 26) dL_law_26 rfl rfl <|
        cw_iload_n (pc := 27) dL_law_27 rfl rfl <|
        cw_sld (jn := (4 * t)) (pc := 28) dL_law_28 hX hL rfl (by omega) <|
        cw_bipush (v := 63) (pc := 29) dL_law_29 (by decide) <|
        cw_iand (pc := 31) dL_law_31 <|
        cw_tabI (v := 30) (tgt := 1112) (pc := 32) dL_law_32 (by rw [k30]; rfl) (by decide) (by decide) rfl (by decide) <|
        cw_aload_n (pc := 1112) dL_law_1112 rfl rfl <|
        cw_aload_n (pc := 1113) dL_law_1113 rfl rfl <|
        cw_iload_n (pc := 1114) dL_law_1114 rfl rfl <|
        cw_iconst (v := 1) (pc := 1115) dL_law_1115 (by decide) <|
        cw_iadd (pc := 1116) dL_law_1116 <|
        cw_sld (jn := ((4 * t) + 1)) (pc := 1117) dL_law_1117 hX hL (nx_add rfl rfl) (by omega) <|
        cw_aload_n (pc := 1118) dL_law_1118 rfl rfl <|
        cw_iload_n (pc := 1119) dL_law_1119 rfl rfl <|
        cw_iconst (v := 2) (pc := 1120) dL_law_1120 (by decide) <|
        cw_iadd (pc := 1121) dL_law_1121 <|
        cw_sld (jn := ((4 * t) + 2)) (pc := 1122) dL_law_1122 hX hL (nx_add rfl rfl) (by omega) <|
        cw_invP (q := 0) (pc := 1123) dL_law_1123 (c_X8_as hI hR) rfl vL_140 sh_0 (by decide) rfl rfl rfl (by decide) <|
        ?_
      rintro _ m1 ⟨rfl, s1⟩
      have e1 := SC68 s1
      refine cw_aload_n (pc := 1126) dL_law_1126 rfl rfl <|
        cw_aload_n (pc := 1127) dL_law_1127 rfl rfl <|
        cw_iload_n (pc := 1128) dL_law_1128 rfl rfl <|
        cw_iconst (v := 1) (pc := 1129) dL_law_1129 (by decide) <|
        cw_iadd (pc := 1130) dL_law_1130 <|
        cw_sld (jn := ((4 * t) + 1)) (pc := 1131) dL_law_1131 hX hL (nx_add rfl rfl) (by omega) <|
        cw_aload_n (pc := 1132) dL_law_1132 rfl rfl <|
        cw_iload_n (pc := 1133) dL_law_1133 rfl rfl <|
        cw_iconst (v := 2) (pc := 1134) dL_law_1134 (by decide) <|
        cw_iadd (pc := 1135) dL_law_1135 <|
        cw_sld (jn := ((4 * t) + 2)) (pc := 1136) dL_law_1136 hX hL (nx_add rfl rfl) (by omega) <|
        cw_invP (q := 67) (pc := 1137) dL_law_1137 (c_X9_as e1 hI) rfl vL_143 sh_67 (by decide) rfl rfl rfl (by decide) <|
        ?_
      rintro _ m2 ⟨rfl, s2⟩
      refine cw_icmp_eq_T (tgt := 1194) (pc := 1140) dL_law_1140 (by decide) rfl <|
        cw_iincL (L' := [_, _, _, _]) (c := 4) (pc := 1194) dL_law_1194 rfl (by decide) (by decide) rfl rfl <|
        ?_
      rw [hnx]
      refine cw_goto (tgt := 18) (pc := 1197) dL_law_1197 (by decide) <|
        ?_
      exact ih () m2 (gi_q hW hIm hT hI hR s1 s2)
    by_cases k31 : xs (4 * t) &&& 63 = 31
    · refine cw_iload_n (pc := 18) dL_law_18 rfl rfl <|
        cw_aload_n (pc := 19) dL_law_19 rfl rfl <|
        cw_slen (pc := 20) dL_law_20 hX <|
        cw_iconst (v := 4) (pc := 21) dL_law_21 (by decide) <|
        cw_isub (pc := 22) dL_law_22 <|
        cw_icmp_gt_F (tgt := 1200) (pc := 23) dL_law_23 (by decide) hgt <|
        cw_aload_n (pc := 26) dL_law_26 rfl rfl <|
        cw_iload_n (pc := 27) dL_law_27 rfl rfl <|
        cw_sld (jn := (4 * t)) (pc := 28) dL_law_28 hX hL rfl (by omega) <|
        cw_bipush (v := 63) (pc := 29) dL_law_29 (by decide) <|
        cw_iand (pc := 31) dL_law_31 <|
        cw_tabI (v := 31) (tgt := 1145) (pc := 32) dL_law_32 (by rw [k31]; rfl) (by decide) (by decide) rfl (by decide) <|
        cw_aload_n (pc := 1145) dL_law_1145 rfl rfl <|
        cw_invP (q := 0) (pc := 1146) dL_law_1146 (c_X8_image hR hW) rfl vL_144 sh_0 (by decide) rfl rfl rfl (by decide) <|
        ?_
      rintro _ m1 ⟨rfl, r1, r2, e0, s1⟩
      have e1 : m1 68 = μ 68 := funext fun i => s1 _ _ (by unfold IM StF; omega)
      refine cw_aload_n (pc := 1149) dL_law_1149 rfl rfl <|
        cw_invP (q := 67) (pc := 1150) dL_law_1150 (c_X9_image e1 hI.1.1) rfl vL_147 sh_67 (by decide) rfl rfl rfl (by decide) <|
        ?_
      rintro _ m2 ⟨rfl, k2, e2, s2⟩
      refine cw_icmp_eq_T (tgt := 1194) (pc := 1153) dL_law_1153 (by decide) rfl <|
        cw_iincL (L' := [_, _, _, _]) (c := 4) (pc := 1194) dL_law_1194 rfl (by decide) (by decide) rfl rfl <|
        ?_
      rw [hnx]
      refine cw_goto (tgt := 18) (pc := 1197) dL_law_1197 (by decide) <|
        ?_
      exact ih () m2 (gi_image hT hI s1 r1 r2 e0 s2 k2 e2)
    by_cases k32 : xs (4 * t) &&& 63 = 32
    · rcases id hIm with ⟨im0, im4⟩ | ⟨im0, im4, n', code', mk', hI', hR'⟩
      · refine cw_iload_n (pc := 18) dL_law_18 rfl rfl <|
          cw_aload_n (pc := 19) dL_law_19 rfl rfl <|
          cw_slen (pc := 20) dL_law_20 hX <|
          cw_iconst (v := 4) (pc := 21) dL_law_21 (by decide) <|
          cw_isub (pc := 22) dL_law_22 <|
          cw_icmp_gt_F (tgt := 1200) (pc := 23) dL_law_23 (by decide) hgt <|
          cw_aload_n (pc := 26) dL_law_26 rfl rfl <|
          cw_iload_n (pc := 27) dL_law_27 rfl rfl <|
          cw_sld (jn := (4 * t)) (pc := 28) dL_law_28 hX hL rfl (by omega) <|
          cw_bipush (v := 63) (pc := 29) dL_law_29 (by decide) <|
          cw_iand (pc := 31) dL_law_31 <|
          cw_tabI (v := 32) (tgt := 1158) (pc := 32) dL_law_32 (by rw [k32]; rfl) (by decide) (by decide) rfl (by decide) <|
          cw_aload_n (pc := 1158) dL_law_1158 rfl rfl <|
          cw_invP (q := 0) (pc := 1159) dL_law_1159 (c_X8_undo_0 im0) rfl vL_148 sh_0 (by decide) rfl rfl rfl (by decide) <|
          ?_
        rintro _ m1 ⟨rfl, rfl⟩
        refine cw_aload_n (pc := 1162) dL_law_1162 rfl rfl <|
          cw_invP (q := 67) (pc := 1163) dL_law_1163 (c_X9_undo_0 im4) rfl vL_151 sh_67 (by decide) rfl rfl rfl (by decide) <|
          ?_
        rintro _ m2 ⟨rfl, rfl⟩
        refine cw_icmp_eq_T (tgt := 1194) (pc := 1166) dL_law_1166 (by decide) rfl <|
          cw_iincL (L' := [_, _, _, _]) (c := 4) (pc := 1194) dL_law_1194 rfl (by decide) (by decide) rfl rfl <|
          ?_
        rw [hnx]
        refine cw_goto (tgt := 18) (pc := 1197) dL_law_1197 (by decide) <|
          ?_
        exact ih () _ ⟨⟨n, code, mk, hI, hR⟩, hW, Or.inl ⟨im0, im4⟩, hT⟩
      · refine cw_iload_n (pc := 18) dL_law_18 rfl rfl <|
          cw_aload_n (pc := 19) dL_law_19 rfl rfl <|
          cw_slen (pc := 20) dL_law_20 hX <|
          cw_iconst (v := 4) (pc := 21) dL_law_21 (by decide) <|
          cw_isub (pc := 22) dL_law_22 <|
          cw_icmp_gt_F (tgt := 1200) (pc := 23) dL_law_23 (by decide) hgt <|
          cw_aload_n (pc := 26) dL_law_26 rfl rfl <|
          cw_iload_n (pc := 27) dL_law_27 rfl rfl <|
          cw_sld (jn := (4 * t)) (pc := 28) dL_law_28 hX hL rfl (by omega) <|
          cw_bipush (v := 63) (pc := 29) dL_law_29 (by decide) <|
          cw_iand (pc := 31) dL_law_31 <|
          cw_tabI (v := 32) (tgt := 1158) (pc := 32) dL_law_32 (by rw [k32]; rfl) (by decide) (by decide) rfl (by decide) <|
          cw_aload_n (pc := 1158) dL_law_1158 rfl rfl <|
          cw_invP (q := 0) (pc := 1159) dL_law_1159 (c_X8_undo_1 im0 hR' hR.wid) rfl vL_148 sh_0 (by decide) rfl rfl rfl (by decide) <|
          ?_
        rintro _ m1 ⟨rfl, r1, r2, s1⟩
        have e4 : m1 67 4 = 1 := (s1 _ _ (by unfold StF; omega)).trans im4
        have e69 : m1 69 = μ 69 := funext fun i => s1 _ _ (by unfold StF; omega)
        refine cw_aload_n (pc := 1162) dL_law_1162 rfl rfl <|
          cw_invP (q := 67) (pc := 1163) dL_law_1163 (c_X9_undo_1 e4) rfl vL_151 sh_67 (by decide) rfl rfl rfl (by decide) <|
          ?_
        rintro _ m2 ⟨rfl, k2, s2⟩
        rw [e69]
        refine cw_icmp_eq_T (tgt := 1194) (pc := 1166) dL_law_1166 (by decide) rfl <|
          cw_iincL (L' := [_, _, _, _]) (c := 4) (pc := 1194) dL_law_1194 rfl (by decide) (by decide) rfl rfl <|
          ?_
        rw [hnx]
        refine cw_goto (tgt := 18) (pc := 1197) dL_law_1197 (by decide) <|
          ?_
        exact ih () m2 (gi_undo hT im0 im4 hI' s1 r1 r2 s2 k2)
    by_cases k33 : xs (4 * t) &&& 63 = 33
    · refine cw_iload_n (pc := 18) dL_law_18 rfl rfl <|
        cw_aload_n (pc := 19) dL_law_19 rfl rfl <|
        cw_slen (pc := 20) dL_law_20 hX <|
        cw_iconst (v := 4) (pc := 21) dL_law_21 (by decide) <|
        cw_isub (pc := 22) dL_law_22 <|
        cw_icmp_gt_F (tgt := 1200) (pc := 23) dL_law_23 (by decide) hgt <|
        cw_aload_n (pc := 26) dL_law_26 rfl rfl <|
        cw_iload_n (pc := 27) dL_law_27 rfl rfl <|
        cw_sld (jn := (4 * t)) (pc := 28) dL_law_28 hX hL rfl (by omega) <|
        cw_bipush (v := 63) (pc := 29) dL_law_29 (by decide) <|
        cw_iand (pc := 31) dL_law_31 <|
        cw_tabI (v := 33) (tgt := 1171) (pc := 32) dL_law_32 (by rw [k33]; rfl) (by decide) (by decide) rfl (by decide) <|
        cw_aload_n (pc := 1171) dL_law_1171 rfl rfl <|
        cw_aload_n (pc := 1172) dL_law_1172 rfl rfl <|
        cw_iload_n (pc := 1173) dL_law_1173 rfl rfl <|
        cw_iconst (v := 1) (pc := 1174) dL_law_1174 (by decide) <|
        cw_iadd (pc := 1175) dL_law_1175 <|
        cw_sld (jn := ((4 * t) + 1)) (pc := 1176) dL_law_1176 hX hL (nx_add rfl rfl) (by omega) <|
        cw_invP (q := 0) (pc := 1177) dL_law_1177 (c_X8_count hI hR) rfl vL_152 sh_0 (by decide) rfl rfl rfl (by decide) <|
        ?_
      rintro _ m1 ⟨rfl, rfl⟩
      refine cw_aload_n (pc := 1180) dL_law_1180 rfl rfl <|
        cw_aload_n (pc := 1181) dL_law_1181 rfl rfl <|
        cw_iload_n (pc := 1182) dL_law_1182 rfl rfl <|
        cw_iconst (v := 1) (pc := 1183) dL_law_1183 (by decide) <|
        cw_iadd (pc := 1184) dL_law_1184 <|
        cw_sld (jn := ((4 * t) + 1)) (pc := 1185) dL_law_1185 hX hL (nx_add rfl rfl) (by omega) <|
        cw_invP (q := 67) (pc := 1186) dL_law_1186 (c_X9_count rfl) rfl vL_155 sh_67 (by decide) rfl rfl rfl (by decide) <|
        ?_
      rintro _ m2 ⟨rfl, rfl⟩
      refine cw_icmp_eq_T (tgt := 1194) (pc := 1189) dL_law_1189 (by decide) (by obtain ⟨l, t1, t2⟩ := hT; rw [t1.1, t2.1]) <|
        cw_iincL (L' := [_, _, _, _]) (c := 4) (pc := 1194) dL_law_1194 rfl (by decide) (by decide) rfl rfl <|
        ?_
      rw [hnx]
      refine cw_goto (tgt := 18) (pc := 1197) dL_law_1197 (by decide) <|
        ?_
      exact ih () _ ⟨⟨n, code, mk, hI, hR⟩, hW, hIm, hT⟩
    refine cw_iload_n (pc := 18) dL_law_18 rfl rfl <|
      cw_aload_n (pc := 19) dL_law_19 rfl rfl <|
      cw_slen (pc := 20) dL_law_20 hX <|
      cw_iconst (v := 4) (pc := 21) dL_law_21 (by decide) <|
      cw_isub (pc := 22) dL_law_22 <|
      cw_icmp_gt_F (tgt := 1200) (pc := 23) dL_law_23 (by decide) hgt <|
      cw_aload_n (pc := 26) dL_law_26 rfl rfl <|
      cw_iload_n (pc := 27) dL_law_27 rfl rfl <|
      cw_sld (jn := (4 * t)) (pc := 28) dL_law_28 hX hL rfl (by omega) <|
      cw_bipush (v := 63) (pc := 29) dL_law_29 (by decide) <|
      cw_iand (pc := 31) dL_law_31 <|
      cw_tabD (tgt := 1194) (pc := 32) dL_law_32 (by have a0 := lv_neT (a := 0) k0 rfl; have a1 := lv_neT (a := 1) k1 rfl; have a2 := lv_neT (a := 2) k2 rfl; have a3 := lv_neT (a := 3) k3 rfl; have a4 := lv_neT (a := 4) k4 rfl; have a5 := lv_neT (a := 5) k5 rfl; have a6 := lv_neT (a := 6) k6 rfl; have a7 := lv_neT (a := 7) k7 rfl; have a8 := lv_neT (a := 8) k8 rfl; have a9 := lv_neT (a := 9) k9 rfl; have a10 := lv_neT (a := 10) k10 rfl; have a11 := lv_neT (a := 11) k11 rfl; have a12 := lv_neT (a := 12) k12 rfl; have a13 := lv_neT (a := 13) k13 rfl; have a14 := lv_neT (a := 14) k14 rfl; have a15 := lv_neT (a := 15) k15 rfl; have a16 := lv_neT (a := 16) k16 rfl; have a17 := lv_neT (a := 17) k17 rfl; have a18 := lv_neT (a := 18) k18 rfl; have a19 := lv_neT (a := 19) k19 rfl; have a20 := lv_neT (a := 20) k20 rfl; have a21 := lv_neT (a := 21) k21 rfl; have a22 := lv_neT (a := 22) k22 rfl; have a23 := lv_neT (a := 23) k23 rfl; have a24 := lv_neT (a := 24) k24 rfl; have a25 := lv_neT (a := 25) k25 rfl; have a26 := lv_neT (a := 26) k26 rfl; have a27 := lv_neT (a := 27) k27 rfl; have a28 := lv_neT (a := 28) k28 rfl; have a29 := lv_neT (a := 29) k29 rfl; have a30 := lv_neT (a := 30) k30 rfl; have a31 := lv_neT (a := 31) k31 rfl; have a32 := lv_neT (a := 32) k32 rfl; have a33 := lv_neT (a := 33) k33 rfl; omega) (by decide) <|
      cw_iincL (L' := [_, _, _, _]) (c := 4) (pc := 1194) dL_law_1194 rfl (by decide) (by decide) rfl rfl <|
      ?_
    rw [hnx]
    refine cw_goto (tgt := 18) (pc := 1197) dL_law_1197 (by decide) <|
      ?_
    exact ih () _ ⟨⟨n, code, mk, hI, hR⟩, hW, hIm, hT⟩
