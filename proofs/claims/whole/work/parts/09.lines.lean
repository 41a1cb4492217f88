theorem Drift_congr {fa fb : Nat → Int32} {code : PCo} (h : ∀ j, j < 6 → fa j = fb j) : Drift fa code = Drift fb code := by
  have key : ∀ (s : List Bool × Int32) (c : Nat × Nat), dst fa s c = dst fb s c := by
    intro s c
    unfold dst
    by_cases h1 : c.1 < 18
    · rw [if_pos h1, if_pos h1]
      have : tstB fa c.1 c.2 = tstB fb c.1 c.2 := by unfold tstB; rw [h (c.1 / 3) (by omega)]
      rw [this]
    · rw [if_neg h1, if_neg h1]
  unfold Drift
  rw [show dst fa = dst fb from funext fun s => funext fun c => key s c]
theorem CodeAt.mo {μ μ' : Mem} {k : Nat} {code : PCo} (h : CodeAt μ k code) (h0 : μ' k = μ k) (h1 : μ' (k + 1) = μ (k + 1)) (h2 : μ' (k + 2) = μ (k + 2)) : CodeAt μ' k code := ⟨by rw [h0]; exact h.1, h.2.1, fun i c hc => by rw [h1, h2]; exact h.2.2 i c hc⟩
def PloAt (P land par : Nat) : Prop := shape[P]? = some (4, 0, [some land, some par, some (P + 1), some (P + 2), some (P + 3), none, none]) ∧ shape[P + 1]? = some (100, 6, []) ∧ shape[P + 2]? = some (100, 6, []) ∧ shape[P + 3]? = some (100, 13, []) ∧ land + 6 < P ∧ par + 2 < P
theorem plo_50 : PloAt 50 2 9 := ⟨rfl, rfl, rfl, rfl, by decide, by decide⟩
theorem plo_54 : PloAt 54 43 9 := ⟨rfl, rfl, rfl, rfl, by decide, by decide⟩
/-- what one STRAYS on a land, by what the memory holds -/
def stC (μ : Mem) (k : Nat) (code : PCo) (p x l : Nat) (f : Int32) : Int32 := strayL code (μ k 0) p (μ (k + 2) p) (μ (k + 3) p) (fun j => μ (k + 6) (p * 4 + j)) x l f
theorem sw_out {x : Int32} {lo hi : Int} (h : ∀ v : Int, lo ≤ v → v ≤ hi → x.toInt ≠ v) : x.toInt < lo ∨ hi < x.toInt := by
  by_cases h1 : x.toInt < lo
  · exact Or.inl h1
  · by_cases h2 : hi < x.toInt
    · exact Or.inr h2
    · exact absurd rfl (h x.toInt (by omega) (by omega))
theorem sw16 {x : Int32} (h1 : ¬ x = 1) (h2 : ¬ x = 2) (h3 : ¬ x = 3) (h4 : ¬ x = 4) (h5 : ¬ x = 5) (h6 : ¬ x = 6) : x.toInt < 1 ∨ 6 < x.toInt := by
  have a1 := lv_neT (a := 1) h1 rfl
  have a2 := lv_neT (a := 2) h2 rfl
  have a3 := lv_neT (a := 3) h3 rfl
  have a4 := lv_neT (a := 4) h4 rfl
  have a5 := lv_neT (a := 5) h5 rfl
  have a6 := lv_neT (a := 6) h6 rfl
  omega
set_option maxHeartbeats 4000000 in
set_option maxRecDepth 100000 in
theorem c_X4_strayed {E : Ev} {P land par : Nat} (hP : PloAt P land par) (hk : LandAt land) (hq : ParAt par) {μ : Mem} {code : PCo} (hc : CodeAt μ par code) (hw : WFc 0 code) {p : Nat} (hp : p < 6) (hm : nI p < μ land 1) {x l : Nat} (hx : x < 12) : AM E yX4_strayed cX4_strayed 7 (some .int) 1 [.ref P, .int (nI p), .int (nI x), .int (nI l)] μ (fun r μ' => r = some (.int (stC μ land code p x l (μ (land + 1) x))) ∧ Same (fun q _ => q = P + 1) μ μ') := by
  refine am_of (own := RX4) (L := [.ref P, .int (nI p), .int (nI x), .int (nI l), .null, .null, .null]) (by decide) rfl (Nat.le_of_ble_eq_true rfl) rfl (fun Γ hR => ?_)
  refine cw_aload_n (pc := 0) dX4_strayed_0 rfl rfl <|
    cw_getR (q := P) (t := land) (pc := 1) dX4_strayed_1 fX4_23 hP.1 (by decide) rfl <|
    cw_iload_n (pc := 4) dX4_strayed_4 rfl rfl <|
    cw_invI (q := land) (pc := 5) dX4_strayed_5 (c_X2_has hk) rfl vX4_31 hk.1 (by decide) rfl rfl rfl (by decide) <|
    cw_if_eq_F (tgt := 18) (pc := 8) dX4_strayed_8 (by decide) (by rw [bI_t ⟨nI_pos' (by omega), hm, nI_lt (b := 6) (by omega) (by decide)⟩]; decide) <|
    cw_iload_n (pc := 11) dX4_strayed_11 rfl rfl <|
    cw_insNI (pc := 12) dX4_strayed_12 c_X8_isStep vX4_37 rfl rfl rfl (by decide) <|
    cw_if_ne_T (tgt := 20) (pc := 15) dX4_strayed_15 (by decide) (by rw [bI_t ⟨nI_pos' (by omega), nI_lt (b := 12) (by omega) (by decide)⟩]; decide) <|
    cw_aload_n (pc := 20) dX4_strayed_20 rfl rfl <|
    cw_getR (q := P) (t := land) (pc := 21) dX4_strayed_21 fX4_23 hP.1 (by decide) rfl <|
    cw_getR (q := land) (t := land + 3) (pc := 24) dX4_strayed_24 fX4_40 hk.1 (by decide) rfl <|
    cw_iload_n (pc := 27) dX4_strayed_27 rfl rfl <|
    cw_ial (q := land + 3) (jn := p) (pc := 28) dX4_strayed_28 hk.2.2.2.1 rfl (by omega) (by decide) <|
    cw_istore (L' := [_, _, _, _, _, _, _]) (pc := 29) dX4_strayed_29 (by decide) rfl rfl <|
    cw_aload_n (pc := 31) dX4_strayed_31 rfl rfl <|
    cw_getR (q := P) (t := land) (pc := 32) dX4_strayed_32 fX4_23 hP.1 (by decide) rfl <|
    cw_getR (q := land) (t := land + 1) (pc := 35) dX4_strayed_35 fX4_43 hk.1 (by decide) rfl <|
    cw_iload_n (pc := 38) dX4_strayed_38 rfl rfl <|
    cw_ial (q := land + 1) (jn := x) (pc := 39) dX4_strayed_39 hk.2.1 rfl (by omega) (by decide) <|
    cw_istore (L' := [_, _, _, _, _, _, _]) (pc := 40) dX4_strayed_40 (by decide) rfl rfl <|
    cw_aload_n (pc := 42) dX4_strayed_42 rfl rfl <|
    cw_getR (q := P) (t := P + 1) (pc := 43) dX4_strayed_43 fX4_11 hP.1 (by decide) rfl <|
    cw_iconst (v := 0) (pc := 46) dX4_strayed_46 (by decide) <|
    cw_iload_n (pc := 47) dX4_strayed_47 rfl rfl <|
    cw_ias (q := P + 1) (jn := 0) (pc := 48) dX4_strayed_48 hP.2.1 rfl (by decide) (by decide) <|
    cw_aload_n (pc := 49) dX4_strayed_49 rfl rfl <|
    cw_getR (q := P) (t := P + 1) (pc := 50) dX4_strayed_50 fX4_11 hP.1 (by decide) rfl <|
    cw_iconst (v := 1) (pc := 53) dX4_strayed_53 (by decide) <|
    cw_aload_n (pc := 54) dX4_strayed_54 rfl rfl <|
    cw_getR (q := P) (t := land) (pc := 55) dX4_strayed_55 fX4_23 hP.1 (by decide) rfl <|
    cw_getR (q := land) (t := land + 2) (pc := 58) dX4_strayed_58 fX4_46 hk.1 (by decide) rfl <|
    cw_iload_n (pc := 61) dX4_strayed_61 rfl rfl <|
    cw_ial (q := land + 2) (jn := p) (pc := 62) dX4_strayed_62 hk.2.2.1 rfl (by omega) (by decide) <|
    cw_ias (q := P + 1) (jn := 1) (pc := 63) dX4_strayed_63 hP.2.1 rfl (by decide) (by decide) <|
    cw_aload_n (pc := 64) dX4_strayed_64 rfl rfl <|
    cw_getR (q := P) (t := P + 1) (pc := 65) dX4_strayed_65 fX4_11 hP.1 (by decide) rfl <|
    cw_iconst (v := 2) (pc := 68) dX4_strayed_68 (by decide) <|
    cw_iload_n (pc := 69) dX4_strayed_69 rfl rfl <|
    cw_ias (q := P + 1) (jn := 2) (pc := 70) dX4_strayed_70 hP.2.1 rfl (by decide) (by decide) <|
    cw_aload_n (pc := 71) dX4_strayed_71 rfl rfl <|
    cw_getR (q := P) (t := P + 1) (pc := 72) dX4_strayed_72 fX4_11 hP.1 (by decide) rfl <|
    cw_iconst (v := 3) (pc := 75) dX4_strayed_75 (by decide) <|
    cw_iload_n (pc := 76) dX4_strayed_76 rfl rfl <|
    cw_ias (q := P + 1) (jn := 3) (pc := 77) dX4_strayed_77 hP.2.1 rfl (by decide) (by decide) <|
    cw_aload_n (pc := 78) dX4_strayed_78 rfl rfl <|
    cw_getR (q := P) (t := P + 1) (pc := 79) dX4_strayed_79 fX4_11 hP.1 (by decide) rfl <|
    cw_iconst (v := 4) (pc := 82) dX4_strayed_82 (by decide) <|
    cw_iload (pc := 83) dX4_strayed_83 rfl <|
    cw_ias (q := P + 1) (jn := 4) (pc := 85) dX4_strayed_85 hP.2.1 rfl (by decide) (by decide) <|
    cw_aload_n (pc := 86) dX4_strayed_86 rfl rfl <|
    cw_getR (q := P) (t := P + 1) (pc := 87) dX4_strayed_87 fX4_11 hP.1 (by decide) rfl <|
    cw_iconst (v := 5) (pc := 90) dX4_strayed_90 (by decide) <|
    cw_aload_n (pc := 91) dX4_strayed_91 rfl rfl <|
    cw_getR (q := P) (t := land) (pc := 92) dX4_strayed_92 fX4_23 hP.1 (by decide) rfl <|
    cw_getI (q := land) (pc := 95) dX4_strayed_95 fX4_49 hk.1 (by decide) rfl <|
    cw_bipush (v := 10) (pc := 98) dX4_strayed_98 (by decide) <|
    cw_irem (pc := 100) dX4_strayed_100 (by decide) <|
    cw_ias (q := P + 1) (jn := 5) (pc := 101) dX4_strayed_101 hP.2.1 rfl (by decide) (by decide) <|
    ?_
  suffices key : ∀ μ1 : Mem, Same (fun q _ => q = P + 1) μ μ1 → (∀ j, j < 6 → μ1 (P + 1) j = facts (nI p) (μ (land + 2) p) (nI x) (nI l) (μ (land + 1) x) (μ land 0) j) → CW E Γ cX4_strayed 7 RX4 1 102 [.ref P, .int (nI p), .int (nI x), .int (nI l), .int (μ (land + 3) p), .int (μ (land + 1) x), .null] [] μ1 from key _ (by exact Same.s1 (Same.s1 (Same.s1 (Same.s1 (Same.s1 (Same.s1 Same.rf rfl) rfl) rfl) rfl) rfl) rfl) (by
    have n2 : ¬ land + 2 = P + 1 := by have := hP.2.2.2.2.1; omega
    have n0 : ¬ land = P + 1 := by have := hP.2.2.2.2.1; omega
    intro j hj
    rcases (show j = 0 ∨ j = 1 ∨ j = 2 ∨ j = 3 ∨ j = 4 ∨ j = 5 by omega) with rfl | rfl | rfl | rfl | rfl | rfl <;> simp [st_at, n2, n0, facts])
  intro μ1 hS hf
  have b1 := hP.2.2.2.2.1
  have b2 := hP.2.2.2.2.2
  have r0 : μ1 land = μ land := funext fun i => hS _ _ (by omega)
  have r2 : μ1 (land + 2) = μ (land + 2) := funext fun i => hS _ _ (by omega)
  have r6 : μ1 (land + 6) = μ (land + 6) := funext fun i => hS _ _ (by omega)
  have hc1 : CodeAt μ1 par code := hc.mo (funext fun i => hS _ _ (by omega)) (funext fun i => hS _ _ (by omega)) (funext fun i => hS _ _ (by omega))
  have hdr := Drift_congr (code := code) hf
  refine cw_aload_n (pc := 102) dX4_strayed_102 rfl rfl <|
    cw_getR (q := P) (t := par) (pc := 103) dX4_strayed_103 fX4_27 hP.1 (by decide) rfl <|
    cw_aload_n (pc := 106) dX4_strayed_106 rfl rfl <|
    cw_getR (q := P) (t := P + 1) (pc := 107) dX4_strayed_107 fX4_11 hP.1 (by decide) rfl <|
    cw_invI (q := par) (pc := 110) dX4_strayed_110 (c_X3_drift hq hP.2.1 hc1 hw) rfl vX4_53 hq.1 (by decide) rfl rfl rfl (by decide) <|
    cw_istore (L' := [_, _, _, _, _, _, _]) (pc := 113) dX4_strayed_113 (by decide) rfl rfl <|
    cw_aload_n (pc := 115) dX4_strayed_115 rfl rfl <|
    cw_getR (q := P) (t := land) (pc := 116) dX4_strayed_116 fX4_23 hP.1 (by decide) rfl <|
    cw_getR (q := land) (t := land + 2) (pc := 119) dX4_strayed_119 fX4_46 hk.1 (by decide) rfl <|
    cw_iload_n (pc := 122) dX4_strayed_122 rfl rfl <|
    cw_ial (q := land + 2) (jn := p) (pc := 123) dX4_strayed_123 hk.2.2.1 rfl (by omega) (by decide) <|
    ?_
  rw [hdr, r2]
  by_cases e1 : μ (land + 2) p = 1
  · refine cw_tabI (v := 1) (tgt := 164) (pc := 124) dX4_strayed_124 (by rw [e1]; rfl) (by decide) (by decide) rfl (by decide) <|
      cw_iload (pc := 164) dX4_strayed_164 rfl <|
      cw_iconst (v := 2) (pc := 166) dX4_strayed_166 (by decide) <|
      cw_idiv (pc := 167) dX4_strayed_167 (by decide) <|
      cw_iret (pc := 168) dX4_strayed_168 hR <|
      (by first | (simp only [stC, strayL, strayF, e1]; simp_all; done) | (simp only [stC, strayL, strayF]; simp_all; intro h; exfalso; grind))
  by_cases e2 : μ (land + 2) p = 2
  · refine cw_tabI (v := 2) (tgt := 177) (pc := 124) dX4_strayed_124 (by rw [e2]; rfl) (by decide) (by decide) rfl (by decide) <|
      cw_iload (pc := 177) dX4_strayed_177 rfl <|
      cw_iload (pc := 179) dX4_strayed_179 rfl <|
      cw_iadd (pc := 181) dX4_strayed_181 <|
      cw_iret (pc := 182) dX4_strayed_182 hR <|
      (by first | (simp only [stC, strayL, strayF, e2]; simp_all; done) | (simp only [stC, strayL, strayF]; simp_all; intro h; exfalso; grind))
  by_cases e3 : μ (land + 2) p = 3
  · refine cw_tabI (v := 3) (tgt := 211) (pc := 124) dX4_strayed_124 (by rw [e3]; rfl) (by decide) (by decide) rfl (by decide) <|
      cw_iload (pc := 211) dX4_strayed_211 rfl <|
      cw_iload (pc := 213) dX4_strayed_213 rfl <|
      cw_icmp_le (tgt := 223) (pc := 215) dX4_strayed_215 (by decide) (fun c215 => ?_) (fun c215 => ?_)
    · refine cw_iconst (v := 0) (pc := 223) dX4_strayed_223 (by decide) <|
        cw_iret (pc := 224) dX4_strayed_224 hR <|
        (by first | (simp only [stC, strayL, strayF, e3]; simp_all; done) | (simp only [stC, strayL, strayF]; simp_all; intro h; exfalso; grind))
    · refine cw_iload (pc := 218) dX4_strayed_218 rfl <|
        cw_goto (tgt := 224) (pc := 220) dX4_strayed_220 (by decide) <|
        cw_iret (pc := 224) dX4_strayed_224 hR <|
        (by first | (simp only [stC, strayL, strayF, e3]; simp_all; done) | (simp only [stC, strayL, strayF]; simp_all; intro h; exfalso; grind))
  by_cases e4 : μ (land + 2) p = 4
  · refine cw_tabI (v := 4) (tgt := 169) (pc := 124) dX4_strayed_124 (by rw [e4]; rfl) (by decide) (by decide) rfl (by decide) <|
      cw_iload (pc := 169) dX4_strayed_169 rfl <|
      cw_iconst (v := 2) (pc := 171) dX4_strayed_171 (by decide) <|
      cw_idiv (pc := 172) dX4_strayed_172 (by decide) <|
      cw_iload (pc := 173) dX4_strayed_173 rfl <|
      cw_isub (pc := 175) dX4_strayed_175 <|
      cw_iret (pc := 176) dX4_strayed_176 hR <|
      (by first | (simp only [stC, strayL, strayF, e4]; simp_all; done) | (simp only [stC, strayL, strayF]; simp_all; intro h; exfalso; grind))
  by_cases e5 : μ (land + 2) p = 5
  · refine cw_tabI (v := 5) (tgt := 183) (pc := 124) dX4_strayed_124 (by rw [e5]; rfl) (by decide) (by decide) rfl (by decide) <|
      cw_aload_n (pc := 183) dX4_strayed_183 rfl rfl <|
      cw_getR (q := P) (t := land) (pc := 184) dX4_strayed_184 fX4_23 hP.1 (by decide) rfl <|
      cw_getI (q := land) (pc := 187) dX4_strayed_187 fX4_49 hk.1 (by decide) rfl <|
      cw_iconst (v := 2) (pc := 190) dX4_strayed_190 (by decide) <|
      cw_irem (pc := 191) dX4_strayed_191 (by decide) <|
      cw_iconst (v := 1) (pc := 192) dX4_strayed_192 (by decide) <|
      cw_icmp_ne (tgt := 205) (pc := 193) dX4_strayed_193 (by decide) (fun c193 => ?_) (fun c193 => ?_)
    · refine cw_iload (pc := 205) dX4_strayed_205 rfl <|
        cw_iload (pc := 207) dX4_strayed_207 rfl <|
        cw_iadd (pc := 209) dX4_strayed_209 <|
        cw_iret (pc := 210) dX4_strayed_210 hR <|
        (by first | (simp only [stC, strayL, strayF, e5]; simp_all; done) | (simp only [stC, strayL, strayF]; simp_all; intro h; exfalso; grind))
    · refine cw_iload (pc := 196) dX4_strayed_196 rfl <|
        cw_iload (pc := 198) dX4_strayed_198 rfl <|
        cw_iadd (pc := 200) dX4_strayed_200 <|
        cw_ineg (pc := 201) dX4_strayed_201 <|
        cw_goto (tgt := 210) (pc := 202) dX4_strayed_202 (by decide) <|
        cw_iret (pc := 210) dX4_strayed_210 hR <|
        (by first | (simp only [stC, strayL, strayF, e5]; simp_all; done) | (simp only [stC, strayL, strayF]; simp_all; intro h; exfalso; grind))
  by_cases e6 : μ (land + 2) p = 6
  · refine cw_tabI (v := 6) (tgt := 225) (pc := 124) dX4_strayed_124 (by rw [e6]; rfl) (by decide) (by decide) rfl (by decide) <|
      cw_iload (pc := 225) dX4_strayed_225 rfl <|
      cw_iload (pc := 227) dX4_strayed_227 rfl <|
      cw_icmp_le (tgt := 237) (pc := 229) dX4_strayed_229 (by decide) (fun c229 => ?_) (fun c229 => ?_)
    · refine cw_iconst (v := 0) (pc := 237) dX4_strayed_237 (by decide) <|
        cw_aload_n (pc := 238) dX4_strayed_238 rfl rfl <|
        cw_getR (q := P) (t := land) (pc := 239) dX4_strayed_239 fX4_23 hP.1 (by decide) rfl <|
        cw_getR (q := land) (t := land + 6) (pc := 242) dX4_strayed_242 fX4_57 hk.1 (by decide) rfl <|
        cw_iload_n (pc := 245) dX4_strayed_245 rfl rfl <|
        cw_iconst (v := 4) (pc := 246) dX4_strayed_246 (by decide) <|
        cw_imul (pc := 247) dX4_strayed_247 <|
        cw_iload_n (pc := 248) dX4_strayed_248 rfl rfl <|
        cw_iconst (v := 4) (pc := 249) dX4_strayed_249 (by decide) <|
        cw_irem (pc := 250) dX4_strayed_250 (by decide) <|
        cw_iadd (pc := 251) dX4_strayed_251 <|
        cw_ial (q := land + 6) (jn := ((p * 4) + (x % 4))) (pc := 252) dX4_strayed_252 hk.2.2.2.2.2.2 (nx_add (nx_mul rfl rfl) (pk_rem (d := 4) (by omega) (by decide) (by decide))) (by omega) (by decide) <|
        cw_iadd (pc := 253) dX4_strayed_253 <|
        cw_iconst (v := 4) (pc := 254) dX4_strayed_254 (by decide) <|
        cw_isub (pc := 255) dX4_strayed_255 <|
        cw_iret (pc := 256) dX4_strayed_256 hR <|
        (by first | (simp only [stC, strayL, strayF, e6]; simp_all; done) | (simp only [stC, strayL, strayF]; simp_all; intro h; exfalso; grind))
    · refine cw_iload (pc := 232) dX4_strayed_232 rfl <|
        cw_goto (tgt := 238) (pc := 234) dX4_strayed_234 (by decide) <|
        cw_aload_n (pc := 238) dX4_strayed_238 rfl rfl <|
        cw_getR (q := P) (t := land) (pc := 239) dX4_strayed_239 fX4_23 hP.1 (by decide) rfl <|
        cw_getR (q := land) (t := land + 6) (pc := 242) dX4_strayed_242 fX4_57 hk.1 (by decide) rfl <|
        cw_iload_n (pc := 245) dX4_strayed_245 rfl rfl <|
        cw_iconst (v := 4) (pc := 246) dX4_strayed_246 (by decide) <|
        cw_imul (pc := 247) dX4_strayed_247 <|
        cw_iload_n (pc := 248) dX4_strayed_248 rfl rfl <|
        cw_iconst (v := 4) (pc := 249) dX4_strayed_249 (by decide) <|
        cw_irem (pc := 250) dX4_strayed_250 (by decide) <|
        cw_iadd (pc := 251) dX4_strayed_251 <|
        cw_ial (q := land + 6) (jn := ((p * 4) + (x % 4))) (pc := 252) dX4_strayed_252 hk.2.2.2.2.2.2 (nx_add (nx_mul rfl rfl) (pk_rem (d := 4) (by omega) (by decide) (by decide))) (by omega) (by decide) <|
        cw_iadd (pc := 253) dX4_strayed_253 <|
        cw_iconst (v := 4) (pc := 254) dX4_strayed_254 (by decide) <|
        cw_isub (pc := 255) dX4_strayed_255 <|
        cw_iret (pc := 256) dX4_strayed_256 hR <|
        (by first | (simp only [stC, strayL, strayF, e6]; simp_all; done) | (simp only [stC, strayL, strayF]; simp_all; intro h; exfalso; grind))
  refine cw_tabD (tgt := 257) (pc := 124) dX4_strayed_124 (sw16 e1 e2 e3 e4 e5 e6) (by decide) <|
    cw_iload (pc := 257) dX4_strayed_257 rfl <|
    cw_iret (pc := 259) dX4_strayed_259 hR <|
    ⟨by simp [stC, strayL, strayF, e1, e2, e3, e4, e5, e6], hS⟩
theorem stC_congr {μ μ' : Mem} {k : Nat} {code : PCo} {p x l : Nat} {f : Int32} (h0 : μ' k = μ k) (h2 : μ' (k + 2) = μ (k + 2)) (h3 : μ' (k + 3) = μ (k + 3)) (h6 : μ' (k + 6) = μ (k + 6)) : stC μ' k code p x l f = stC μ k code p x l f := by unfold stC; rw [h0, h2, h3, h6]
def mv (l : Nat) (t : Int32) : Int32 := if 0 < t ∧ l < 8 then 1 else if t < 0 ∧ 0 < l then -1 else 0
theorem mv_spec (l : Nat) (t : Int32) : (mv l t = 0 ∧ went l t = l) ∨ (mv l t = 1 ∧ went l t = l + 1) ∨ (mv l t = -1 ∧ 0 < l ∧ went l t = l - 1) := by
  unfold mv went
  by_cases h1 : 0 < t ∧ l < 8
  · simp [h1]
  · by_cases h2 : t < 0 ∧ 0 < l
    · simp [h1, h2]
    · simp [h1, h2]
theorem lane_p1 : ∀ l, l < 9 → ((0 ≤ nI l + 1 ∧ nI l + 1 < 9) ↔ l < 8) := by decide +kernel
theorem lane_m1 : ∀ l, l < 9 → ((0 ≤ nI l + (-1) ∧ nI l + (-1) < 9) ↔ 0 < l) := by decide +kernel
theorem lane_mv {l : Nat} (h : l ≤ 8) (t : Int32) : nI l + mv l t = nI (went l t) := by
  rcases mv_spec l t with ⟨h1, h2⟩ | ⟨h1, h2⟩ | ⟨h1, h3, h2⟩
  · rw [h1, h2]; simp
  · rw [h1, h2, nI_1]
  · rw [h1, h2]; exact sb_m1 h3
theorem stat_mv {ln : Nat → Nat} {i : Nat} {m lt : Int32} (hm : (m = 0 ∧ ln (i + 1) = ln i) ∨ (m = 1 ∧ ln (i + 1) = ln i + 1) ∨ (m = -1 ∧ 0 < ln i ∧ ln (i + 1) = ln i - 1)) (hl : lt.toInt = (stat ln i).2.2) (hr : lt = 0 ∨ lt = 1 ∨ lt = -1) :
    (m = 0 → stat ln (i + 1) = stat ln i) ∧ (¬ m = 0 → m + lt = 0 → stat ln (i + 1) = ((stat ln i).1 + 1, (stat ln i).2.1 + 1, m.toInt)) ∧ (¬ m = 0 → ¬ m + lt = 0 → stat ln (i + 1) = ((stat ln i).1 + 1, (stat ln i).2.1, m.toInt)) := by
  have e1 : (1 : Int32).toInt = 1 := rfl
  have e2 : (-1 : Int32).toInt = -1 := rfl
  have e0 : (0 : Int32).toInt = 0 := rfl
  simp only [stat, ← hl]
  rcases hm with ⟨rfl, h⟩ | ⟨rfl, h⟩ | ⟨rfl, h0, h⟩
  · refine ⟨fun _ => ?_, fun h => absurd rfl h, fun h => absurd rfl h⟩
    rw [h]; simp [hl]
  · refine ⟨fun h => absurd h (by decide), fun _ h2 => ?_, fun _ h2 => ?_⟩
    · have : lt = -1 := by rcases hr with rfl | rfl | rfl <;> first | rfl | (exfalso; revert h2; decide)
      subst this
      rw [h]; simp [e1, e2]; omega
    · have : lt = 0 ∨ lt = 1 := by rcases hr with rfl | rfl | rfl <;> first | exact Or.inl rfl | exact Or.inr rfl | (exfalso; revert h2; decide)
      rw [h]; rcases this with rfl | rfl <;> simp [e1, e0] <;> omega
  · refine ⟨fun h => absurd h (by decide), fun _ h2 => ?_, fun _ h2 => ?_⟩
    · have : lt = 1 := by rcases hr with rfl | rfl | rfl <;> first | rfl | (exfalso; revert h2; decide)
      subst this
      rw [h]; simp [e1, e2]; omega
    · have : lt = 0 ∨ lt = -1 := by rcases hr with rfl | rfl | rfl <;> first | exact Or.inl rfl | exact Or.inr rfl | (exfalso; revert h2; decide)
      rw [h]; rcases this with rfl | rfl <;> simp [e2, e0] <;> omega
theorem i32_3 {x : Int32} (h : x.toInt = 0 ∨ x.toInt = 1 ∨ x.toInt = -1) : x = 0 ∨ x = 1 ∨ x = -1 := by
  rcases h with h | h | h
  · exact Or.inl (Int32.toInt_inj.mp h)
  · exact Or.inr (Or.inl (Int32.toInt_inj.mp h))
  · exact Or.inr (Or.inr (Int32.toInt_inj.mp h))
set_option maxHeartbeats 4000000 in
set_option maxRecDepth 100000 in
theorem c_X4_moved {E : Ev} {P land par : Nat} (hP : PloAt P land par) (hk : LandAt land) (hq : ParAt par) {μ : Mem} {code : PCo} (hc : CodeAt μ par code) (hw : WFc 0 code) {p : Nat} (hp : p < 6) (hm : nI p < μ land 1) {x l : Nat} (hx : x < 12) (hl : l ≤ 8) : AM E yX4_moved cX4_moved 6 (some .int) 2 [.ref P, .int (nI p), .int (nI x), .int (nI l)] μ (fun r μ' => r = some (.int (mv l (stC μ land code p x l (μ (land + 1) x)))) ∧ Same (fun q _ => q = P + 1) μ μ') := by
  refine am_of (own := RX4) (L := [.ref P, .int (nI p), .int (nI x), .int (nI l), .null, .null]) (by decide) rfl (Nat.le_of_ble_eq_true rfl) rfl (fun Γ hR => ?_)
  refine cw_aload_n (pc := 0) dX4_moved_0 rfl rfl <|
    cw_iload_n (pc := 1) dX4_moved_1 rfl rfl <|
    cw_iload_n (pc := 2) dX4_moved_2 rfl rfl <|
    cw_iload_n (pc := 3) dX4_moved_3 rfl rfl <|
    cw_invP (q := P) (pc := 4) dX4_moved_4 (c_X4_strayed hP hk hq hc hw hp hm hx) rfl vX4_60 hP.1 (by decide) rfl rfl rfl (by decide) <|
    ?_
  rintro _ μ1 ⟨rfl, hS⟩
  refine cw_istore (L' := [_, _, _, _, _, _]) (pc := 7) dX4_moved_7 (by decide) rfl rfl <|
    cw_iload (pc := 9) dX4_moved_9 rfl <|
    cw_if_le (tgt := 18) (pc := 11) dX4_moved_11 (by decide) (fun c11 => ?_) (fun c11 => ?_)
  · refine cw_iload (pc := 18) dX4_moved_18 rfl <|
      cw_if_ge (tgt := 27) (pc := 20) dX4_moved_20 (by decide) (fun c20 => ?_) (fun c20 => ?_)
    · refine cw_iconst (v := 0) (pc := 27) dX4_moved_27 (by decide) <|
        cw_istore (L' := [_, _, _, _, _, _]) (pc := 28) dX4_moved_28 (by decide) rfl rfl <|
        cw_iload_n (pc := 30) dX4_moved_30 rfl rfl <|
        cw_iload (pc := 31) dX4_moved_31 rfl <|
        cw_iadd (pc := 33) dX4_moved_33 <|
        cw_insNI (pc := 34) dX4_moved_34 c_X8_isLane vX4_64 rfl rfl rfl (by decide) <|
        cw_if_eq (tgt := 45) (pc := 37) dX4_moved_37 (by decide) (fun c37 => ?_) (fun c37 => ?_)
      · refine cw_iconst (v := 0) (pc := 45) dX4_moved_45 (by decide) <|
          ?_
        refine cw_iret (pc := 46) dX4_moved_46 hR ⟨?_, hS⟩
        have h1 : ¬ 0 < (stC μ land code p x l (μ (land + 1) x)) := Int32.not_lt.mpr c11
        have h2 : ¬ (stC μ land code p x l (μ (land + 1) x)) < 0 := Int32.not_lt.mpr c20
        simp only [mv, h1, h2, false_and, if_false]
      · refine cw_iload (pc := 40) dX4_moved_40 rfl <|
          cw_goto (tgt := 46) (pc := 42) dX4_moved_42 (by decide) <|
          ?_
        refine cw_iret (pc := 46) dX4_moved_46 hR ⟨?_, hS⟩
        have h1 : ¬ 0 < (stC μ land code p x l (μ (land + 1) x)) := Int32.not_lt.mpr c11
        have h2 : ¬ (stC μ land code p x l (μ (land + 1) x)) < 0 := Int32.not_lt.mpr c20
        simp only [mv, h1, h2, false_and, if_false]
    · refine cw_iconst (v := -1) (pc := 23) dX4_moved_23 (by decide) <|
        cw_goto (tgt := 28) (pc := 24) dX4_moved_24 (by decide) <|
        cw_istore (L' := [_, _, _, _, _, _]) (pc := 28) dX4_moved_28 (by decide) rfl rfl <|
        cw_iload_n (pc := 30) dX4_moved_30 rfl rfl <|
        cw_iload (pc := 31) dX4_moved_31 rfl <|
        cw_iadd (pc := 33) dX4_moved_33 <|
        cw_insNI (pc := 34) dX4_moved_34 c_X8_isLane vX4_64 rfl rfl rfl (by decide) <|
        cw_if_eq (tgt := 45) (pc := 37) dX4_moved_37 (by decide) (fun c37 => ?_) (fun c37 => ?_)
      · refine cw_iconst (v := 0) (pc := 45) dX4_moved_45 (by decide) <|
          ?_
        refine cw_iret (pc := 46) dX4_moved_46 hR ⟨?_, hS⟩
        have h1 : (stC μ land code p x l (μ (land + 1) x)) < 0 := Int32.not_le.mp c20
        have h2 : ¬ 0 < (stC μ land code p x l (μ (land + 1) x)) := Int32.not_lt.mpr c11
        rw [bI_0, lane_m1 l (by omega)] at c37
        simp only [mv, h2, c37, and_false, false_and, if_false]
      · refine cw_iload (pc := 40) dX4_moved_40 rfl <|
          cw_goto (tgt := 46) (pc := 42) dX4_moved_42 (by decide) <|
          ?_
        refine cw_iret (pc := 46) dX4_moved_46 hR ⟨?_, hS⟩
        have h1 : (stC μ land code p x l (μ (land + 1) x)) < 0 := Int32.not_le.mp c20
        have h2 : ¬ 0 < (stC μ land code p x l (μ (land + 1) x)) := Int32.not_lt.mpr c11
        rw [bI_n0, lane_m1 l (by omega)] at c37
        simp only [mv, h1, h2, c37, false_and, and_self, if_true, if_false]
  · refine cw_iconst (v := 1) (pc := 14) dX4_moved_14 (by decide) <|
      cw_goto (tgt := 28) (pc := 15) dX4_moved_15 (by decide) <|
      cw_istore (L' := [_, _, _, _, _, _]) (pc := 28) dX4_moved_28 (by decide) rfl rfl <|
      cw_iload_n (pc := 30) dX4_moved_30 rfl rfl <|
      cw_iload (pc := 31) dX4_moved_31 rfl <|
      cw_iadd (pc := 33) dX4_moved_33 <|
      cw_insNI (pc := 34) dX4_moved_34 c_X8_isLane vX4_64 rfl rfl rfl (by decide) <|
      cw_if_eq (tgt := 45) (pc := 37) dX4_moved_37 (by decide) (fun c37 => ?_) (fun c37 => ?_)
    · refine cw_iconst (v := 0) (pc := 45) dX4_moved_45 (by decide) <|
        ?_
      refine cw_iret (pc := 46) dX4_moved_46 hR ⟨?_, hS⟩
      have h1 : 0 < (stC μ land code p x l (μ (land + 1) x)) := Int32.not_le.mp c11
      rw [bI_0, lane_p1 l (by omega)] at c37
      have h2 : ¬ (stC μ land code p x l (μ (land + 1) x)) < 0 := fun z => absurd (Int32.lt_trans h1 z) (by simp)
      simp only [mv, h2, c37, and_false, false_and, if_false]
    · refine cw_iload (pc := 40) dX4_moved_40 rfl <|
        cw_goto (tgt := 46) (pc := 42) dX4_moved_42 (by decide) <|
        ?_
      refine cw_iret (pc := 46) dX4_moved_46 hR ⟨?_, hS⟩
      have h1 : 0 < (stC μ land code p x l (μ (land + 1) x)) := Int32.not_le.mp c11
      rw [bI_n0, lane_p1 l (by omega)] at c37
      simp only [mv, h1, c37, and_self, if_true]
set_option maxHeartbeats 4000000 in
set_option maxRecDepth 100000 in
theorem c_J9_abs_0f7a4 {E : Ev} {x : Int32} {μ : Mem} : AM E yJ9_abs_0f7a4 cJ9_abs_0f7a4 1 (some .int) 0 [.int x] μ (fun r μ' => r = some (.int (if 0 ≤ x then x else -x)) ∧ μ' = μ) := by
  refine am_ofF (own := RJ9) (L := [.int x]) (by decide +kernel) rfl (Nat.le_of_ble_eq_true rfl) rfl (fun Γ hR => ?_)
  refine cw_iload_n (pc := 0) dJ9_abs_0f7a4_0 rfl rfl <|
    cw_if_ge (tgt := 9) (pc := 1) dJ9_abs_0f7a4_1 (by decide) (fun c1 => ?_) (fun c1 => ?_)
  · refine cw_iload_n (pc := 9) dJ9_abs_0f7a4_9 rfl rfl <|
      cw_iret (pc := 10) dJ9_abs_0f7a4_10 hR <|
      ⟨by simp [*], rfl⟩
  · refine cw_iload_n (pc := 4) dJ9_abs_0f7a4_4 rfl rfl <|
      cw_ineg (pc := 5) dJ9_abs_0f7a4_5 <|
      cw_goto (tgt := 10) (pc := 6) dJ9_abs_0f7a4_6 (by decide) <|
      cw_iret (pc := 10) dJ9_abs_0f7a4_10 hR <|
      ⟨by simp [*], rfl⟩
set_option maxHeartbeats 4000000 in
set_option maxRecDepth 100000 in
theorem c_J9_min_7cf53 {E : Ev} {x y : Int32} {μ : Mem} : AM E yJ9_min_7cf53 cJ9_min_7cf53 2 (some .int) 0 [.int x, .int y] μ (fun r μ' => r = some (.int (if y < x then y else x)) ∧ μ' = μ) := by
  refine am_ofF (own := RJ9) (L := [.int x, .int y]) (by decide +kernel) rfl (Nat.le_of_ble_eq_true rfl) rfl (fun Γ hR => ?_)
  refine cw_iload_n (pc := 0) dJ9_min_7cf53_0 rfl rfl <|
    cw_iload_n (pc := 1) dJ9_min_7cf53_1 rfl rfl <|
    cw_icmp_gt (tgt := 9) (pc := 2) dJ9_min_7cf53_2 (by decide) (fun c2 => ?_) (fun c2 => ?_)
  · refine cw_iload_n (pc := 9) dJ9_min_7cf53_9 rfl rfl <|
      cw_iret (pc := 10) dJ9_min_7cf53_10 hR <|
      ⟨by first | (simp [*]; done) | (simp [*]; grind), rfl⟩
  · refine cw_iload_n (pc := 5) dJ9_min_7cf53_5 rfl rfl <|
      cw_goto (tgt := 10) (pc := 6) dJ9_min_7cf53_6 (by decide) <|
      cw_iret (pc := 10) dJ9_min_7cf53_10 hR <|
      ⟨by first | (simp [*]; done) | (simp [*]; grind), rfl⟩
set_option maxHeartbeats 4000000 in
set_option maxRecDepth 100000 in
theorem c_J9_max_7cf53 {E : Ev} {x y : Int32} {μ : Mem} : AM E yJ9_max_7cf53 cJ9_max_7cf53 2 (some .int) 0 [.int x, .int y] μ (fun r μ' => r = some (.int (if x < y then y else x)) ∧ μ' = μ) := by
  refine am_ofF (own := RJ9) (L := [.int x, .int y]) (by decide +kernel) rfl (Nat.le_of_ble_eq_true rfl) rfl (fun Γ hR => ?_)
  refine cw_iload_n (pc := 0) dJ9_max_7cf53_0 rfl rfl <|
    cw_iload_n (pc := 1) dJ9_max_7cf53_1 rfl rfl <|
    cw_icmp_lt (tgt := 9) (pc := 2) dJ9_max_7cf53_2 (by decide) (fun c2 => ?_) (fun c2 => ?_)
  · refine cw_iload_n (pc := 9) dJ9_max_7cf53_9 rfl rfl <|
      cw_iret (pc := 10) dJ9_max_7cf53_10 hR <|
      ⟨by first | (simp [*]; done) | (simp [*]; grind), rfl⟩
  · refine cw_iload_n (pc := 5) dJ9_max_7cf53_5 rfl rfl <|
      cw_goto (tgt := 10) (pc := 6) dJ9_max_7cf53_6 (by decide) <|
      cw_iret (pc := 10) dJ9_max_7cf53_10 hR <|
      ⟨by first | (simp [*]; done) | (simp [*]; grind), rfl⟩
theorem abs_lane : ∀ a, a < 9 → ∀ b, b < 9 → (if 0 ≤ nI a - nI b then nI a - nI b else -(nI a - nI b)) = nI (if a < b then b - a else a - b) := by decide +kernel
def PH (P : Nat) : Nat → Nat → Prop := fun q _ => q = P ∨ q = P + 1 ∨ q = P + 3
def gC (μ : Mem) (land : Nat) (code : PCo) (p : Nat) : Nat → Nat → Int32 := fun x l => stC μ land code p x l (μ (land + 1) x)
def lnC (μ : Mem) (land : Nat) (code : PCo) (p l : Nat) : Nat → Nat := lineL (gC μ land code p) l
theorem lnC_le {μ : Mem} {land : Nat} {code : PCo} {p l : Nat} (h : l ≤ 8) (x : Nat) : lnC μ land code p l x ≤ 8 := line_le h x
theorem lnC_s (μ : Mem) (land : Nat) (code : PCo) (p l x : Nat) : lnC μ land code p l (x + 1) = went (lnC μ land code p l x) (gC μ land code p x (lnC μ land code p l x)) := rfl
theorem lnC_0 (μ : Mem) (land : Nat) (code : PCo) (p l : Nat) : lnC μ land code p l 0 = l := rfl
theorem lnC_lt (μ : Mem) (land : Nat) (code : PCo) (p l i : Nat) : (stat (lnC μ land code p l) i).2.2 = 0 ∨ (stat (lnC μ land code p l) i).2.2 = 1 ∨ (stat (lnC μ land code p l) i).2.2 = -1 := stat_lt i
theorem stat_0 (ln : Nat → Nat) : stat ln 0 = (0, 0, 0) := rfl
theorem scoreN_eq (ln : Nat → Nat) {a b c d : Nat} (ha : a = (stat ln 12).1) (hb : b = (stat ln 12).2.1) (hc : c = ln 12) (hd : d = ln 0) : 40 - nI a - 2 * nI b - nI (if c < d then d - c else c - d) = scoreN ln := by subst ha; subst hb; subst hc; subst hd; rfl
set_option maxHeartbeats 4000000 in
set_option maxRecDepth 100000 in
theorem c_X4_span {E : Ev} {P land par : Nat} (hP : PloAt P land par) {μ : Mem} {a b : Nat} (ha : a ≤ 8) (hb : b ≤ 8) (h12 : μ (P + 3) 12 = nI a) (h0 : μ (P + 3) 0 = nI b) : AM E yX4_span cX4_span 1 (some .int) 1 [.ref P] μ (fun r μ' => r = some (.int (nI (if a < b then b - a else a - b))) ∧ μ' = μ) := by
  refine am_of (own := RX4) (L := [.ref P]) (by decide) rfl (Nat.le_of_ble_eq_true rfl) rfl (fun Γ hR => ?_)
  refine cw_aload_n (pc := 0) dX4_span_0 rfl rfl <|
    cw_getR (q := P) (t := P + 3) (pc := 1) dX4_span_1 fX4_20 hP.1 (by decide) rfl <|
    cw_bipush (v := 12) (pc := 4) dX4_span_4 (by decide) <|
    cw_ial (q := P + 3) (jn := 12) (pc := 6) dX4_span_6 hP.2.2.2.1 rfl (by decide) (by decide) <|
    cw_aload_n (pc := 7) dX4_span_7 rfl rfl <|
    cw_getR (q := P) (t := P + 3) (pc := 8) dX4_span_8 fX4_20 hP.1 (by decide) rfl <|
    cw_iconst (v := 0) (pc := 11) dX4_span_11 (by decide) <|
    cw_ial (q := P + 3) (jn := 0) (pc := 12) dX4_span_12 hP.2.2.2.1 rfl (by decide) (by decide) <|
    cw_isub (pc := 13) dX4_span_13 <|
    cw_insI (pc := 14) dX4_span_14 c_J9_abs_0f7a4 vX4_80 rfl rfl rfl (by decide) <|
    cw_iret (pc := 17) dX4_span_17 hR <|
    ⟨by rw [h12, h0, abs_lane a (by omega) b (by omega)], rfl⟩
set_option maxHeartbeats 4000000 in
set_option maxRecDepth 100000 in
theorem c_X4_score {E : Ev} {P land par : Nat} (hP : PloAt P land par) {μ : Mem} {a b : Nat} (ha : a ≤ 8) (hb : b ≤ 8) (h12 : μ (P + 3) 12 = nI a) (h0 : μ (P + 3) 0 = nI b) : AM E yX4_score cX4_score 1 (some .int) 2 [.ref P] μ (fun r μ' => r = some (.int (40 - μ P 5 - 2 * μ P 6 - nI (if a < b then b - a else a - b))) ∧ μ' = μ) := by
  refine am_of (own := RX4) (L := [.ref P]) (by decide) rfl (Nat.le_of_ble_eq_true rfl) rfl (fun Γ hR => ?_)
  refine cw_bipush (v := 40) (pc := 0) dX4_score_0 (by decide) <|
    cw_aload_n (pc := 2) dX4_score_2 rfl rfl <|
    cw_getI (q := P) (pc := 3) dX4_score_3 fX4_67 hP.1 (by decide) rfl <|
    cw_isub (pc := 6) dX4_score_6 <|
    cw_iconst (v := 2) (pc := 7) dX4_score_7 (by decide) <|
    cw_aload_n (pc := 8) dX4_score_8 rfl rfl <|
    cw_getI (q := P) (pc := 9) dX4_score_9 fX4_70 hP.1 (by decide) rfl <|
    cw_imul (pc := 12) dX4_score_12 <|
    cw_isub (pc := 13) dX4_score_13 <|
    cw_aload_n (pc := 14) dX4_score_14 rfl rfl <|
    cw_invI (q := P) (pc := 15) dX4_score_15 (c_X4_span hP ha hb h12 h0) rfl vX4_86 hP.1 (by decide) rfl rfl rfl (by decide) <|
    cw_isub (pc := 18) dX4_score_18 <|
    cw_iret (pc := 19) dX4_score_19 hR <|
    ⟨rfl, rfl⟩
set_option maxHeartbeats 4000000 in
set_option maxRecDepth 100000 in
theorem c_X4_laneAt {E : Ev} {P land par : Nat} (hP : PloAt P land par) {μ : Mem} {x : Nat} (hx : x ≤ 12) : AM E yX4_laneAt cX4_laneAt 2 (some .int) 0 [.ref P, .int (nI x)] μ (fun r μ' => r = some (.int (μ (P + 3) x)) ∧ μ' = μ) := by
  refine am_of (own := RX4) (L := [.ref P, .int (nI x)]) (by decide) rfl (Nat.le_of_ble_eq_true rfl) rfl (fun Γ hR => ?_)
  refine cw_iload_n (pc := 0) dX4_laneAt_0 rfl rfl <|
    cw_if_lt_F (tgt := 19) (pc := 1) dX4_laneAt_1 (by decide) (nI_pos (by omega)) <|
    cw_iload_n (pc := 4) dX4_laneAt_4 rfl rfl <|
    cw_bipush (v := 12) (pc := 5) dX4_laneAt_5 (by decide) <|
    cw_icmp_gt_F (tgt := 19) (pc := 7) dX4_laneAt_7 (by decide) (by first | exact Int32.not_lt.mpr (nI_le (b := 12) (by omega) (by decide)) | exact nI_nlt (a := 12) (by omega) (by decide)) <|
    cw_aload_n (pc := 10) dX4_laneAt_10 rfl rfl <|
    cw_getR (q := P) (t := P + 3) (pc := 11) dX4_laneAt_11 fX4_20 hP.1 (by decide) rfl <|
    cw_iload_n (pc := 14) dX4_laneAt_14 rfl rfl <|
    cw_ial (q := P + 3) (jn := x) (pc := 15) dX4_laneAt_15 hP.2.2.2.1 rfl (by omega) (by decide) <|
    cw_goto (tgt := 20) (pc := 16) dX4_laneAt_16 (by decide) <|
    cw_iret (pc := 20) dX4_laneAt_20 hR <|
    ⟨rfl, rfl⟩
set_option maxHeartbeats 4000000 in
set_option maxRecDepth 100000 in
theorem c_X4_goes {E : Ev} {P land par : Nat} (hP : PloAt P land par) (hk : LandAt land) (hq : ParAt par) {μ : Mem} {code : PCo} (hc : CodeAt μ par code) (hw : WFc 0 code) {p : Nat} (hp : p < 6) (hm : nI p < μ land 1) {l : Nat} (hl : l ≤ 8) : AM E yX4_goes cX4_goes 6 (some .int) 3 [.ref P, .int (nI p), .int (nI l)] μ (fun r μ' => r = some (.int (scoreN (lnC μ land code p l))) ∧ Same (PH P) μ μ' ∧ (∀ j, j ≤ 12 → μ' (P + 3) j = nI (lnC μ land code p l j)) ∧ μ' P 5 = nI (stat (lnC μ land code p l) 12).1 ∧ μ' P 6 = nI (stat (lnC μ land code p l) 12).2.1) := by
  refine am_of (own := RX4) (L := [.ref P, .int (nI p), .int (nI l), .null, .null, .null]) (by decide) rfl (Nat.le_of_ble_eq_true rfl) rfl (fun Γ hR => ?_)
  refine cw_aload_n (pc := 0) dX4_goes_0 rfl rfl <|
    cw_iconst (v := 0) (pc := 1) dX4_goes_1 (by decide) <|
    cw_putI (q := P) (pc := 2) dX4_goes_2 pX4_67 hP.1 (by decide) rfl <|
    cw_aload_n (pc := 5) dX4_goes_5 rfl rfl <|
    cw_iconst (v := 0) (pc := 6) dX4_goes_6 (by decide) <|
    cw_putI (q := P) (pc := 7) dX4_goes_7 pX4_70 hP.1 (by decide) rfl <|
    cw_aload_n (pc := 10) dX4_goes_10 rfl rfl <|
    cw_getR (q := P) (t := P + 3) (pc := 11) dX4_goes_11 fX4_20 hP.1 (by decide) rfl <|
    cw_iconst (v := 0) (pc := 14) dX4_goes_14 (by decide) <|
    cw_iload_n (pc := 15) dX4_goes_15 rfl rfl <|
    cw_ias (q := P + 3) (jn := 0) (pc := 16) dX4_goes_16 hP.2.2.2.1 rfl (by decide) (by decide) <|
    cw_iconst (v := 0) (pc := 17) dX4_goes_17 (by decide) <|
    cw_istore_n (L' := [_, _, _, _, _, _]) (pc := 18) dX4_goes_18 rfl (by decide) rfl rfl <|
    cw_iconst (v := 0) (pc := 19) dX4_goes_19 (by decide) <|
    cw_istore (L' := [_, _, _, _, _, _]) (pc := 20) dX4_goes_20 (by decide) rfl rfl <|
    ?_
  refine cw_for (σ := Int32 × Int32 × Value) 12 (fun i a m => Same (PH P) μ m ∧ a.2.1 = nI i ∧ (∀ j, j ≤ i → m (P + 3) j = nI (lnC μ land code p l j)) ∧ m P 5 = nI (stat (lnC μ land code p l) i).1 ∧ m P 6 = nI (stat (lnC μ land code p l) i).2.1 ∧ a.1.toInt = (stat (lnC μ land code p l) i).2.2) (fun _ a => [.ref P, .int (nI p), .int (nI l), .int a.1, .int a.2.1, a.2.2]) ?_ ?_ 0 (0, 0, .null) _ (Nat.zero_le _) ⟨Same.s1 (Same.s1 (Same.s1 Same.rf (Or.inl rfl)) (Or.inl rfl)) (Or.inr (Or.inr rfl)), rfl, fun j hj => (by have e0 : j = 0 := (by omega); subst e0; rw [st_eq, lnC_0]), by rw [stat_0]; simp [st_at, nI_0], by rw [stat_0]; simp [st_at, nI_0], by rw [stat_0]; rfl⟩
  · rintro ⟨lt, x, z⟩ m ⟨hS, hx, hln, ho, hb, hlt⟩
    dsimp only at hx hlt ⊢
    refine cw_iload (pc := 22) dX4_goes_22 rfl <|
      cw_bipush (v := 12) (pc := 24) dX4_goes_24 (by decide) <|
      cw_icmp_ge_T (tgt := 109) (pc := 26) dX4_goes_26 (by decide) (by rw [hx]; decide) <|
      cw_aload_n (pc := 109) dX4_goes_109 rfl rfl <|
      cw_invI (q := P) (pc := 110) dX4_goes_110 (c_X4_score hP (lnC_le (μ := μ) (land := land) (code := code) (p := p) hl 12) (lnC_le (μ := μ) (land := land) (code := code) (p := p) hl 0) (hln 12 (Nat.le_refl _)) (hln 0 (by omega))) rfl vX4_76 hP.1 (by decide) rfl rfl rfl (by decide) <|
      cw_iret (pc := 113) dX4_goes_113 hR <|
      ⟨by rw [ho, hb, scoreN_eq (lnC μ land code p l) rfl rfl rfl rfl], hS, hln, ho, hb⟩
  · rintro i ⟨lt, x, z⟩ m hi ⟨hS, hx, hln, ho, hb, hlt⟩ ih
    dsimp only at hx hlt ⊢
    subst hx
    have b1 := hP.2.2.2.2.1
    have b2 := hP.2.2.2.2.2
    have n0 : m land = μ land := funext fun i => hS _ _ (by unfold PH; omega)
    have n1 : m (land + 1) = μ (land + 1) := funext fun i => hS _ _ (by unfold PH; omega)
    have n2 : m (land + 2) = μ (land + 2) := funext fun i => hS _ _ (by unfold PH; omega)
    have n3 : m (land + 3) = μ (land + 3) := funext fun i => hS _ _ (by unfold PH; omega)
    have n6 : m (land + 6) = μ (land + 6) := funext fun i => hS _ _ (by unfold PH; omega)
    have hcm : CodeAt m par code := hc.mo (funext fun i => hS _ _ (by unfold PH; omega)) (funext fun i => hS _ _ (by unfold PH; omega)) (funext fun i => hS _ _ (by unfold PH; omega))
    have hmm : nI p < m land 1 := by rw [n0]; exact hm
    have hle : lnC μ land code p l i ≤ 8 := lnC_le hl i
    have hli := hln i (Nat.le_refl _)
    have eg : stC m land code p i (lnC μ land code p l i) (m (land + 1) i) = gC μ land code p i (lnC μ land code p l i) := by rw [stC_congr n0 n2 n3 n6, n1]; rfl
    have enx : lnC μ land code p l (i + 1) = went (lnC μ land code p l i) (gC μ land code p i (lnC μ land code p l i)) := lnC_s _ _ _ _ _ _
    have hlt3 := i32_3 (by rw [hlt]; exact lnC_lt μ land code p l i)
    refine cw_iload (pc := 22) dX4_goes_22 rfl <|
      cw_bipush (v := 12) (pc := 24) dX4_goes_24 (by decide) <|
      cw_icmp_ge_F (tgt := 109) (pc := 26) dX4_goes_26 (by decide) (nI_ge (b := 12) hi (by decide)) <|
      cw_aload_n (pc := 29) dX4_goes_29 rfl rfl <|
      cw_iload_n (pc := 30) dX4_goes_30 rfl rfl <|
      cw_iload (pc := 31) dX4_goes_31 rfl <|
      cw_aload_n (pc := 33) dX4_goes_33 rfl rfl <|
      cw_getR (q := P) (t := P + 3) (pc := 34) dX4_goes_34 fX4_20 hP.1 (by decide) rfl <|
      cw_iload (pc := 37) dX4_goes_37 rfl <|
      cw_ial (q := P + 3) (jn := i) (pc := 39) dX4_goes_39 hP.2.2.2.1 rfl (by omega) (by decide) <|
      ?_
    rw [hli]
    refine cw_invP (q := P) (pc := 40) dX4_goes_40 (c_X4_moved hP hk hq hcm hw hp hmm hi hle) rfl vX4_73 hP.1 (by decide) rfl rfl rfl (by decide) <|
      ?_
    rintro _ m1 ⟨rfl, hS1⟩
    rw [eg]
    have hmv := mv_spec (lnC μ land code p l i) (gC μ land code p i (lnC μ land code p l i))
    have hlm := lane_mv hle (gC μ land code p i (lnC μ land code p l i))
    rw [← enx] at hmv hlm
    generalize mv (lnC μ land code p l i) (gC μ land code p i (lnC μ land code p l i)) = mo at hmv hlm
    obtain ⟨st0, st1, st2⟩ := stat_mv hmv hlt hlt3
    have hS2 : Same (PH P) μ m1 := hS.tr (hS1.mo (fun q i h => Or.inr (Or.inl h)))
    have l1 : ∀ j, j ≤ i → m1 (P + 3) j = nI (lnC μ land code p l j) := fun j hj => (hS1 _ _ (by show ¬ P + 3 = P + 1; omega)).trans (hln j hj)
    have o1 : m1 P 5 = m P 5 := hS1 _ _ (by show ¬ P = P + 1; omega)
    have o2 : m1 P 6 = m P 6 := hS1 _ _ (by show ¬ P = P + 1; omega)
    have hx1 : nI i + 1 = nI (i + 1) := nI_1 i
    have lq : ∀ j, j ≤ i + 1 → (st m1 (P + 3) (i + 1) (m1 (P + 3) i + mo)) (P + 3) j = nI (lnC μ land code p l j) := by
      intro j hj
      by_cases hj1 : j = i + 1
      · subst hj1; rw [st_eq, l1 i (Nat.le_refl _), hlm]
      · rw [st_at, if_neg (by omega)]; exact l1 j (by omega)
    have np : ¬ P + 3 = P := by omega
    refine cw_istore (L' := [_, _, _, _, _, _]) (pc := 43) dX4_goes_43 (by decide) rfl rfl <|
      cw_aload_n (pc := 45) dX4_goes_45 rfl rfl <|
      cw_getR (q := P) (t := P + 3) (pc := 46) dX4_goes_46 fX4_20 hP.1 (by decide) rfl <|
      cw_iload (pc := 49) dX4_goes_49 rfl <|
      cw_iconst (v := 1) (pc := 51) dX4_goes_51 (by decide) <|
      cw_iadd (pc := 52) dX4_goes_52 <|
      cw_aload_n (pc := 53) dX4_goes_53 rfl rfl <|
      cw_getR (q := P) (t := P + 3) (pc := 54) dX4_goes_54 fX4_20 hP.1 (by decide) rfl <|
      cw_iload (pc := 57) dX4_goes_57 rfl <|
      cw_ial (q := P + 3) (jn := i) (pc := 59) dX4_goes_59 hP.2.2.2.1 rfl (by omega) (by decide) <|
      cw_iload (pc := 60) dX4_goes_60 rfl <|
      cw_iadd (pc := 62) dX4_goes_62 <|
      cw_ias (q := P + 3) (jn := (i + 1)) (pc := 63) dX4_goes_63 hP.2.2.2.1 (nx_add rfl rfl) (by omega) (by decide) <|
      cw_iload (pc := 64) dX4_goes_64 rfl <|
      cw_if_eq (tgt := 103) (pc := 66) dX4_goes_66 (by decide) (fun c66 => ?_) (fun c66 => ?_)
    · refine cw_iincL (L' := [_, _, _, _, _, _]) (c := 1) (pc := 103) dX4_goes_103 rfl (by decide) (by decide) rfl rfl <|
        cw_goto (tgt := 22) (pc := 106) dX4_goes_106 (by decide) <|
        ?_
      first
        | exact ih (_, _, _) _ ⟨Same.s1 hS2 (Or.inr (Or.inr rfl)), hx1, lq, by rw [st_at, if_neg (by omega), o1, ho, st0 c66], by rw [st_at, if_neg (by omega), o2, hb, st0 c66], by rw [hlt, st0 c66]⟩
        | exact ih (_, _, _) _ ⟨Same.s1 (Same.s1 (Same.s1 hS2 (Or.inr (Or.inr rfl))) (Or.inl rfl)) (Or.inl rfl), hx1, fun j hj => by rw [st_at, if_neg (by omega), st_at, if_neg (by omega)]; exact lq j hj, by simp only [st_at, np, if_false, and_false, false_and, o1, ho]; rw [st1 c66 c88]; simp [nI_1], by simp only [st_at, np, if_false, and_false, false_and, o2, hb]; rw [st1 c66 c88]; simp [nI_1], by rw [st1 c66 c88]⟩
        | exact ih (_, _, _) _ ⟨Same.s1 (Same.s1 (Same.s1 hS2 (Or.inr (Or.inr rfl))) (Or.inl rfl)) (Or.inl rfl), hx1, fun j hj => by rw [st_at, if_neg (by omega), st_at, if_neg (by omega)]; exact lq j hj, by simp only [st_at, np, if_false, and_false, false_and, o1, ho]; rw [st2 c66 c88]; simp [nI_1], by simp only [st_at, np, if_false, and_false, false_and, o2, hb]; rw [st2 c66 c88]; simp, by rw [st2 c66 c88]⟩
    · refine cw_aload_n (pc := 69) dX4_goes_69 rfl rfl <|
        cw_dup (pc := 70) dX4_goes_70 rfl <|
        cw_getI (q := P) (pc := 71) dX4_goes_71 fX4_67 hP.1 (by decide) rfl <|
        cw_iconst (v := 1) (pc := 74) dX4_goes_74 (by decide) <|
        cw_iadd (pc := 75) dX4_goes_75 <|
        cw_putI (q := P) (pc := 76) dX4_goes_76 pX4_67 hP.1 (by decide) rfl <|
        cw_aload_n (pc := 79) dX4_goes_79 rfl rfl <|
        cw_dup (pc := 80) dX4_goes_80 rfl <|
        cw_getI (q := P) (pc := 81) dX4_goes_81 fX4_70 hP.1 (by decide) rfl <|
        cw_iload (pc := 84) dX4_goes_84 rfl <|
        cw_iload_n (pc := 86) dX4_goes_86 rfl rfl <|
        cw_iadd (pc := 87) dX4_goes_87 <|
        cw_if_ne (tgt := 95) (pc := 88) dX4_goes_88 (by decide) (fun c88 => ?_) (fun c88 => ?_)
      · refine cw_iconst (v := 0) (pc := 95) dX4_goes_95 (by decide) <|
          cw_iadd (pc := 96) dX4_goes_96 <|
          cw_putI (q := P) (pc := 97) dX4_goes_97 pX4_70 hP.1 (by decide) rfl <|
          cw_iload (pc := 100) dX4_goes_100 rfl <|
          cw_istore_n (L' := [_, _, _, _, _, _]) (pc := 102) dX4_goes_102 rfl (by decide) rfl rfl <|
          cw_iincL (L' := [_, _, _, _, _, _]) (c := 1) (pc := 103) dX4_goes_103 rfl (by decide) (by decide) rfl rfl <|
          cw_goto (tgt := 22) (pc := 106) dX4_goes_106 (by decide) <|
          ?_
        first
          | exact ih (_, _, _) _ ⟨Same.s1 hS2 (Or.inr (Or.inr rfl)), hx1, lq, by rw [st_at, if_neg (by omega), o1, ho, st0 c66], by rw [st_at, if_neg (by omega), o2, hb, st0 c66], by rw [hlt, st0 c66]⟩
          | exact ih (_, _, _) _ ⟨Same.s1 (Same.s1 (Same.s1 hS2 (Or.inr (Or.inr rfl))) (Or.inl rfl)) (Or.inl rfl), hx1, fun j hj => by rw [st_at, if_neg (by omega), st_at, if_neg (by omega)]; exact lq j hj, by simp only [st_at, np, if_false, and_false, false_and, o1, ho]; rw [st1 c66 c88]; simp [nI_1], by simp only [st_at, np, if_false, and_false, false_and, o2, hb]; rw [st1 c66 c88]; simp [nI_1], by rw [st1 c66 c88]⟩
          | exact ih (_, _, _) _ ⟨Same.s1 (Same.s1 (Same.s1 hS2 (Or.inr (Or.inr rfl))) (Or.inl rfl)) (Or.inl rfl), hx1, fun j hj => by rw [st_at, if_neg (by omega), st_at, if_neg (by omega)]; exact lq j hj, by simp only [st_at, np, if_false, and_false, false_and, o1, ho]; rw [st2 c66 c88]; simp [nI_1], by simp only [st_at, np, if_false, and_false, false_and, o2, hb]; rw [st2 c66 c88]; simp, by rw [st2 c66 c88]⟩
      · refine cw_iconst (v := 1) (pc := 91) dX4_goes_91 (by decide) <|
          cw_goto (tgt := 96) (pc := 92) dX4_goes_92 (by decide) <|
          cw_iadd (pc := 96) dX4_goes_96 <|
          cw_putI (q := P) (pc := 97) dX4_goes_97 pX4_70 hP.1 (by decide) rfl <|
          cw_iload (pc := 100) dX4_goes_100 rfl <|
          cw_istore_n (L' := [_, _, _, _, _, _]) (pc := 102) dX4_goes_102 rfl (by decide) rfl rfl <|
          cw_iincL (L' := [_, _, _, _, _, _]) (c := 1) (pc := 103) dX4_goes_103 rfl (by decide) (by decide) rfl rfl <|
          cw_goto (tgt := 22) (pc := 106) dX4_goes_106 (by decide) <|
          ?_
        first
          | exact ih (_, _, _) _ ⟨Same.s1 hS2 (Or.inr (Or.inr rfl)), hx1, lq, by rw [st_at, if_neg (by omega), o1, ho, st0 c66], by rw [st_at, if_neg (by omega), o2, hb, st0 c66], by rw [hlt, st0 c66]⟩
          | exact ih (_, _, _) _ ⟨Same.s1 (Same.s1 (Same.s1 hS2 (Or.inr (Or.inr rfl))) (Or.inl rfl)) (Or.inl rfl), hx1, fun j hj => by rw [st_at, if_neg (by omega), st_at, if_neg (by omega)]; exact lq j hj, by simp only [st_at, np, if_false, and_false, false_and, o1, ho]; rw [st1 c66 c88]; simp [nI_1], by simp only [st_at, np, if_false, and_false, false_and, o2, hb]; rw [st1 c66 c88]; simp [nI_1], by rw [st1 c66 c88]⟩
          | exact ih (_, _, _) _ ⟨Same.s1 (Same.s1 (Same.s1 hS2 (Or.inr (Or.inr rfl))) (Or.inl rfl)) (Or.inl rfl), hx1, fun j hj => by rw [st_at, if_neg (by omega), st_at, if_neg (by omega)]; exact lq j hj, by simp only [st_at, np, if_false, and_false, false_and, o1, ho]; rw [st2 c66 c88]; simp [nI_1], by simp only [st_at, np, if_false, and_false, false_and, o2, hb]; rw [st2 c66 c88]; simp, by rw [st2 c66 c88]⟩
