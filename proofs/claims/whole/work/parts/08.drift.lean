def ParAt (k : Nat) : Prop := shape[k]? = some (3, 0, [some (k + 1), some (k + 2), none, none]) ∧ shape[k + 1]? = some (100, 100, []) ∧ shape[k + 2]? = some (100, 100, [])
theorem par_9 : ParAt 9 := ⟨rfl, rfl, rfl⟩
theorem par_30 : ParAt 30 := ⟨rfl, rfl, rfl⟩
theorem par_62 : ParAt 62 := ⟨rfl, rfl, rfl⟩
/-- a PARISH's rows hold a code -/
def CodeAt (μ : Mem) (k : Nat) (code : PCo) : Prop := μ k 2 = nI code.length ∧ code.length ≤ 100 ∧ ∀ (i : Nat) (c : Nat × Nat), code[i]? = some c → μ (k + 1) i = nI c.1 ∧ μ (k + 2) i = nI c.2
set_option maxHeartbeats 4000000 in
set_option maxRecDepth 100000 in
theorem c_X3_drift {E : Ev} {k fq : Nat} (hk : ParAt k) (hf : shape[fq]? = some (100, 6, [])) {μ : Mem} {code : PCo} (hc : CodeAt μ k code) (hw : WFc 0 code) : AM E yX3_drift cX3_drift 8 (some .int) 0 [.ref k, .ref fq] μ (fun r μ' => r = some (.int (Drift (μ fq) code)) ∧ μ' = μ) := by
  refine am_of (own := RX3) (L := [.ref k, .ref fq, .null, .null, .null, .null, .null, .null]) (by decide) rfl (Nat.le_of_ble_eq_true rfl) rfl (fun Γ hR => ?_)
  refine cw_iconst (v := 0) (pc := 0) dX3_drift_0 (by decide) <|
    cw_istore_n (L' := [_, _, _, _, _, _, _, _]) (pc := 1) dX3_drift_1 rfl (by decide) rfl rfl <|
    cw_iconst (v := 0) (pc := 2) dX3_drift_2 (by decide) <|
    cw_istore_n (L' := [_, _, _, _, _, _, _, _]) (pc := 3) dX3_drift_3 rfl (by decide) rfl rfl <|
    cw_iconst (v := 0) (pc := 4) dX3_drift_4 (by decide) <|
    cw_istore (L' := [_, _, _, _, _, _, _, _]) (pc := 5) dX3_drift_5 (by decide) rfl rfl <|
    ?_
  refine cw_for (σ := Int32 × Int32 × Int32 × Value × Value × Value) code.length (fun i a m => m = μ ∧ a.1 = ((code.take i).foldl (dst (μ fq)) ([], 0)).2 ∧ a.2.1 = nI (enc ((code.take i).foldl (dst (μ fq)) ([], 0)).1) ∧ a.2.2.1 = nI i ∧ ((code.take i).foldl (dst (μ fq)) ([], 0)).1.length ≤ 14 ∧ WFc ((code.take i).foldl (dst (μ fq)) ([], 0)).1.length (code.drop i)) (fun _ a => [.ref k, .ref fq, .int a.1, .int a.2.1, .int a.2.2.1, a.2.2.2.1, a.2.2.2.2.1, a.2.2.2.2.2]) ?_ ?_ 0 (0, 0, 0, .null, .null, .null) μ (Nat.zero_le _) ⟨rfl, rfl, rfl, rfl, by simp, by simpa using hw⟩
  · rintro ⟨s, w, x, z5, z6, z7⟩ μ' ⟨hm, hs, hww, hx, hl, hwf⟩
    dsimp only at hs hww hx hl hwf ⊢
    subst hm
    refine cw_iload (pc := 7) dX3_drift_7 rfl <|
      cw_aload_n (pc := 9) dX3_drift_9 rfl rfl <|
      cw_getI (q := k) (pc := 10) dX3_drift_10 fX3_22 hk.1 (by decide) rfl <|
      cw_icmp_ge_T (tgt := 234) (pc := 13) dX3_drift_13 (by decide) (by rw [hc.1, hx]; exact nI_le (Nat.le_refl _) (by have := hc.2.1; omega)) <|
      cw_iload_n (pc := 234) dX3_drift_234 rfl rfl <|
      cw_iret (pc := 235) dX3_drift_235 hR <|
      ⟨by rw [hs, List.take_length]; rfl, rfl⟩
  · rintro i ⟨s, w, x, z5, z6, z7⟩ μ' hi ⟨hm, hs, hww, hx, hl, hwf⟩ ih
    dsimp only at hs hww hx hl hwf ⊢
    subst hm
    obtain ⟨c, hci⟩ : ∃ c, code[i]? = some c := ⟨_, List.getElem?_eq_getElem hi⟩
    obtain ⟨hop, hnn⟩ := hc.2.2 i c hci
    have hlen := hc.2.1
    have hnx := take_succ_fold (dst (μ' fq)) ([], 0) code hci
    rw [drop_cons_of hci] at hwf
    obtain ⟨g1, g2, g3, g4, g5, g6⟩ := hwf
    generalize hF : (code.take i).foldl (dst (μ' fq)) ([], 0) = F at *
    obtain ⟨stk, sm⟩ := F
    dsimp only at hs hww hl g3 g4 g5 g6 hnx
    subst hs; subst hww
    have hx1 : x + 1 = nI (i + 1) := by rw [hx, nI_1]
    have nxt : ∀ (s' : List Bool × Int32) (w' : Int32) (z5 z6 z7 : Value), dst (μ' fq) (stk, s) c = s' → w' = nI (enc s'.1) → s'.1.length ≤ 14 → WFc s'.1.length (code.drop (i + 1)) → CW E Γ cX3_drift 8 RX3 0 7 [.ref k, .ref fq, .int s'.2, .int w', .int (x + 1), z5, z6, z7] [] μ' := by
      intro s' w' z5 z6 z7 h1 h2 h3 h4
      subst h1; subst h2
      exact ih (_, _, _, z5, z6, z7) μ' ⟨rfl, by rw [hnx], by rw [hnx]; rfl, hx1, by rw [hnx]; exact h3, by rw [hnx]; exact h4⟩
    clear ih
    refine cw_iload (pc := 7) dX3_drift_7 rfl <|
      cw_aload_n (pc := 9) dX3_drift_9 rfl rfl <|
      cw_getI (q := k) (pc := 10) dX3_drift_10 fX3_22 hk.1 (by decide) rfl <|
      cw_icmp_ge_F (tgt := 234) (pc := 13) dX3_drift_13 (by decide) (by rw [hc.1, hx]; exact nI_ge hi (by have := hc.2.1; omega)) <|
      cw_iload (pc := 16) dX3_drift_16 rfl <|
      cw_bipush (v := 100) (pc := 18) dX3_drift_18 (by decide) <|
      cw_icmp_ge_F (tgt := 234) (pc := 20) dX3_drift_20 (by decide) (by rw [hx]; exact nI_ge (b := 100) (by have := hc.2.1; omega) (by decide)) <|
      cw_aload_n (pc := 23) dX3_drift_23 rfl rfl <|
      cw_getR (q := k) (t := k + 1) (pc := 24) dX3_drift_24 fX3_9 hk.1 (by decide) rfl <|
      cw_iload (pc := 27) dX3_drift_27 rfl <|
      cw_ial (q := k + 1) (jn := i) (pc := 29) dX3_drift_29 hk.2.1 hx (by have := hc.2.1; omega) (by decide) <|
      ?_
    rcases (show c.1 < 18 ∨ c.1 = 18 ∨ c.1 = 19 ∨ c.1 = 20 ∨ c.1 = 21 ∨ c.1 = 22 by omega) with e | e | e | e | e | e
    · obtain ⟨k1, k2⟩ := g3 e
      have hmod : μ' (k + 1) i - μ' (k + 1) i / 3 * 3 = nI (c.1 % 3) := by rw [hop]; exact pk_rem (by omega) (by decide) (by decide)
      have hdiv : μ' (k + 1) i / 3 = nI (c.1 / 3) := by rw [hop]; exact pk_div (d := 3) (by omega) (by decide) (by decide)
      have hb : ∀ b, b = tstB (μ' fq) c.1 c.2 → dst (μ' fq) (stk, s) c = (b :: stk, s) := by intro b hb; subst hb; simp [dst, e]
      have fin1 : tstB (μ' fq) c.1 c.2 = true → ∀ z5 z6 z7, CW E Γ cX3_drift 8 RX3 0 7 [.ref k, .ref fq, .int s, .int (nI (enc stk) <<< (1 &&& 31) ||| 1), .int (x + 1), z5, z6, z7] [] μ' := fun hb1 z5 z6 z7 => nxt (true :: stk, s) _ z5 z6 z7 (hb _ hb1.symm) (w_psh (b := true) (by omega)) (by simp; omega) (by simpa using k2)
      have fin0 : tstB (μ' fq) c.1 c.2 = false → ∀ z5 z6 z7, CW E Γ cX3_drift 8 RX3 0 7 [.ref k, .ref fq, .int s, .int (nI (enc stk) <<< (1 &&& 31) ||| 0), .int (x + 1), z5, z6, z7] [] μ' := fun hb1 z5 z6 z7 => nxt (false :: stk, s) _ z5 z6 z7 (hb _ hb1.symm) (w_psh (b := false) (by omega)) (by simp; omega) (by simpa using k2)
      unfold tstB at fin1 fin0; rw [← hnn] at fin1 fin0
      refine cw_tabD (tgt := 136) (pc := 30) dX3_drift_30 (by rw [hop, nI_toInt (by omega)]; left; omega) (by decide) <|
        cw_aload_n (pc := 136) dX3_drift_136 rfl rfl <|
        cw_getR (q := k) (t := k + 1) (pc := 137) dX3_drift_137 fX3_9 hk.1 (by decide) rfl <|
        cw_iload (pc := 140) dX3_drift_140 rfl <|
        cw_ial (q := k + 1) (jn := i) (pc := 142) dX3_drift_142 hk.2.1 hx (by omega) (by decide) <|
        cw_iconst (v := 3) (pc := 143) dX3_drift_143 (by decide) <|
        cw_idiv (pc := 144) dX3_drift_144 (by decide) <|
        cw_istore (L' := [_, _, _, _, _, _, _, _]) (pc := 145) dX3_drift_145 (by decide) rfl rfl <|
        cw_iload (pc := 147) dX3_drift_147 rfl <|
        cw_if_lt_F (tgt := 166) (pc := 149) dX3_drift_149 (by decide) (by rw [hdiv]; exact nI_pos (by omega)) <|
        cw_iload (pc := 152) dX3_drift_152 rfl <|
        cw_aload_n (pc := 154) dX3_drift_154 rfl rfl <|
        cw_alen (q := fq) (v := 6) (pc := 155) dX3_drift_155 hf (by decide) <|
        cw_icmp_ge_F (tgt := 166) (pc := 156) dX3_drift_156 (by decide) (by rw [hdiv]; exact nI_ge (b := 6) (by omega) (by decide)) <|
        cw_aload_n (pc := 159) dX3_drift_159 rfl rfl <|
        cw_iload (pc := 160) dX3_drift_160 rfl <|
        cw_ial (q := fq) (jn := (c.1 / 3)) (pc := 162) dX3_drift_162 hf hdiv (by omega) (by decide) <|
        cw_goto (tgt := 167) (pc := 163) dX3_drift_163 (by decide) <|
        cw_istore (L' := [_, _, _, _, _, _, _, _]) (pc := 167) dX3_drift_167 (by decide) rfl rfl <|
        cw_iload (pc := 169) dX3_drift_169 rfl <|
        cw_aload_n (pc := 171) dX3_drift_171 rfl rfl <|
        cw_getR (q := k) (t := k + 2) (pc := 172) dX3_drift_172 fX3_15 hk.1 (by decide) rfl <|
        cw_iload (pc := 175) dX3_drift_175 rfl <|
        cw_ial (q := k + 2) (jn := i) (pc := 177) dX3_drift_177 hk.2.2 hx (by omega) (by decide) <|
        cw_icmp_ge (tgt := 185) (pc := 178) dX3_drift_178 (by decide) (fun c178 => ?_) (fun c178 => ?_)
      · refine cw_iload (pc := 185) dX3_drift_185 rfl <|
          cw_aload_n (pc := 187) dX3_drift_187 rfl rfl <|
          cw_getR (q := k) (t := k + 2) (pc := 188) dX3_drift_188 fX3_15 hk.1 (by decide) rfl <|
          cw_iload (pc := 191) dX3_drift_191 rfl <|
          cw_ial (q := k + 2) (jn := i) (pc := 193) dX3_drift_193 hk.2.2 hx (by omega) (by decide) <|
          cw_icmp_ne (tgt := 201) (pc := 194) dX3_drift_194 (by decide) (fun c194 => ?_) (fun c194 => ?_)
        · refine cw_iconst (v := 2) (pc := 201) dX3_drift_201 (by decide) <|
            cw_istore (L' := [_, _, _, _, _, _, _, _]) (pc := 202) dX3_drift_202 (by decide) rfl rfl <|
            cw_iload_n (pc := 204) dX3_drift_204 rfl rfl <|
            cw_iconst (v := 1) (pc := 205) dX3_drift_205 (by decide) <|
            cw_ishl (pc := 206) dX3_drift_206 <|
            cw_iload (pc := 207) dX3_drift_207 rfl <|
            cw_aload_n (pc := 209) dX3_drift_209 rfl rfl <|
            cw_getR (q := k) (t := k + 1) (pc := 210) dX3_drift_210 fX3_9 hk.1 (by decide) rfl <|
            cw_iload (pc := 213) dX3_drift_213 rfl <|
            cw_ial (q := k + 1) (jn := i) (pc := 215) dX3_drift_215 hk.2.1 hx (by omega) (by decide) <|
            cw_iconst (v := 3) (pc := 216) dX3_drift_216 (by decide) <|
            cw_irem (pc := 217) dX3_drift_217 (by decide) <|
            cw_icmp_ne (tgt := 225) (pc := 218) dX3_drift_218 (by decide) (fun c218 => ?_) (fun c218 => ?_)
          · refine cw_iconst (v := 0) (pc := 225) dX3_drift_225 (by decide) <|
              cw_ior (pc := 226) dX3_drift_226 <|
              cw_istore_n (L' := [_, _, _, _, _, _, _, _]) (pc := 227) dX3_drift_227 rfl (by decide) rfl rfl <|
              cw_iincL (L' := [_, _, _, _, _, _, _, _]) (c := 1) (pc := 228) dX3_drift_228 rfl (by decide) (by decide) rfl rfl <|
              cw_goto (tgt := 7) (pc := 231) dX3_drift_231 (by decide) <|
              ?_
            rw [hmod] at c218
            first
              | exact fin1 (by rcases (show c.1 % 3 = 0 ∨ c.1 % 3 = 1 ∨ c.1 % 3 = 2 by omega) with h | h | h <;> rw [h] at c218 ⊢ <;> first | (exfalso; revert c218; decide) | (simp; grind)) _ _ _
              | exact fin0 (by rcases (show c.1 % 3 = 0 ∨ c.1 % 3 = 1 ∨ c.1 % 3 = 2 by omega) with h | h | h <;> rw [h] at c218 ⊢ <;> first | (exfalso; revert c218; decide) | (simp; grind)) _ _ _
          · refine cw_iconst (v := 1) (pc := 221) dX3_drift_221 (by decide) <|
              cw_goto (tgt := 226) (pc := 222) dX3_drift_222 (by decide) <|
              cw_ior (pc := 226) dX3_drift_226 <|
              cw_istore_n (L' := [_, _, _, _, _, _, _, _]) (pc := 227) dX3_drift_227 rfl (by decide) rfl rfl <|
              cw_iincL (L' := [_, _, _, _, _, _, _, _]) (c := 1) (pc := 228) dX3_drift_228 rfl (by decide) (by decide) rfl rfl <|
              cw_goto (tgt := 7) (pc := 231) dX3_drift_231 (by decide) <|
              ?_
            rw [hmod] at c218
            first
              | exact fin1 (by rcases (show c.1 % 3 = 0 ∨ c.1 % 3 = 1 ∨ c.1 % 3 = 2 by omega) with h | h | h <;> rw [h] at c218 ⊢ <;> first | (exfalso; revert c218; decide) | (simp; grind)) _ _ _
              | exact fin0 (by rcases (show c.1 % 3 = 0 ∨ c.1 % 3 = 1 ∨ c.1 % 3 = 2 by omega) with h | h | h <;> rw [h] at c218 ⊢ <;> first | (exfalso; revert c218; decide) | (simp; grind)) _ _ _
        · refine cw_iconst (v := 1) (pc := 197) dX3_drift_197 (by decide) <|
            cw_goto (tgt := 202) (pc := 198) dX3_drift_198 (by decide) <|
            cw_istore (L' := [_, _, _, _, _, _, _, _]) (pc := 202) dX3_drift_202 (by decide) rfl rfl <|
            cw_iload_n (pc := 204) dX3_drift_204 rfl rfl <|
            cw_iconst (v := 1) (pc := 205) dX3_drift_205 (by decide) <|
            cw_ishl (pc := 206) dX3_drift_206 <|
            cw_iload (pc := 207) dX3_drift_207 rfl <|
            cw_aload_n (pc := 209) dX3_drift_209 rfl rfl <|
            cw_getR (q := k) (t := k + 1) (pc := 210) dX3_drift_210 fX3_9 hk.1 (by decide) rfl <|
            cw_iload (pc := 213) dX3_drift_213 rfl <|
            cw_ial (q := k + 1) (jn := i) (pc := 215) dX3_drift_215 hk.2.1 hx (by omega) (by decide) <|
            cw_iconst (v := 3) (pc := 216) dX3_drift_216 (by decide) <|
            cw_irem (pc := 217) dX3_drift_217 (by decide) <|
            cw_icmp_ne (tgt := 225) (pc := 218) dX3_drift_218 (by decide) (fun c218 => ?_) (fun c218 => ?_)
          · refine cw_iconst (v := 0) (pc := 225) dX3_drift_225 (by decide) <|
              cw_ior (pc := 226) dX3_drift_226 <|
              cw_istore_n (L' := [_, _, _, _, _, _, _, _]) (pc := 227) dX3_drift_227 rfl (by decide) rfl rfl <|
              cw_iincL (L' := [_, _, _, _, _, _, _, _]) (c := 1) (pc := 228) dX3_drift_228 rfl (by decide) (by decide) rfl rfl <|
              cw_goto (tgt := 7) (pc := 231) dX3_drift_231 (by decide) <|
              ?_
            rw [hmod] at c218
            first
              | exact fin1 (by rcases (show c.1 % 3 = 0 ∨ c.1 % 3 = 1 ∨ c.1 % 3 = 2 by omega) with h | h | h <;> rw [h] at c218 ⊢ <;> first | (exfalso; revert c218; decide) | (simp; grind)) _ _ _
              | exact fin0 (by rcases (show c.1 % 3 = 0 ∨ c.1 % 3 = 1 ∨ c.1 % 3 = 2 by omega) with h | h | h <;> rw [h] at c218 ⊢ <;> first | (exfalso; revert c218; decide) | (simp; grind)) _ _ _
          · refine cw_iconst (v := 1) (pc := 221) dX3_drift_221 (by decide) <|
              cw_goto (tgt := 226) (pc := 222) dX3_drift_222 (by decide) <|
              cw_ior (pc := 226) dX3_drift_226 <|
              cw_istore_n (L' := [_, _, _, _, _, _, _, _]) (pc := 227) dX3_drift_227 rfl (by decide) rfl rfl <|
              cw_iincL (L' := [_, _, _, _, _, _, _, _]) (c := 1) (pc := 228) dX3_drift_228 rfl (by decide) (by decide) rfl rfl <|
              cw_goto (tgt := 7) (pc := 231) dX3_drift_231 (by decide) <|
              ?_
            rw [hmod] at c218
            first
              | exact fin1 (by rcases (show c.1 % 3 = 0 ∨ c.1 % 3 = 1 ∨ c.1 % 3 = 2 by omega) with h | h | h <;> rw [h] at c218 ⊢ <;> first | (exfalso; revert c218; decide) | (simp; grind)) _ _ _
              | exact fin0 (by rcases (show c.1 % 3 = 0 ∨ c.1 % 3 = 1 ∨ c.1 % 3 = 2 by omega) with h | h | h <;> rw [h] at c218 ⊢ <;> first | (exfalso; revert c218; decide) | (simp; grind)) _ _ _
      · refine cw_iconst (v := 0) (pc := 181) dX3_drift_181 (by decide) <|
          cw_goto (tgt := 202) (pc := 182) dX3_drift_182 (by decide) <|
          cw_istore (L' := [_, _, _, _, _, _, _, _]) (pc := 202) dX3_drift_202 (by decide) rfl rfl <|
          cw_iload_n (pc := 204) dX3_drift_204 rfl rfl <|
          cw_iconst (v := 1) (pc := 205) dX3_drift_205 (by decide) <|
          cw_ishl (pc := 206) dX3_drift_206 <|
          cw_iload (pc := 207) dX3_drift_207 rfl <|
          cw_aload_n (pc := 209) dX3_drift_209 rfl rfl <|
          cw_getR (q := k) (t := k + 1) (pc := 210) dX3_drift_210 fX3_9 hk.1 (by decide) rfl <|
          cw_iload (pc := 213) dX3_drift_213 rfl <|
          cw_ial (q := k + 1) (jn := i) (pc := 215) dX3_drift_215 hk.2.1 hx (by omega) (by decide) <|
          cw_iconst (v := 3) (pc := 216) dX3_drift_216 (by decide) <|
          cw_irem (pc := 217) dX3_drift_217 (by decide) <|
          cw_icmp_ne (tgt := 225) (pc := 218) dX3_drift_218 (by decide) (fun c218 => ?_) (fun c218 => ?_)
        · refine cw_iconst (v := 0) (pc := 225) dX3_drift_225 (by decide) <|
            cw_ior (pc := 226) dX3_drift_226 <|
            cw_istore_n (L' := [_, _, _, _, _, _, _, _]) (pc := 227) dX3_drift_227 rfl (by decide) rfl rfl <|
            cw_iincL (L' := [_, _, _, _, _, _, _, _]) (c := 1) (pc := 228) dX3_drift_228 rfl (by decide) (by decide) rfl rfl <|
            cw_goto (tgt := 7) (pc := 231) dX3_drift_231 (by decide) <|
            ?_
          rw [hmod] at c218
          first
            | exact fin1 (by rcases (show c.1 % 3 = 0 ∨ c.1 % 3 = 1 ∨ c.1 % 3 = 2 by omega) with h | h | h <;> rw [h] at c218 ⊢ <;> first | (exfalso; revert c218; decide) | (simp; grind)) _ _ _
            | exact fin0 (by rcases (show c.1 % 3 = 0 ∨ c.1 % 3 = 1 ∨ c.1 % 3 = 2 by omega) with h | h | h <;> rw [h] at c218 ⊢ <;> first | (exfalso; revert c218; decide) | (simp; grind)) _ _ _
        · refine cw_iconst (v := 1) (pc := 221) dX3_drift_221 (by decide) <|
            cw_goto (tgt := 226) (pc := 222) dX3_drift_222 (by decide) <|
            cw_ior (pc := 226) dX3_drift_226 <|
            cw_istore_n (L' := [_, _, _, _, _, _, _, _]) (pc := 227) dX3_drift_227 rfl (by decide) rfl rfl <|
            cw_iincL (L' := [_, _, _, _, _, _, _, _]) (c := 1) (pc := 228) dX3_drift_228 rfl (by decide) (by decide) rfl rfl <|
            cw_goto (tgt := 7) (pc := 231) dX3_drift_231 (by decide) <|
            ?_
          rw [hmod] at c218
          first
            | exact fin1 (by rcases (show c.1 % 3 = 0 ∨ c.1 % 3 = 1 ∨ c.1 % 3 = 2 by omega) with h | h | h <;> rw [h] at c218 ⊢ <;> first | (exfalso; revert c218; decide) | (simp; grind)) _ _ _
            | exact fin0 (by rcases (show c.1 % 3 = 0 ∨ c.1 % 3 = 1 ∨ c.1 % 3 = 2 by omega) with h | h | h <;> rw [h] at c218 ⊢ <;> first | (exfalso; revert c218; decide) | (simp; grind)) _ _ _
    · obtain ⟨k1, k2⟩ := g4 e
      obtain ⟨b, t, rfl⟩ : ∃ b t, stk = b :: t := by cases stk with | nil => simp at k1 | cons b t => exact ⟨b, t, rfl⟩
      refine cw_tabI (v := 18) (tgt := 64) (pc := 30) dX3_drift_30 (by rw [hop, e]; rfl) (by decide) (by decide) rfl (by decide) <|
        cw_iload_n (pc := 64) dX3_drift_64 rfl rfl <|
        cw_iconst (v := 1) (pc := 65) dX3_drift_65 (by decide) <|
        cw_ixor (pc := 66) dX3_drift_66 <|
        cw_istore_n (L' := [_, _, _, _, _, _, _, _]) (pc := 67) dX3_drift_67 rfl (by decide) rfl rfl <|
        cw_goto (tgt := 228) (pc := 68) dX3_drift_68 (by decide) <|
        cw_iincL (L' := [_, _, _, _, _, _, _, _]) (c := 1) (pc := 228) dX3_drift_228 rfl (by decide) (by decide) rfl rfl <|
        cw_goto (tgt := 7) (pc := 231) dX3_drift_231 (by decide) <|
        ?_
      exact nxt ((!b) :: t, s) _ _ _ _ (by simp [dst, e]) (w_not (by simp at hl; omega)) (by simpa using hl) (by simpa using k2)
    · obtain ⟨k1, k2⟩ := g5 (by omega)
      obtain ⟨b, a, t, rfl⟩ : ∃ b a t, stk = b :: a :: t := by match stk, k1 with | [], k1 => simp at k1 | [b], k1 => simp at k1 | b :: a :: t, _ => exact ⟨b, a, t, rfl⟩
      refine cw_tabI (v := 19) (tgt := 71) (pc := 30) dX3_drift_30 (by rw [hop, e]; rfl) (by decide) (by decide) rfl (by decide) <|
        cw_iload_n (pc := 71) dX3_drift_71 rfl rfl <|
        cw_iconst (v := 1) (pc := 72) dX3_drift_72 (by decide) <|
        cw_ishr (pc := 73) dX3_drift_73 <|
        cw_iload_n (pc := 74) dX3_drift_74 rfl rfl <|
        cw_bipush (v := -2) (pc := 75) dX3_drift_75 (by decide) <|
        cw_ior (pc := 77) dX3_drift_77 <|
        cw_iand (pc := 78) dX3_drift_78 <|
        cw_istore_n (L' := [_, _, _, _, _, _, _, _]) (pc := 79) dX3_drift_79 rfl (by decide) rfl rfl <|
        cw_goto (tgt := 228) (pc := 80) dX3_drift_80 (by decide) <|
        cw_iincL (L' := [_, _, _, _, _, _, _, _]) (c := 1) (pc := 228) dX3_drift_228 rfl (by decide) (by decide) rfl rfl <|
        cw_goto (tgt := 7) (pc := 231) dX3_drift_231 (by decide) <|
        ?_
      exact nxt ((a && b) :: t, s) _ _ _ _ (by simp [dst, e]) (w_and (by simp at hl; omega)) (by simp at hl ⊢; omega) (by simpa using k2)
    · obtain ⟨k1, k2⟩ := g5 (by omega)
      obtain ⟨b, a, t, rfl⟩ : ∃ b a t, stk = b :: a :: t := by match stk, k1 with | [], k1 => simp at k1 | [b], k1 => simp at k1 | b :: a :: t, _ => exact ⟨b, a, t, rfl⟩
      refine cw_tabI (v := 20) (tgt := 83) (pc := 30) dX3_drift_30 (by rw [hop, e]; rfl) (by decide) (by decide) rfl (by decide) <|
        cw_iload_n (pc := 83) dX3_drift_83 rfl rfl <|
        cw_iconst (v := 1) (pc := 84) dX3_drift_84 (by decide) <|
        cw_ishr (pc := 85) dX3_drift_85 <|
        cw_iload_n (pc := 86) dX3_drift_86 rfl rfl <|
        cw_iconst (v := 1) (pc := 87) dX3_drift_87 (by decide) <|
        cw_iand (pc := 88) dX3_drift_88 <|
        cw_ior (pc := 89) dX3_drift_89 <|
        cw_istore_n (L' := [_, _, _, _, _, _, _, _]) (pc := 90) dX3_drift_90 rfl (by decide) rfl rfl <|
        cw_goto (tgt := 228) (pc := 91) dX3_drift_91 (by decide) <|
        cw_iincL (L' := [_, _, _, _, _, _, _, _]) (c := 1) (pc := 228) dX3_drift_228 rfl (by decide) (by decide) rfl rfl <|
        cw_goto (tgt := 7) (pc := 231) dX3_drift_231 (by decide) <|
        ?_
      exact nxt ((a || b) :: t, s) _ _ _ _ (by simp [dst, e]) (w_or (by simp at hl; omega)) (by simp at hl ⊢; omega) (by simpa using k2)
    · obtain ⟨k1, k2⟩ := g6 (by omega)
      obtain ⟨b, rfl⟩ : ∃ b, stk = [b] := by match stk, k1 with | [b], _ => exact ⟨b, rfl⟩
      have hv : s + (nI (enc [b]) &&& 1) * μ' (k + 2) i = s + (if b then nI c.2 else 0) := by rw [w_bit (by simp), hnn]; cases b <;> simp [nI_0, show nI 1 = 1 from rfl]
      refine cw_tabI (v := 21) (tgt := 94) (pc := 30) dX3_drift_30 (by rw [hop, e]; rfl) (by decide) (by decide) rfl (by decide) <|
        cw_iload_n (pc := 94) dX3_drift_94 rfl rfl <|
        cw_iload_n (pc := 95) dX3_drift_95 rfl rfl <|
        cw_iconst (v := 1) (pc := 96) dX3_drift_96 (by decide) <|
        cw_iand (pc := 97) dX3_drift_97 <|
        cw_aload_n (pc := 98) dX3_drift_98 rfl rfl <|
        cw_getR (q := k) (t := k + 2) (pc := 99) dX3_drift_99 fX3_15 hk.1 (by decide) rfl <|
        cw_iload (pc := 102) dX3_drift_102 rfl <|
        cw_ial (q := k + 2) (jn := i) (pc := 104) dX3_drift_104 hk.2.2 hx (by omega) (by decide) <|
        cw_imul (pc := 105) dX3_drift_105 <|
        cw_iadd (pc := 106) dX3_drift_106 <|
        cw_istore_n (L' := [_, _, _, _, _, _, _, _]) (pc := 107) dX3_drift_107 rfl (by decide) rfl rfl <|
        cw_iload_n (pc := 108) dX3_drift_108 rfl rfl <|
        cw_iconst (v := 1) (pc := 109) dX3_drift_109 (by decide) <|
        cw_ishr (pc := 110) dX3_drift_110 <|
        cw_istore_n (L' := [_, _, _, _, _, _, _, _]) (pc := 111) dX3_drift_111 rfl (by decide) rfl rfl <|
        cw_goto (tgt := 228) (pc := 112) dX3_drift_112 (by decide) <|
        cw_iincL (L' := [_, _, _, _, _, _, _, _]) (c := 1) (pc := 228) dX3_drift_228 rfl (by decide) (by decide) rfl rfl <|
        cw_goto (tgt := 7) (pc := 231) dX3_drift_231 (by decide) <|
        ?_
      rw [hv]; exact nxt ([], s + (if b then nI c.2 else 0)) _ _ _ _ (by simp [dst, e]) (w_shr (by simp)) (by simp) (by simpa using k2)
    · obtain ⟨k1, k2⟩ := g6 (by omega)
      obtain ⟨b, rfl⟩ : ∃ b, stk = [b] := by match stk, k1 with | [b], _ => exact ⟨b, rfl⟩
      have hv : s - (nI (enc [b]) &&& 1) * μ' (k + 2) i = s - (if b then nI c.2 else 0) := by rw [w_bit (by simp), hnn]; cases b <;> simp [nI_0, show nI 1 = 1 from rfl]
      refine cw_tabI (v := 22) (tgt := 115) (pc := 30) dX3_drift_30 (by rw [hop, e]; rfl) (by decide) (by decide) rfl (by decide) <|
        cw_iload_n (pc := 115) dX3_drift_115 rfl rfl <|
        cw_iload_n (pc := 116) dX3_drift_116 rfl rfl <|
        cw_iconst (v := 1) (pc := 117) dX3_drift_117 (by decide) <|
        cw_iand (pc := 118) dX3_drift_118 <|
        cw_aload_n (pc := 119) dX3_drift_119 rfl rfl <|
        cw_getR (q := k) (t := k + 2) (pc := 120) dX3_drift_120 fX3_15 hk.1 (by decide) rfl <|
        cw_iload (pc := 123) dX3_drift_123 rfl <|
        cw_ial (q := k + 2) (jn := i) (pc := 125) dX3_drift_125 hk.2.2 hx (by omega) (by decide) <|
        cw_imul (pc := 126) dX3_drift_126 <|
        cw_isub (pc := 127) dX3_drift_127 <|
        cw_istore_n (L' := [_, _, _, _, _, _, _, _]) (pc := 128) dX3_drift_128 rfl (by decide) rfl rfl <|
        cw_iload_n (pc := 129) dX3_drift_129 rfl rfl <|
        cw_iconst (v := 1) (pc := 130) dX3_drift_130 (by decide) <|
        cw_ishr (pc := 131) dX3_drift_131 <|
        cw_istore_n (L' := [_, _, _, _, _, _, _, _]) (pc := 132) dX3_drift_132 rfl (by decide) rfl rfl <|
        cw_goto (tgt := 228) (pc := 133) dX3_drift_133 (by decide) <|
        cw_iincL (L' := [_, _, _, _, _, _, _, _]) (c := 1) (pc := 228) dX3_drift_228 rfl (by decide) (by decide) rfl rfl <|
        cw_goto (tgt := 7) (pc := 231) dX3_drift_231 (by decide) <|
        ?_
      rw [hv]; exact nxt ([], s - (if b then nI c.2 else 0)) _ _ _ _ (by simp [dst, e]) (w_shr (by simp)) (by simp) (by simpa using k2)
