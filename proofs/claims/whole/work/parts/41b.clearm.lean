/-! ===== the model's clear ===== -/
def ML : Nat → Nat → Prop := fun q i => q = 73 ∨ (q = 67 ∧ (i = 13 ∨ i = 14))
theorem MC_ML {μ μ' : Mem} (h : Same MC μ μ') : Same ML μ μ' := h.mo (fun q i h => Or.inr h)
theorem Same.l68 {μ μ' : Mem} (h : Same ML μ μ') : μ' 68 = μ 68 := funext fun i => h _ _ (by unfold ML; omega)
theorem Same.l74 {μ μ' : Mem} (h : Same ML μ μ') : μ' 74 = μ 74 := funext fun i => h _ _ (by unfold ML; omega)
theorem Same.l75 {μ μ' : Mem} (h : Same ML μ μ') : μ' 75 = μ 75 := funext fun i => h _ _ (by unfold ML; omega)
theorem ML_MS {μ μ' : Mem} (h : Same ML μ μ') : Same MS μ μ' := h.mo (fun q i h => by unfold ML at h; unfold MS; omega)
theorem Same.q68 {μ μ' : Mem} (h : Same MQr μ μ') : μ' 68 = μ 68 := funext fun i => h _ _ (by unfold MQr; omega)
theorem tab_s {m m1 m2 : Mem} {i : Nat} {v w : Int32} (s1 : Same MD m m1) (s2 : Same MD (st m1 74 i v) m2) : (st m2 75 i w) 74 i = v ∧ (st m2 75 i w) 75 i = w ∧ ∀ y, y ≠ i → (st m2 75 i w) 74 y = m 74 y ∧ (st m2 75 i w) 75 y = m 75 y := by
  refine ⟨?_, st_eq _ _ _ _, fun y hy => ⟨?_, ?_⟩⟩
  · rw [st_at, if_neg (by omega), s2 74 i (by unfold MD; omega), st_eq]
  · rw [st_at, if_neg (by omega), s2 74 y (by unfold MD; omega), st_at, if_neg (fun h => hy h.2), s1 74 y (by unfold MD; omega)]
  · rw [st_at, if_neg (fun h => hy h.2), s2 75 y (by unfold MD; omega), st_at, if_neg (by omega), s1 75 y (by unfold MD; omega)]
theorem cntN2_s (m k : Nat) : cntN2 m (k + 1) = cntN2 m k + m / 2 ^ k % 2 := rfl
def lnK (s : Row) (code : PCo) (p m : Nat) : Nat → Nat := lineL (gK s code p m) (pgS s p)
theorem lnK_0 (s : Row) (code : PCo) (p m : Nat) : lnK s code p m 0 = pgS s p := rfl
theorem lnK_s (s : Row) (code : PCo) (p m x : Nat) : lnK s code p m (x + 1) = went (lnK s code p m x) (gK s code p m x (lnK s code p m x)) := rfl
theorem kS_ln (s : Row) (code : PCo) (p m : Nat) : kS s code p m = scoreN (lnK s code p m) := rfl
/-- how far one STRAYS with f strips lying -/
def stS (s : Row) (code : PCo) (p x l : Nat) (f : Int32) : Int32 := strayL code (s 0) p (s (39 + p)) (s (45 + p)) (fun j => s (57 + (p * 4 + j))) x l f
theorem gK_1 {s : Row} {code : PCo} {p m x l : Nat} (h : m / 2 ^ x % 2 = 1) : gK s code p m x l = stS s code p x l 0 := by unfold gK stS; rw [if_pos h]
theorem gK_0 {s : Row} {code : PCo} {p m x l : Nat} (h : ¬ m / 2 ^ x % 2 = 1) : gK s code p m x l = stS s code p x l (s (19 + x)) := by unfold gK stS; rw [if_neg h]
theorem ly_step (s : Row) (i : Nat) : nI (lyN s ((i + 8) / 9)) ||| (if 0 < s (19 + i / 9) then nI (2 ^ (i / 9)) else 0) = nI (lyN s ((i + 1 + 8) / 9)) := by
  have e : (i + 1 + 8) / 9 = i / 9 + 1 := by omega
  rw [e]
  by_cases h : 0 < s (19 + i / 9)
  · rw [if_pos h, nI_or]
    rcases (show (i + 8) / 9 = i / 9 ∨ (i + 8) / 9 = i / 9 + 1 by omega) with e2 | e2
    · rw [e2]; simp only [lyN]; rw [if_pos h]
    · rw [e2, ly_again h]
  · rw [if_neg h, Int32.or_zero]
    rcases (show (i + 8) / 9 = i / 9 ∨ (i + 8) / 9 = i / 9 + 1 by omega) with e2 | e2
    · rw [e2]; simp only [lyN]; rw [if_neg h]
    · rw [e2]
theorem clrF_s (ok : Nat → Bool) (m : Nat) : clrF ok (m + 1) = if ok m && (match clrF ok m with | none => true | some b => decide (cntN2 m 12 < cntN2 b 12)) then some m else clrF ok m := rfl
theorem clr_no {ok : Nat → Bool} {m : Nat} (h : ok m = false) : clrF ok (m + 1) = clrF ok m := by rw [clrF_s, h]; rfl
theorem clr_none {ok : Nat → Bool} {m : Nat} (h : ok m = true) (e : clrF ok m = none) : clrF ok (m + 1) = some m := by rw [clrF_s, h, e]; rfl
theorem clr_lt {ok : Nat → Bool} {m b : Nat} (h : ok m = true) (e : clrF ok m = some b) (c : cntN2 m 12 < cntN2 b 12) : clrF ok (m + 1) = some m := by rw [clrF_s, h, e]; simp [c]
theorem clr_ge {ok : Nat → Bool} {m b : Nat} (e : clrF ok m = some b) (c : ¬ cntN2 m 12 < cntN2 b 12) : clrF ok (m + 1) = some b := by rw [clrF_s, e]; simp [c]
theorem clr_lt4 {ok : Nat → Bool} {m b : Nat} (e : clrF ok m = some b) : b < m := by
  rcases clr_min ok m with ⟨h1, _⟩ | ⟨c, h1, h2, _⟩
  · rw [h1] at e; cases e
  · rw [h1] at e; cases e; exact h2.1
theorem sb_true {s : Row} {code : PCo} {mk p m : Nat} (h : subB s m = true) (h2 : nI mk ≤ kS s code p m) : clrB s code mk p m = true := by simp [clrB, h, h2]
theorem sb_f1 {s : Row} {code : PCo} {mk p m : Nat} (h : ¬ subB s m = true) : clrB s code mk p m = false := by simp [clrB, h]
theorem sb_f2 {s : Row} {code : PCo} {mk p m : Nat} (h : ¬ nI mk ≤ kS s code p m) : clrB s code mk p m = false := by simp [clrB, h]
set_option maxHeartbeats 4000000 in
set_option maxRecDepth 100000 in
theorem c_X9_countOf {E : Ev} {μ : Mem} {m : Nat} (hm : m < 2 ^ 31) : AM E yX9_countOf cX9_countOf 3 (some .int) 0 [.int (nI m)] μ (fun r μ' => r = some (.int (nI (cntN2 m 12))) ∧ μ' = μ) := by
  refine am_of (own := RX9) (L := [.int (nI m), .null, .null]) (by decide) rfl (Nat.le_of_ble_eq_true rfl) rfl (fun Γ hR => ?_)
  refine cw_iconst (v := 0) (pc := 0) dX9_countOf_0 (by decide) <|
    cw_istore_n (L' := [_, _, _]) (pc := 1) dX9_countOf_1 rfl (by decide) rfl rfl <|
    cw_iconst (v := 0) (pc := 2) dX9_countOf_2 (by decide) <|
    cw_istore_n (L' := [_, _, _]) (pc := 3) dX9_countOf_3 rfl (by decide) rfl rfl <|
    ?_
  refine cw_for (σ := Unit) 12 (fun i a x => x = μ) (fun i a => [.int (nI m), .int (nI (cntN2 m i)), .int (nI i)]) ?_ ?_ 0 () _ (Nat.zero_le _) rfl
  · rintro ⟨⟩ x rfl
    refine cw_iload_n (pc := 4) dX9_countOf_4 rfl rfl <|
      cw_bipush (v := 12) (pc := 5) dX9_countOf_5 (by decide) <|
      cw_icmp_ge_T (tgt := 24) (pc := 7) dX9_countOf_7 (by decide) (by decide) <|
      cw_iload_n (pc := 24) dX9_countOf_24 rfl rfl <|
      cw_iret (pc := 25) dX9_countOf_25 hR <|
      ⟨rfl, rfl⟩
  · rintro i ⟨⟩ x hi rfl ih
    refine cw_iload_n (pc := 4) dX9_countOf_4 rfl rfl <|
      cw_bipush (v := 12) (pc := 5) dX9_countOf_5 (by decide) <|
      cw_icmp_ge_F (tgt := 24) (pc := 7) dX9_countOf_7 (by decide) (nI_ge (b := 12) hi (by decide)) <|
      cw_iload_n (pc := 10) dX9_countOf_10 rfl rfl <|
      cw_iload_n (pc := 11) dX9_countOf_11 rfl rfl <|
      cw_iload_n (pc := 12) dX9_countOf_12 rfl rfl <|
      cw_ishr (pc := 13) dX9_countOf_13 <|
      cw_iconst (v := 1) (pc := 14) dX9_countOf_14 (by decide) <|
      cw_iand (pc := 15) dX9_countOf_15 <|
      ?_
    rw [m_bit hm hi]
    refine cw_iadd (pc := 16) dX9_countOf_16 <|
      ?_
    rw [nI_add, ← cntN2_s]
    refine cw_istore_n (L' := [_, _, _]) (pc := 17) dX9_countOf_17 rfl (by decide) rfl rfl <|
      cw_iincL (L' := [_, _, _]) (c := 1) (pc := 18) dX9_countOf_18 rfl (by decide) (by decide) rfl rfl <|
      ?_
    rw [nI_1 i]
    refine cw_goto (tgt := 4) (pc := 21) dX9_countOf_21 (by decide) <|
      ?_
    exact ih () _ rfl
set_option maxHeartbeats 4000000 in
set_option maxRecDepth 100000 in
theorem c_X9_scoreClearing {E : Ev} {μ : Mem} {s : Row} (hs : μ 68 = s) {n Y M : Nat} {code : PCo} (hIL : InvL s n Y M) {p m : Nat} (hp : p < n) (hm : m < 2 ^ 31) (h4 : ∀ x l, x < 12 → l < 9 → μ 74 (9 * x + l) = stS s code p x l (s (19 + x))) (h5 : ∀ x l, x < 12 → l < 9 → μ 75 (9 * x + l) = stS s code p x l 0) : AM E yX9_scoreClearing cX9_scoreClearing 5 (some .int) 2 [.ref 67, .int (nI p), .int (nI m)] μ (fun r μ' => r = some (.int (kS s code p m)) ∧ Same ML μ μ') := by
  refine am_of (own := RX9) (L := [.ref 67, .int (nI p), .int (nI m), .null, .null]) (by decide) rfl (Nat.le_of_ble_eq_true rfl) rfl (fun Γ hR => ?_)
  subst hs
  obtain ⟨pg, hpg, epg⟩ := (hIL.2.2.2.2.2.2 p hp).1
  have hp6 : p < 6 := by have := hIL.2.1; omega
  have epS : pgS (μ 68) p = pg := by unfold pgS; rw [epg]; exact nI_clamp (by omega)
  have hle : ∀ x, lnK (μ 68) code p m x ≤ 8 := fun x => line_le (by rw [epS]; exact hpg) x
  refine cw_aload_n (pc := 0) dX9_scoreClearing_0 rfl rfl <|
    cw_getR (q := 67) (t := 73) (pc := 1) dX9_scoreClearing_1 fX9_28 sh_67 (by decide) rfl <|
    cw_iconst (v := 0) (pc := 4) dX9_scoreClearing_4 (by decide) <|
    cw_aload_n (pc := 5) dX9_scoreClearing_5 rfl rfl <|
    cw_getR (q := 67) (t := 68) (pc := 6) dX9_scoreClearing_6 fX9_9 sh_67 (by decide) rfl <|
    cw_bipush (v := 51) (pc := 9) dX9_scoreClearing_9 (by decide) <|
    cw_iload_n (pc := 11) dX9_scoreClearing_11 rfl rfl <|
    cw_iadd (pc := 12) dX9_scoreClearing_12 <|
    cw_ial (q := 68) (jn := (51 + p)) (pc := 13) dX9_scoreClearing_13 sh_68 (nx_add rfl rfl) (by omega) (by decide) <|
    ?_
  rw [epg, ← epS]
  refine cw_ias (q := 73) (jn := 0) (pc := 14) dX9_scoreClearing_14 sh_73 rfl (by decide) (by decide) <|
    cw_iconst (v := 0) (pc := 15) dX9_scoreClearing_15 (by decide) <|
    cw_istore_n (L' := [_, _, _, _, _]) (pc := 16) dX9_scoreClearing_16 rfl (by decide) rfl rfl <|
    ?_
  refine cw_for (σ := Value) 12 (fun i a x => Same ML μ x ∧ ∀ y, y ≤ i → x 73 y = nI (lnK (μ 68) code p m y)) (fun i a => [.ref 67, .int (nI p), .int (nI m), .int (nI i), a]) ?_ ?_ 0 .null _ (Nat.zero_le _) ⟨Same.rf.s1 (F := ML) (q := 73) (i := 0) (Or.inl rfl), fun y hy => by rw [show y = 0 by omega, lnK_0]; simp [st_at]⟩
  · rintro a x ⟨hS, hln⟩
    refine cw_iload_n (pc := 17) dX9_scoreClearing_17 rfl rfl <|
      cw_bipush (v := 12) (pc := 18) dX9_scoreClearing_18 (by decide) <|
      cw_icmp_ge_T (tgt := 85) (pc := 20) dX9_scoreClearing_20 (by decide) (by decide) <|
      cw_aload_n (pc := 85) dX9_scoreClearing_85 rfl rfl <|
      cw_invP (q := 67) (pc := 86) dX9_scoreClearing_86 (c_X9_countsLine (ln := lnK (μ 68) code p m) (fun y hy => hln y hy) hle) rfl vX9_144 sh_67 (by decide) rfl rfl rfl (by decide) <|
      ?_
    rintro _ m2 ⟨rfl, o13, o14, s2⟩
    have hl2 : ∀ y, y ≤ 12 → m2 73 y = nI (lnK (μ 68) code p m y) := fun y hy => (s2 _ _ (by unfold MC; omega)).trans (hln y hy)
    refine cw_bipush (v := 40) (pc := 89) dX9_scoreClearing_89 (by decide) <|
      cw_aload_n (pc := 91) dX9_scoreClearing_91 rfl rfl <|
      cw_getI (q := 67) (pc := 92) dX9_scoreClearing_92 fX9_132 sh_67 (by decide) rfl <|
      ?_
    rw [o13]
    refine cw_isub (pc := 95) dX9_scoreClearing_95 <|
      cw_iconst (v := 2) (pc := 96) dX9_scoreClearing_96 (by decide) <|
      cw_aload_n (pc := 97) dX9_scoreClearing_97 rfl rfl <|
      cw_getI (q := 67) (pc := 98) dX9_scoreClearing_98 fX9_135 sh_67 (by decide) rfl <|
      ?_
    rw [o14]
    refine cw_imul (pc := 101) dX9_scoreClearing_101 <|
      cw_isub (pc := 102) dX9_scoreClearing_102 <|
      cw_aload_n (pc := 103) dX9_scoreClearing_103 rfl rfl <|
      cw_invI (q := 67) (pc := 104) dX9_scoreClearing_104 (c_X9_span hl2 hle) rfl vX9_147 sh_67 (by decide) rfl rfl rfl (by decide) <|
      cw_isub (pc := 107) dX9_scoreClearing_107 <|
      cw_iret (pc := 108) dX9_scoreClearing_108 hR <|
      ⟨by rw [scoreN_eq2, kS_ln], hS.tr (MC_ML s2)⟩
  · rintro i a x hi ⟨hS, hln⟩ ih
    have ei := hln i (Nat.le_refl _)
    have hl8 := hle i
    have e74 : x 74 (9 * i + lnK (μ 68) code p m i) = _ := (congrFun hS.l74 _).trans (h4 i _ hi (by omega))
    have e75 : x 75 (9 * i + lnK (μ 68) code p m i) = _ := (congrFun hS.l75 _).trans (h5 i _ hi (by omega))
    have hsu := lnK_s (μ 68) code p m i
    by_cases hb : m / 2 ^ i % 2 = 1
    · refine cw_iload_n (pc := 17) dX9_scoreClearing_17 rfl rfl <|
        cw_bipush (v := 12) (pc := 18) dX9_scoreClearing_18 (by decide) <|
        cw_icmp_ge_F (tgt := 85) (pc := 20) dX9_scoreClearing_20 (by decide) (nI_ge (b := 12) hi (by decide)) <|
        cw_bipush (v := 9) (pc := 23) dX9_scoreClearing_23 (by decide) <|
        cw_iload_n (pc := 25) dX9_scoreClearing_25 rfl rfl <|
        cw_imul (pc := 26) dX9_scoreClearing_26 <|
        cw_aload_n (pc := 27) dX9_scoreClearing_27 rfl rfl <|
        cw_getR (q := 67) (t := 73) (pc := 28) dX9_scoreClearing_28 fX9_28 sh_67 (by decide) rfl <|
        cw_iload_n (pc := 31) dX9_scoreClearing_31 rfl rfl <|
        cw_ial (q := 73) (jn := i) (pc := 32) dX9_scoreClearing_32 sh_73 rfl (by omega) (by decide) <|
        ?_
      rw [ei]
      refine cw_iadd (pc := 33) dX9_scoreClearing_33 <|
        cw_istore (L' := [_, _, _, _, _]) (pc := 34) dX9_scoreClearing_34 (by decide) rfl rfl <|
        cw_aload_n (pc := 36) dX9_scoreClearing_36 rfl rfl <|
        cw_getR (q := 67) (t := 73) (pc := 37) dX9_scoreClearing_37 fX9_28 sh_67 (by decide) rfl <|
        cw_iload_n (pc := 40) dX9_scoreClearing_40 rfl rfl <|
        cw_iconst (v := 1) (pc := 41) dX9_scoreClearing_41 (by decide) <|
        cw_iadd (pc := 42) dX9_scoreClearing_42 <|
        cw_aload_n (pc := 43) dX9_scoreClearing_43 rfl rfl <|
        cw_getR (q := 67) (t := 73) (pc := 44) dX9_scoreClearing_44 fX9_28 sh_67 (by decide) rfl <|
        cw_iload_n (pc := 47) dX9_scoreClearing_47 rfl rfl <|
        cw_ial (q := 73) (jn := i) (pc := 48) dX9_scoreClearing_48 sh_73 rfl (by omega) (by decide) <|
        ?_
      rw [ei]
      refine cw_iload_n (pc := 49) dX9_scoreClearing_49 rfl rfl <|
        cw_iload_n (pc := 50) dX9_scoreClearing_50 rfl rfl <|
        cw_ishr (pc := 51) dX9_scoreClearing_51 <|
        cw_iconst (v := 1) (pc := 52) dX9_scoreClearing_52 (by decide) <|
        cw_iand (pc := 53) dX9_scoreClearing_53 <|
        ?_
      rw [m_bit hm hi]
      refine cw_iconst (v := 1) (pc := 54) dX9_scoreClearing_54 (by decide) <|
        cw_icmp_ne_F (tgt := 68) (pc := 55) dX9_scoreClearing_55 (by decide) (by rw [hb]; rfl) <|
        cw_aload_n (pc := 58) dX9_scoreClearing_58 rfl rfl <|
        cw_getR (q := 67) (t := 75) (pc := 59) dX9_scoreClearing_59 fX9_34 sh_67 (by decide) rfl <|
        cw_iload (pc := 62) dX9_scoreClearing_62 rfl <|
        cw_ial (q := 75) (jn := ((9 * i) + (lnK (μ 68) code p m i))) (pc := 64) dX9_scoreClearing_64 sh_75 (nx_add (nx_mul rfl rfl) rfl) (by omega) (by decide) <|
        ?_
      rw [e75]
      refine cw_goto (tgt := 75) (pc := 65) dX9_scoreClearing_65 (by decide) <|
        cw_insI (pc := 75) dX9_scoreClearing_75 (c_X9_went (l := (lnK (μ 68) code p m i)) hl8) vX9_141 rfl rfl rfl (by decide) <|
        cw_ias (q := 73) (jn := (i + 1)) (pc := 78) dX9_scoreClearing_78 sh_73 (nx_add rfl rfl) (by omega) (by decide) <|
        cw_iincL (L' := [_, _, _, _, _]) (c := 1) (pc := 79) dX9_scoreClearing_79 rfl (by decide) (by decide) rfl rfl <|
        ?_
      rw [nI_1 i]
      refine cw_goto (tgt := 17) (pc := 82) dX9_scoreClearing_82 (by decide) <|
        ?_
      rw [gK_1 hb] at hsu
      exact ih _ _ ⟨hS.s1 (Or.inl rfl), fun y hy => by
        by_cases e : y = i + 1
        · subst e; rw [st_eq, hsu]
        · rw [st_at, if_neg (fun h => e h.2)]
          exact hln y (by omega)⟩
    · refine cw_iload_n (pc := 17) dX9_scoreClearing_17 rfl rfl <|
        cw_bipush (v := 12) (pc := 18) dX9_scoreClearing_18 (by decide) <|
        cw_icmp_ge_F (tgt := 85) (pc := 20) dX9_scoreClearing_20 (by decide) (nI_ge (b := 12) hi (by decide)) <|
        cw_bipush (v := 9) (pc := 23) dX9_scoreClearing_23 (by decide) <|
        cw_iload_n (pc := 25) dX9_scoreClearing_25 rfl rfl <|
        cw_imul (pc := 26) dX9_scoreClearing_26 <|
        cw_aload_n (pc := 27) dX9_scoreClearing_27 rfl rfl <|
        cw_getR (q := 67) (t := 73) (pc := 28) dX9_scoreClearing_28 fX9_28 sh_67 (by decide) rfl <|
        cw_iload_n (pc := 31) dX9_scoreClearing_31 rfl rfl <|
        cw_ial (q := 73) (jn := i) (pc := 32) dX9_scoreClearing_32 sh_73 rfl (by omega) (by decide) <|
        ?_
      rw [ei]
      refine cw_iadd (pc := 33) dX9_scoreClearing_33 <|
        cw_istore (L' := [_, _, _, _, _]) (pc := 34) dX9_scoreClearing_34 (by decide) rfl rfl <|
        cw_aload_n (pc := 36) dX9_scoreClearing_36 rfl rfl <|
        cw_getR (q := 67) (t := 73) (pc := 37) dX9_scoreClearing_37 fX9_28 sh_67 (by decide) rfl <|
        cw_iload_n (pc := 40) dX9_scoreClearing_40 rfl rfl <|
        cw_iconst (v := 1) (pc := 41) dX9_scoreClearing_41 (by decide) <|
        cw_iadd (pc := 42) dX9_scoreClearing_42 <|
        cw_aload_n (pc := 43) dX9_scoreClearing_43 rfl rfl <|
        cw_getR (q := 67) (t := 73) (pc := 44) dX9_scoreClearing_44 fX9_28 sh_67 (by decide) rfl <|
        cw_iload_n (pc := 47) dX9_scoreClearing_47 rfl rfl <|
        cw_ial (q := 73) (jn := i) (pc := 48) dX9_scoreClearing_48 sh_73 rfl (by omega) (by decide) <|
        ?_
      rw [ei]
      refine cw_iload_n (pc := 49) dX9_scoreClearing_49 rfl rfl <|
        cw_iload_n (pc := 50) dX9_scoreClearing_50 rfl rfl <|
        cw_ishr (pc := 51) dX9_scoreClearing_51 <|
        cw_iconst (v := 1) (pc := 52) dX9_scoreClearing_52 (by decide) <|
        cw_iand (pc := 53) dX9_scoreClearing_53 <|
        ?_
      rw [m_bit hm hi]
      refine cw_iconst (v := 1) (pc := 54) dX9_scoreClearing_54 (by decide) <|
        cw_icmp_ne_T (tgt := 68) (pc := 55) dX9_scoreClearing_55 (by decide) (fun h => hb ((nI_eq (b := 1) (by omega) (by decide)).mp h)) <|
        cw_aload_n (pc := 68) dX9_scoreClearing_68 rfl rfl <|
        cw_getR (q := 67) (t := 74) (pc := 69) dX9_scoreClearing_69 fX9_31 sh_67 (by decide) rfl <|
        cw_iload (pc := 72) dX9_scoreClearing_72 rfl <|
        cw_ial (q := 74) (jn := ((9 * i) + (lnK (μ 68) code p m i))) (pc := 74) dX9_scoreClearing_74 sh_74 (nx_add (nx_mul rfl rfl) rfl) (by omega) (by decide) <|
        ?_
      rw [e74]
      refine cw_insI (pc := 75) dX9_scoreClearing_75 (c_X9_went (l := (lnK (μ 68) code p m i)) hl8) vX9_141 rfl rfl rfl (by decide) <|
        cw_ias (q := 73) (jn := (i + 1)) (pc := 78) dX9_scoreClearing_78 sh_73 (nx_add rfl rfl) (by omega) (by decide) <|
        cw_iincL (L' := [_, _, _, _, _]) (c := 1) (pc := 79) dX9_scoreClearing_79 rfl (by decide) (by decide) rfl rfl <|
        ?_
      rw [nI_1 i]
      refine cw_goto (tgt := 17) (pc := 82) dX9_scoreClearing_82 (by decide) <|
        ?_
      rw [gK_0 hb] at hsu
      exact ih _ _ ⟨hS.s1 (Or.inl rfl), fun y hy => by
        by_cases e : y = i + 1
        · subst e; rw [st_eq, hsu]
        · rw [st_at, if_neg (fun h => e h.2)]
          exact hln y (by omega)⟩
set_option maxHeartbeats 4000000 in
set_option maxRecDepth 100000 in
theorem c_X9_clear {E : Ev} {μ : Mem} {s : Row} (hs : μ 68 = s) {n mk : Nat} {code : PCo} (hI : Inv s n code mk) {x : Int32} : AM E yX9_clear cX9_clear 6 (some .int) 10 [.ref 67, .int x] μ (fun r μ' => r = some (.int (clearA s code mk x)) ∧ Same MQr μ μ') := by
  refine am_of (own := RX9) (L := [.ref 67, .int x, .null, .null, .null, .null]) (by decide) rfl (Nat.le_of_ble_eq_true rfl) rfl (fun Γ hR => ?_)
  subst hs
  have hI0 := hI
  obtain ⟨hIL, hIP, hIC, hIS, hIW, hIB, hIT⟩ := hI
  have hn := hIL.1
  have h6 := hIL.2.1
  by_cases hx : 0 ≤ x ∧ x < μ 68 31
  · obtain ⟨p, hp, rfl⟩ := isM_of hn h6 hx
    have hp6 : p < 6 := by omega
    refine cw_aload_n (pc := 0) dX9_clear_0 rfl rfl <|
      cw_iload_n (pc := 1) dX9_clear_1 rfl rfl <|
      cw_invI (q := 67) (pc := 2) dX9_clear_2 (c_X9_isMan hn h6) rfl vX9_162 sh_67 (by decide) rfl rfl rfl (by decide) <|
      cw_if_ne_T (tgt := 10) (pc := 5) dX9_clear_5 (by decide) (bI_n0.mpr hx) <|
      cw_iconst (v := 0) (pc := 10) dX9_clear_10 (by decide) <|
      cw_istore_n (L' := [_, _, _, _, _, _]) (pc := 11) dX9_clear_11 rfl (by decide) rfl rfl <|
      cw_iconst (v := 0) (pc := 12) dX9_clear_12 (by decide) <|
      cw_istore_n (L' := [_, _, _, _, _, _]) (pc := 13) dX9_clear_13 rfl (by decide) rfl rfl <|
      ?_
    refine cw_for (σ := Unit) 108 (fun i a m => Same MQr μ m ∧ ∀ y, y < i → m 74 y = stS (μ 68) code p (y / 9) (y % 9) (μ 68 (19 + y / 9)) ∧ m 75 y = stS (μ 68) code p (y / 9) (y % 9) 0) (fun i a => [.ref 67, .int (nI p), .int (nI (lyN (μ 68) ((i + 8) / 9))), .int (nI i), .null, .null]) ?_ ?_ 0 () _ (Nat.zero_le _) ⟨Same.rf, fun y hy => absurd hy (Nat.not_lt_zero _)⟩
    · rintro ⟨⟩ m ⟨hS, hT⟩
      have hT4 : ∀ x l, x < 12 → l < 9 → m 74 (9 * x + l) = stS (μ 68) code p x l (μ 68 (19 + x)) := fun x l hx hl => by have := (hT (9 * x + l) (by omega)).1; rw [show (9 * x + l) / 9 = x by omega, show (9 * x + l) % 9 = l by omega] at this; exact this
      have hT5 : ∀ x l, x < 12 → l < 9 → m 75 (9 * x + l) = stS (μ 68) code p x l 0 := fun x l hx hl => by have := (hT (9 * x + l) (by omega)).2; rw [show (9 * x + l) / 9 = x by omega, show (9 * x + l) % 9 = l by omega] at this; exact this
      refine cw_iload_n (pc := 14) dX9_clear_14 rfl rfl <|
        cw_bipush (v := 108) (pc := 15) dX9_clear_15 (by decide) <|
        cw_icmp_ge_T (tgt := 105) (pc := 17) dX9_clear_17 (by decide) (by decide) <|
        cw_bipush (v := -5) (pc := 105) dX9_clear_105 (by decide) <|
        cw_istore_n (L' := [_, _, _, _, _, _]) (pc := 107) dX9_clear_107 rfl (by decide) rfl rfl <|
        cw_iconst (v := 0) (pc := 108) dX9_clear_108 (by decide) <|
        cw_istore (L' := [_, _, _, _, _, _]) (pc := 109) dX9_clear_109 (by decide) rfl rfl <|
        ?_
      refine cw_for (σ := Value) 4096 (fun i a m' => Same ML m m') (fun i a => [.ref 67, .int (nI p), .int (nI (lyN (μ 68) 12)), .int (clrI (clrF (clrB (μ 68) code mk p) i)), .int (nI i), a]) ?_ ?_ 0 .null _ (Nat.zero_le _) Same.rf
      · rintro a m' hS'
        refine cw_iload (pc := 111) dX9_clear_111 rfl <|
          cw_sipush (v := 4096) (pc := 113) dX9_clear_113 (by decide) <|
          cw_icmp_ge_T (tgt := 190) (pc := 116) dX9_clear_116 (by decide) (by decide) <|
          cw_iload_n (pc := 190) dX9_clear_190 rfl rfl <|
          cw_iret (pc := 191) dX9_clear_191 hR <|
          ⟨by rw [clearA, if_pos hx, nN_nI (by omega)], hS.tr (MS_MQ (ML_MS hS'))⟩
      · rintro i a m' hi hS' ih
        have e68 : m' 68 = μ 68 := hS'.l68.trans hS.q68
        have h4 : ∀ x l, x < 12 → l < 9 → m' 74 (9 * x + l) = stS (m' 68) code p x l (m' 68 (19 + x)) := fun x l hx hl => by rw [hS'.l74, e68]; exact hT4 x l hx hl
        have h5 : ∀ x l, x < 12 → l < 9 → m' 75 (9 * x + l) = stS (m' 68) code p x l 0 := fun x l hx hl => by rw [hS'.l75, e68]; exact hT5 x l hx hl
        have hILm : InvL (m' 68) n 9999 9999 := by rw [e68]; exact hIL
        by_cases hsb : subB (μ 68) i = true
        · by_cases hsc : nI mk ≤ kS (μ 68) code p i
          · have hB := sb_true (mk := mk) hsb hsc
            cases ho : clrF (clrB (μ 68) code mk p) i with
            | none =>
              refine cw_iload (pc := 111) dX9_clear_111 rfl <|
                cw_sipush (v := 4096) (pc := 113) dX9_clear_113 (by decide) <|
                cw_icmp_ge_F (tgt := 190) (pc := 116) dX9_clear_116 (by decide) (nI_ge (b := 4096) hi (by decide)) <|
                cw_iload (pc := 119) dX9_clear_119 rfl <|
                cw_iload_n (pc := 121) dX9_clear_121 rfl rfl <|
                cw_iconst (v := -1) (pc := 122) dX9_clear_122 (by decide) <|
                cw_ixor (pc := 123) dX9_clear_123 <|
                cw_iand (pc := 124) dX9_clear_124 <|
                cw_if_ne_F (tgt := 150) (pc := 125) dX9_clear_125 (by decide) ((and_not_0 hi).mpr hsb) <|
                cw_iload_n (pc := 128) dX9_clear_128 rfl rfl <|
                cw_bipush (v := -5) (pc := 129) dX9_clear_129 (by decide) <|
                cw_icmp_eq_T (tgt := 146) (pc := 131) dX9_clear_131 (by decide) rfl <|
                cw_iconst (v := 1) (pc := 146) dX9_clear_146 (by decide) <|
                cw_goto (tgt := 151) (pc := 147) dX9_clear_147 (by decide) <|
                cw_istore (L' := [_, _, _, _, _, _]) (pc := 151) dX9_clear_151 (by decide) rfl rfl <|
                cw_iload (pc := 153) dX9_clear_153 rfl <|
                cw_if_eq_F (tgt := 182) (pc := 155) dX9_clear_155 (by decide) (by decide) <|
                cw_aload_n (pc := 158) dX9_clear_158 rfl rfl <|
                cw_iload_n (pc := 159) dX9_clear_159 rfl rfl <|
                cw_iload (pc := 160) dX9_clear_160 rfl <|
                cw_invP (q := 67) (pc := 162) dX9_clear_162 (c_X9_scoreClearing rfl hILm hp (by omega) h4 h5) rfl vX9_203 sh_67 (by decide) rfl rfl rfl (by decide) <|
                ?_
              rintro _ m2 ⟨rfl, s2⟩
              have e68' : m2 68 = μ 68 := s2.l68.trans e68
              have hP2 : InvP (m2 68) code mk := by rw [e68']; exact hIP
              rw [e68]
              refine cw_aload_n (pc := 165) dX9_clear_165 rfl rfl <|
                cw_sipush (v := 238) (pc := 166) dX9_clear_166 (by decide) <|
                cw_bipush (v := 30) (pc := 169) dX9_clear_169 (by decide) <|
                cw_invI (q := 67) (pc := 171) dX9_clear_171 (c_X9_tellsOf_pass hP2) rfl vX9_124 sh_67 (by decide) rfl rfl rfl (by decide) <|
                cw_icmp_lt_F (tgt := 182) (pc := 174) dX9_clear_174 (by decide) (Int32.not_lt.mpr hsc) <|
                cw_iload (pc := 177) dX9_clear_177 rfl <|
                cw_goto (tgt := 183) (pc := 179) dX9_clear_179 (by decide) <|
                cw_istore_n (L' := [_, _, _, _, _, _]) (pc := 183) dX9_clear_183 rfl (by decide) rfl rfl <|
                cw_iincL (L' := [_, _, _, _, _, _]) (c := 1) (pc := 184) dX9_clear_184 rfl (by decide) (by decide) rfl rfl <|
                ?_
              rw [nI_1 i]
              refine cw_goto (tgt := 111) (pc := 187) dX9_clear_187 (by decide) <|
                ?_
              rw [clr_none hB ho] at ih
              exact ih _ _ (hS'.tr s2)
            | some b =>
              have hb := clr_lt4 ho
              have hne : ¬ clrI (some b) = -5 := nI_neg5 (by omega)
              by_cases hc : cntN2 i 12 < cntN2 b 12
              · refine cw_iload (pc := 111) dX9_clear_111 rfl <|
                  cw_sipush (v := 4096) (pc := 113) dX9_clear_113 (by decide) <|
                  cw_icmp_ge_F (tgt := 190) (pc := 116) dX9_clear_116 (by decide) (nI_ge (b := 4096) hi (by decide)) <|
                  cw_iload (pc := 119) dX9_clear_119 rfl <|
                  cw_iload_n (pc := 121) dX9_clear_121 rfl rfl <|
                  cw_iconst (v := -1) (pc := 122) dX9_clear_122 (by decide) <|
                  cw_ixor (pc := 123) dX9_clear_123 <|
                  cw_iand (pc := 124) dX9_clear_124 <|
                  cw_if_ne_F (tgt := 150) (pc := 125) dX9_clear_125 (by decide) ((and_not_0 hi).mpr hsb) <|
                  cw_iload_n (pc := 128) dX9_clear_128 rfl rfl <|
                  cw_bipush (v := -5) (pc := 129) dX9_clear_129 (by decide) <|
                  cw_icmp_eq_F (tgt := 146) (pc := 131) dX9_clear_131 (by decide) hne <|
                  cw_iload (pc := 134) dX9_clear_134 rfl <|
                  cw_insI (pc := 136) dX9_clear_136 (c_X9_countOf (m := i) (by omega)) vX9_200 rfl rfl rfl (by decide) <|
                  cw_iload_n (pc := 139) dX9_clear_139 rfl rfl <|
                  cw_insI (pc := 140) dX9_clear_140 (c_X9_countOf (m := b) (by omega)) vX9_200 rfl rfl rfl (by decide) <|
                  cw_icmp_ge_F (tgt := 150) (pc := 143) dX9_clear_143 (by decide) (nI_ge hc (by have := cnt_le12 i 12; have := cnt_le12 b 12; omega)) <|
                  cw_iconst (v := 1) (pc := 146) dX9_clear_146 (by decide) <|
                  cw_goto (tgt := 151) (pc := 147) dX9_clear_147 (by decide) <|
                  cw_istore (L' := [_, _, _, _, _, _]) (pc := 151) dX9_clear_151 (by decide) rfl rfl <|
                  cw_iload (pc := 153) dX9_clear_153 rfl <|
                  cw_if_eq_F (tgt := 182) (pc := 155) dX9_clear_155 (by decide) (by decide) <|
                  cw_aload_n (pc := 158) dX9_clear_158 rfl rfl <|
                  cw_iload_n (pc := 159) dX9_clear_159 rfl rfl <|
                  cw_iload (pc := 160) dX9_clear_160 rfl <|
                  cw_invP (q := 67) (pc := 162) dX9_clear_162 (c_X9_scoreClearing rfl hILm hp (by omega) h4 h5) rfl vX9_203 sh_67 (by decide) rfl rfl rfl (by decide) <|
                  ?_
                rintro _ m2 ⟨rfl, s2⟩
                have e68' : m2 68 = μ 68 := s2.l68.trans e68
                have hP2 : InvP (m2 68) code mk := by rw [e68']; exact hIP
                rw [e68]
                refine cw_aload_n (pc := 165) dX9_clear_165 rfl rfl <|
                  cw_sipush (v := 238) (pc := 166) dX9_clear_166 (by decide) <|
                  cw_bipush (v := 30) (pc := 169) dX9_clear_169 (by decide) <|
                  cw_invI (q := 67) (pc := 171) dX9_clear_171 (c_X9_tellsOf_pass hP2) rfl vX9_124 sh_67 (by decide) rfl rfl rfl (by decide) <|
                  cw_icmp_lt_F (tgt := 182) (pc := 174) dX9_clear_174 (by decide) (Int32.not_lt.mpr hsc) <|
                  cw_iload (pc := 177) dX9_clear_177 rfl <|
                  cw_goto (tgt := 183) (pc := 179) dX9_clear_179 (by decide) <|
                  cw_istore_n (L' := [_, _, _, _, _, _]) (pc := 183) dX9_clear_183 rfl (by decide) rfl rfl <|
                  cw_iincL (L' := [_, _, _, _, _, _]) (c := 1) (pc := 184) dX9_clear_184 rfl (by decide) (by decide) rfl rfl <|
                  ?_
                rw [nI_1 i]
                refine cw_goto (tgt := 111) (pc := 187) dX9_clear_187 (by decide) <|
                  ?_
                rw [clr_lt hB ho hc] at ih
                exact ih _ _ (hS'.tr s2)
              · refine cw_iload (pc := 111) dX9_clear_111 rfl <|
                  cw_sipush (v := 4096) (pc := 113) dX9_clear_113 (by decide) <|
                  cw_icmp_ge_F (tgt := 190) (pc := 116) dX9_clear_116 (by decide) (nI_ge (b := 4096) hi (by decide)) <|
                  cw_iload (pc := 119) dX9_clear_119 rfl <|
                  cw_iload_n (pc := 121) dX9_clear_121 rfl rfl <|
                  cw_iconst (v := -1) (pc := 122) dX9_clear_122 (by decide) <|
                  cw_ixor (pc := 123) dX9_clear_123 <|
                  cw_iand (pc := 124) dX9_clear_124 <|
                  cw_if_ne_F (tgt := 150) (pc := 125) dX9_clear_125 (by decide) ((and_not_0 hi).mpr hsb) <|
                  cw_iload_n (pc := 128) dX9_clear_128 rfl rfl <|
                  cw_bipush (v := -5) (pc := 129) dX9_clear_129 (by decide) <|
                  cw_icmp_eq_F (tgt := 146) (pc := 131) dX9_clear_131 (by decide) hne <|
                  cw_iload (pc := 134) dX9_clear_134 rfl <|
                  cw_insI (pc := 136) dX9_clear_136 (c_X9_countOf (m := i) (by omega)) vX9_200 rfl rfl rfl (by decide) <|
                  cw_iload_n (pc := 139) dX9_clear_139 rfl rfl <|
                  cw_insI (pc := 140) dX9_clear_140 (c_X9_countOf (m := b) (by omega)) vX9_200 rfl rfl rfl (by decide) <|
                  cw_icmp_ge_T (tgt := 150) (pc := 143) dX9_clear_143 (by decide) (nI_le (Nat.not_lt.mp hc) (by have := cnt_le12 i 12; have := cnt_le12 b 12; omega)) <|
                  cw_iconst (v := 0) (pc := 150) dX9_clear_150 (by decide) <|
                  cw_istore (L' := [_, _, _, _, _, _]) (pc := 151) dX9_clear_151 (by decide) rfl rfl <|
                  cw_iload (pc := 153) dX9_clear_153 rfl <|
                  cw_if_eq_T (tgt := 182) (pc := 155) dX9_clear_155 (by decide) rfl <|
                  cw_iload_n (pc := 182) dX9_clear_182 rfl rfl <|
                  cw_istore_n (L' := [_, _, _, _, _, _]) (pc := 183) dX9_clear_183 rfl (by decide) rfl rfl <|
                  cw_iincL (L' := [_, _, _, _, _, _]) (c := 1) (pc := 184) dX9_clear_184 rfl (by decide) (by decide) rfl rfl <|
                  ?_
                rw [nI_1 i]
                refine cw_goto (tgt := 111) (pc := 187) dX9_clear_187 (by decide) <|
                  ?_
                rw [clr_ge ho hc] at ih
                exact ih _ _ hS'
          · have hB := sb_f2 (s := μ 68) (code := code) (mk := mk) (p := p) (m := i) hsc
            cases ho : clrF (clrB (μ 68) code mk p) i with
            | none =>
              refine cw_iload (pc := 111) dX9_clear_111 rfl <|
                cw_sipush (v := 4096) (pc := 113) dX9_clear_113 (by decide) <|
                cw_icmp_ge_F (tgt := 190) (pc := 116) dX9_clear_116 (by decide) (nI_ge (b := 4096) hi (by decide)) <|
                cw_iload (pc := 119) dX9_clear_119 rfl <|
                cw_iload_n (pc := 121) dX9_clear_121 rfl rfl <|
                cw_iconst (v := -1) (pc := 122) dX9_clear_122 (by decide) <|
                cw_ixor (pc := 123) dX9_clear_123 <|
                cw_iand (pc := 124) dX9_clear_124 <|
                cw_if_ne_F (tgt := 150) (pc := 125) dX9_clear_125 (by decide) ((and_not_0 hi).mpr hsb) <|
                cw_iload_n (pc := 128) dX9_clear_128 rfl rfl <|
                cw_bipush (v := -5) (pc := 129) dX9_clear_129 (by decide) <|
                cw_icmp_eq_T (tgt := 146) (pc := 131) dX9_clear_131 (by decide) rfl <|
                cw_iconst (v := 1) (pc := 146) dX9_clear_146 (by decide) <|
                cw_goto (tgt := 151) (pc := 147) dX9_clear_147 (by decide) <|
                cw_istore (L' := [_, _, _, _, _, _]) (pc := 151) dX9_clear_151 (by decide) rfl rfl <|
                cw_iload (pc := 153) dX9_clear_153 rfl <|
                cw_if_eq_F (tgt := 182) (pc := 155) dX9_clear_155 (by decide) (by decide) <|
                cw_aload_n (pc := 158) dX9_clear_158 rfl rfl <|
                cw_iload_n (pc := 159) dX9_clear_159 rfl rfl <|
                cw_iload (pc := 160) dX9_clear_160 rfl <|
                cw_invP (q := 67) (pc := 162) dX9_clear_162 (c_X9_scoreClearing rfl hILm hp (by omega) h4 h5) rfl vX9_203 sh_67 (by decide) rfl rfl rfl (by decide) <|
                ?_
              rintro _ m2 ⟨rfl, s2⟩
              have e68' : m2 68 = μ 68 := s2.l68.trans e68
              have hP2 : InvP (m2 68) code mk := by rw [e68']; exact hIP
              rw [e68]
              refine cw_aload_n (pc := 165) dX9_clear_165 rfl rfl <|
                cw_sipush (v := 238) (pc := 166) dX9_clear_166 (by decide) <|
                cw_bipush (v := 30) (pc := 169) dX9_clear_169 (by decide) <|
                cw_invI (q := 67) (pc := 171) dX9_clear_171 (c_X9_tellsOf_pass hP2) rfl vX9_124 sh_67 (by decide) rfl rfl rfl (by decide) <|
                cw_icmp_lt_T (tgt := 182) (pc := 174) dX9_clear_174 (by decide) (Int32.not_le.mp hsc) <|
                cw_iload_n (pc := 182) dX9_clear_182 rfl rfl <|
                cw_istore_n (L' := [_, _, _, _, _, _]) (pc := 183) dX9_clear_183 rfl (by decide) rfl rfl <|
                cw_iincL (L' := [_, _, _, _, _, _]) (c := 1) (pc := 184) dX9_clear_184 rfl (by decide) (by decide) rfl rfl <|
                ?_
              rw [nI_1 i]
              refine cw_goto (tgt := 111) (pc := 187) dX9_clear_187 (by decide) <|
                ?_
              rw [clr_no hB, ho] at ih
              exact ih _ _ (hS'.tr s2)
            | some b =>
              have hb := clr_lt4 ho
              have hne : ¬ clrI (some b) = -5 := nI_neg5 (by omega)
              by_cases hc : cntN2 i 12 < cntN2 b 12
              · refine cw_iload (pc := 111) dX9_clear_111 rfl <|
                  cw_sipush (v := 4096) (pc := 113) dX9_clear_113 (by decide) <|
                  cw_icmp_ge_F (tgt := 190) (pc := 116) dX9_clear_116 (by decide) (nI_ge (b := 4096) hi (by decide)) <|
                  cw_iload (pc := 119) dX9_clear_119 rfl <|
                  cw_iload_n (pc := 121) dX9_clear_121 rfl rfl <|
                  cw_iconst (v := -1) (pc := 122) dX9_clear_122 (by decide) <|
                  cw_ixor (pc := 123) dX9_clear_123 <|
                  cw_iand (pc := 124) dX9_clear_124 <|
                  cw_if_ne_F (tgt := 150) (pc := 125) dX9_clear_125 (by decide) ((and_not_0 hi).mpr hsb) <|
                  cw_iload_n (pc := 128) dX9_clear_128 rfl rfl <|
                  cw_bipush (v := -5) (pc := 129) dX9_clear_129 (by decide) <|
                  cw_icmp_eq_F (tgt := 146) (pc := 131) dX9_clear_131 (by decide) hne <|
                  cw_iload (pc := 134) dX9_clear_134 rfl <|
                  cw_insI (pc := 136) dX9_clear_136 (c_X9_countOf (m := i) (by omega)) vX9_200 rfl rfl rfl (by decide) <|
                  cw_iload_n (pc := 139) dX9_clear_139 rfl rfl <|
                  cw_insI (pc := 140) dX9_clear_140 (c_X9_countOf (m := b) (by omega)) vX9_200 rfl rfl rfl (by decide) <|
                  cw_icmp_ge_F (tgt := 150) (pc := 143) dX9_clear_143 (by decide) (nI_ge hc (by have := cnt_le12 i 12; have := cnt_le12 b 12; omega)) <|
                  cw_iconst (v := 1) (pc := 146) dX9_clear_146 (by decide) <|
                  cw_goto (tgt := 151) (pc := 147) dX9_clear_147 (by decide) <|
                  cw_istore (L' := [_, _, _, _, _, _]) (pc := 151) dX9_clear_151 (by decide) rfl rfl <|
                  cw_iload (pc := 153) dX9_clear_153 rfl <|
                  cw_if_eq_F (tgt := 182) (pc := 155) dX9_clear_155 (by decide) (by decide) <|
                  cw_aload_n (pc := 158) dX9_clear_158 rfl rfl <|
                  cw_iload_n (pc := 159) dX9_clear_159 rfl rfl <|
                  cw_iload (pc := 160) dX9_clear_160 rfl <|
                  cw_invP (q := 67) (pc := 162) dX9_clear_162 (c_X9_scoreClearing rfl hILm hp (by omega) h4 h5) rfl vX9_203 sh_67 (by decide) rfl rfl rfl (by decide) <|
                  ?_
                rintro _ m2 ⟨rfl, s2⟩
                have e68' : m2 68 = μ 68 := s2.l68.trans e68
                have hP2 : InvP (m2 68) code mk := by rw [e68']; exact hIP
                rw [e68]
                refine cw_aload_n (pc := 165) dX9_clear_165 rfl rfl <|
                  cw_sipush (v := 238) (pc := 166) dX9_clear_166 (by decide) <|
                  cw_bipush (v := 30) (pc := 169) dX9_clear_169 (by decide) <|
                  cw_invI (q := 67) (pc := 171) dX9_clear_171 (c_X9_tellsOf_pass hP2) rfl vX9_124 sh_67 (by decide) rfl rfl rfl (by decide) <|
                  cw_icmp_lt_T (tgt := 182) (pc := 174) dX9_clear_174 (by decide) (Int32.not_le.mp hsc) <|
                  cw_iload_n (pc := 182) dX9_clear_182 rfl rfl <|
                  cw_istore_n (L' := [_, _, _, _, _, _]) (pc := 183) dX9_clear_183 rfl (by decide) rfl rfl <|
                  cw_iincL (L' := [_, _, _, _, _, _]) (c := 1) (pc := 184) dX9_clear_184 rfl (by decide) (by decide) rfl rfl <|
                  ?_
                rw [nI_1 i]
                refine cw_goto (tgt := 111) (pc := 187) dX9_clear_187 (by decide) <|
                  ?_
                rw [clr_no hB, ho] at ih
                exact ih _ _ (hS'.tr s2)
              · refine cw_iload (pc := 111) dX9_clear_111 rfl <|
                  cw_sipush (v := 4096) (pc := 113) dX9_clear_113 (by decide) <|
                  cw_icmp_ge_F (tgt := 190) (pc := 116) dX9_clear_116 (by decide) (nI_ge (b := 4096) hi (by decide)) <|
                  cw_iload (pc := 119) dX9_clear_119 rfl <|
                  cw_iload_n (pc := 121) dX9_clear_121 rfl rfl <|
                  cw_iconst (v := -1) (pc := 122) dX9_clear_122 (by decide) <|
                  cw_ixor (pc := 123) dX9_clear_123 <|
                  cw_iand (pc := 124) dX9_clear_124 <|
                  cw_if_ne_F (tgt := 150) (pc := 125) dX9_clear_125 (by decide) ((and_not_0 hi).mpr hsb) <|
                  cw_iload_n (pc := 128) dX9_clear_128 rfl rfl <|
                  cw_bipush (v := -5) (pc := 129) dX9_clear_129 (by decide) <|
                  cw_icmp_eq_F (tgt := 146) (pc := 131) dX9_clear_131 (by decide) hne <|
                  cw_iload (pc := 134) dX9_clear_134 rfl <|
                  cw_insI (pc := 136) dX9_clear_136 (c_X9_countOf (m := i) (by omega)) vX9_200 rfl rfl rfl (by decide) <|
                  cw_iload_n (pc := 139) dX9_clear_139 rfl rfl <|
                  cw_insI (pc := 140) dX9_clear_140 (c_X9_countOf (m := b) (by omega)) vX9_200 rfl rfl rfl (by decide) <|
                  cw_icmp_ge_T (tgt := 150) (pc := 143) dX9_clear_143 (by decide) (nI_le (Nat.not_lt.mp hc) (by have := cnt_le12 i 12; have := cnt_le12 b 12; omega)) <|
                  cw_iconst (v := 0) (pc := 150) dX9_clear_150 (by decide) <|
                  cw_istore (L' := [_, _, _, _, _, _]) (pc := 151) dX9_clear_151 (by decide) rfl rfl <|
                  cw_iload (pc := 153) dX9_clear_153 rfl <|
                  cw_if_eq_T (tgt := 182) (pc := 155) dX9_clear_155 (by decide) rfl <|
                  cw_iload_n (pc := 182) dX9_clear_182 rfl rfl <|
                  cw_istore_n (L' := [_, _, _, _, _, _]) (pc := 183) dX9_clear_183 rfl (by decide) rfl rfl <|
                  cw_iincL (L' := [_, _, _, _, _, _]) (c := 1) (pc := 184) dX9_clear_184 rfl (by decide) (by decide) rfl rfl <|
                  ?_
                rw [nI_1 i]
                refine cw_goto (tgt := 111) (pc := 187) dX9_clear_187 (by decide) <|
                  ?_
                rw [clr_no hB, ho] at ih
                exact ih _ _ hS'
        · have hB := sb_f1 (code := code) (mk := mk) (p := p) hsb
          refine cw_iload (pc := 111) dX9_clear_111 rfl <|
            cw_sipush (v := 4096) (pc := 113) dX9_clear_113 (by decide) <|
            cw_icmp_ge_F (tgt := 190) (pc := 116) dX9_clear_116 (by decide) (nI_ge (b := 4096) hi (by decide)) <|
            cw_iload (pc := 119) dX9_clear_119 rfl <|
            cw_iload_n (pc := 121) dX9_clear_121 rfl rfl <|
            cw_iconst (v := -1) (pc := 122) dX9_clear_122 (by decide) <|
            cw_ixor (pc := 123) dX9_clear_123 <|
            cw_iand (pc := 124) dX9_clear_124 <|
            cw_if_ne_T (tgt := 150) (pc := 125) dX9_clear_125 (by decide) (fun h => hsb ((and_not_0 hi).mp h)) <|
            cw_iconst (v := 0) (pc := 150) dX9_clear_150 (by decide) <|
            cw_istore (L' := [_, _, _, _, _, _]) (pc := 151) dX9_clear_151 (by decide) rfl rfl <|
            cw_iload (pc := 153) dX9_clear_153 rfl <|
            cw_if_eq_T (tgt := 182) (pc := 155) dX9_clear_155 (by decide) rfl <|
            cw_iload_n (pc := 182) dX9_clear_182 rfl rfl <|
            cw_istore_n (L' := [_, _, _, _, _, _]) (pc := 183) dX9_clear_183 rfl (by decide) rfl rfl <|
            cw_iincL (L' := [_, _, _, _, _, _]) (c := 1) (pc := 184) dX9_clear_184 rfl (by decide) (by decide) rfl rfl <|
            ?_
          rw [nI_1 i]
          refine cw_goto (tgt := 111) (pc := 187) dX9_clear_187 (by decide) <|
            ?_
          rw [clr_no hB] at ih
          exact ih _ _ hS'
    · rintro i ⟨⟩ m hi ⟨hS, hT⟩ ih
      have e68 := hS.q68
      have hx9 : i / 9 < 12 := by omega
      have hdv : nI i / 9 = nI (i / 9) := pk_div (d := 9) (by omega) (by decide) (by decide)
      have hrm : nI i - nI i / 9 * 9 = nI (i % 9) := pk_rem (d := 9) (by omega) (by decide) (by decide)
      rw [hdv] at hrm
      have hly := ly_step (μ 68) i
      by_cases h0 : 0 < μ 68 (19 + i / 9)
      · rw [if_pos h0] at hly
        refine cw_iload_n (pc := 14) dX9_clear_14 rfl rfl <|
          cw_bipush (v := 108) (pc := 15) dX9_clear_15 (by decide) <|
          cw_icmp_ge_F (tgt := 105) (pc := 17) dX9_clear_17 (by decide) (nI_ge (b := 108) hi (by decide)) <|
          cw_aload_n (pc := 20) dX9_clear_20 rfl rfl <|
          cw_getR (q := 67) (t := 74) (pc := 21) dX9_clear_21 fX9_31 sh_67 (by decide) rfl <|
          cw_iload_n (pc := 24) dX9_clear_24 rfl rfl <|
          cw_aload_n (pc := 25) dX9_clear_25 rfl rfl <|
          cw_iload_n (pc := 26) dX9_clear_26 rfl rfl <|
          cw_iload_n (pc := 27) dX9_clear_27 rfl rfl <|
          cw_bipush (v := 9) (pc := 28) dX9_clear_28 (by decide) <|
          cw_idiv (pc := 30) dX9_clear_30 (by decide) <|
          ?_
        rw [hdv]
        refine cw_iload_n (pc := 31) dX9_clear_31 rfl rfl <|
          cw_bipush (v := 9) (pc := 32) dX9_clear_32 (by decide) <|
          cw_irem (pc := 34) dX9_clear_34 (by decide) <|
          ?_
        rw [hdv]
        rw [hrm]
        refine cw_aload_n (pc := 35) dX9_clear_35 rfl rfl <|
          cw_getR (q := 67) (t := 68) (pc := 36) dX9_clear_36 fX9_9 sh_67 (by decide) rfl <|
          cw_bipush (v := 19) (pc := 39) dX9_clear_39 (by decide) <|
          cw_iload_n (pc := 41) dX9_clear_41 rfl rfl <|
          cw_bipush (v := 9) (pc := 42) dX9_clear_42 (by decide) <|
          cw_idiv (pc := 44) dX9_clear_44 (by decide) <|
          ?_
        rw [hdv]
        refine cw_iadd (pc := 45) dX9_clear_45 <|
          cw_ial (q := 68) (jn := (19 + (i / 9))) (pc := 46) dX9_clear_46 sh_68 (nx_add rfl rfl) (by omega) (by decide) <|
          ?_
        rw [e68]
        refine cw_invP (q := 67) (pc := 47) dX9_clear_47 (c_X9_straysBy e68 hIP hp6 hx9) rfl vX9_138 sh_67 (by decide) rfl rfl rfl (by decide) <|
          ?_
        rintro _ m1 ⟨rfl, s1⟩
        refine cw_ias (q := 74) (jn := i) (pc := 50) dX9_clear_50 sh_74 rfl (by omega) (by decide) <|
          ?_
        have e68b : (st m1 74 i (stS (μ 68) code p (i / 9) (i % 9) (μ 68 (19 + i / 9)))) 68 = μ 68 := (funext fun j => (st_at.trans (if_neg (by omega)))).trans (s1.r68d.trans e68)
        refine cw_aload_n (pc := 51) dX9_clear_51 rfl rfl <|
          cw_getR (q := 67) (t := 75) (pc := 52) dX9_clear_52 fX9_34 sh_67 (by decide) rfl <|
          cw_iload_n (pc := 55) dX9_clear_55 rfl rfl <|
          cw_aload_n (pc := 56) dX9_clear_56 rfl rfl <|
          cw_iload_n (pc := 57) dX9_clear_57 rfl rfl <|
          cw_iload_n (pc := 58) dX9_clear_58 rfl rfl <|
          cw_bipush (v := 9) (pc := 59) dX9_clear_59 (by decide) <|
          cw_idiv (pc := 61) dX9_clear_61 (by decide) <|
          ?_
        rw [hdv]
        refine cw_iload_n (pc := 62) dX9_clear_62 rfl rfl <|
          cw_bipush (v := 9) (pc := 63) dX9_clear_63 (by decide) <|
          cw_irem (pc := 65) dX9_clear_65 (by decide) <|
          ?_
        rw [hdv]
        rw [hrm]
        refine cw_iconst (v := 0) (pc := 66) dX9_clear_66 (by decide) <|
          cw_invP (q := 67) (pc := 67) dX9_clear_67 (c_X9_straysBy e68b hIP hp6 hx9) rfl vX9_138 sh_67 (by decide) rfl rfl rfl (by decide) <|
          ?_
        rintro _ m2 ⟨rfl, s2⟩
        have e68c := s2.r68d.trans e68b
        refine cw_ias (q := 75) (jn := i) (pc := 70) dX9_clear_70 sh_75 rfl (by omega) (by decide) <|
          ?_
        have e68d : ∀ w, (st m2 75 i w) 68 = μ 68 := fun w => (funext fun j => (st_at.trans (if_neg (by omega)))).trans e68c
        refine cw_iload_n (pc := 71) dX9_clear_71 rfl rfl <|
          cw_aload_n (pc := 72) dX9_clear_72 rfl rfl <|
          cw_getR (q := 67) (t := 68) (pc := 73) dX9_clear_73 fX9_9 sh_67 (by decide) rfl <|
          cw_bipush (v := 19) (pc := 76) dX9_clear_76 (by decide) <|
          cw_iload_n (pc := 78) dX9_clear_78 rfl rfl <|
          cw_bipush (v := 9) (pc := 79) dX9_clear_79 (by decide) <|
          cw_idiv (pc := 81) dX9_clear_81 (by decide) <|
          ?_
        rw [hdv]
        refine cw_iadd (pc := 82) dX9_clear_82 <|
          cw_ial (q := 68) (jn := (19 + (i / 9))) (pc := 83) dX9_clear_83 sh_68 (nx_add rfl rfl) (by omega) (by decide) <|
          ?_
        rw [e68d]
        refine cw_if_le_F (tgt := 96) (pc := 84) dX9_clear_84 (by decide) (Int32.not_le.mpr h0) <|
          cw_iconst (v := 1) (pc := 87) dX9_clear_87 (by decide) <|
          cw_iload_n (pc := 88) dX9_clear_88 rfl rfl <|
          cw_bipush (v := 9) (pc := 89) dX9_clear_89 (by decide) <|
          cw_idiv (pc := 91) dX9_clear_91 (by decide) <|
          ?_
        rw [hdv]
        refine cw_ishl (pc := 92) dX9_clear_92 <|
          ?_
        rw [shl2 _ hx9]
        refine cw_goto (tgt := 97) (pc := 93) dX9_clear_93 (by decide) <|
          cw_ior (pc := 97) dX9_clear_97 <|
          ?_
        rw [hly]
        refine cw_istore_n (L' := [_, _, _, _, _, _]) (pc := 98) dX9_clear_98 rfl (by decide) rfl rfl <|
          cw_iincL (L' := [_, _, _, _, _, _]) (c := 1) (pc := 99) dX9_clear_99 rfl (by decide) (by decide) rfl rfl <|
          ?_
        rw [nI_1 i]
        refine cw_goto (tgt := 14) (pc := 102) dX9_clear_102 (by decide) <|
          ?_
        obtain ⟨t4, t5, t6⟩ := tab_s (v := stS (μ 68) code p (i / 9) (i % 9) (μ 68 (19 + i / 9))) (w := stS (μ 68) code p (i / 9) (i % 9) 0) s1 s2
        exact ih () _ ⟨(((hS.tr (MS_MQ (MD_MS s1))).s1 (Or.inl ⟨by decide, by decide⟩)).tr (MS_MQ (MD_MS s2))).s1 (Or.inl ⟨by decide, by decide⟩), fun y hy => by
          by_cases e : y = i
          · subst e; exact ⟨t4, t5⟩
          · exact ⟨(t6 y e).1.trans (hT y (by omega)).1, (t6 y e).2.trans (hT y (by omega)).2⟩⟩
      · rw [if_neg h0] at hly
        refine cw_iload_n (pc := 14) dX9_clear_14 rfl rfl <|
          cw_bipush (v := 108) (pc := 15) dX9_clear_15 (by decide) <|
          cw_icmp_ge_F (tgt := 105) (pc := 17) dX9_clear_17 (by decide) (nI_ge (b := 108) hi (by decide)) <|
          cw_aload_n (pc := 20) dX9_clear_20 rfl rfl <|
          cw_getR (q := 67) (t := 74) (pc := 21) dX9_clear_21 fX9_31 sh_67 (by decide) rfl <|
          cw_iload_n (pc := 24) dX9_clear_24 rfl rfl <|
          cw_aload_n (pc := 25) dX9_clear_25 rfl rfl <|
          cw_iload_n (pc := 26) dX9_clear_26 rfl rfl <|
          cw_iload_n (pc := 27) dX9_clear_27 rfl rfl <|
          cw_bipush (v := 9) (pc := 28) dX9_clear_28 (by decide) <|
          cw_idiv (pc := 30) dX9_clear_30 (by decide) <|
          ?_
        rw [hdv]
        refine cw_iload_n (pc := 31) dX9_clear_31 rfl rfl <|
          cw_bipush (v := 9) (pc := 32) dX9_clear_32 (by decide) <|
          cw_irem (pc := 34) dX9_clear_34 (by decide) <|
          ?_
        rw [hdv]
        rw [hrm]
        refine cw_aload_n (pc := 35) dX9_clear_35 rfl rfl <|
          cw_getR (q := 67) (t := 68) (pc := 36) dX9_clear_36 fX9_9 sh_67 (by decide) rfl <|
          cw_bipush (v := 19) (pc := 39) dX9_clear_39 (by decide) <|
          cw_iload_n (pc := 41) dX9_clear_41 rfl rfl <|
          cw_bipush (v := 9) (pc := 42) dX9_clear_42 (by decide) <|
          cw_idiv (pc := 44) dX9_clear_44 (by decide) <|
          ?_
        rw [hdv]
        refine cw_iadd (pc := 45) dX9_clear_45 <|
          cw_ial (q := 68) (jn := (19 + (i / 9))) (pc := 46) dX9_clear_46 sh_68 (nx_add rfl rfl) (by omega) (by decide) <|
          ?_
        rw [e68]
        refine cw_invP (q := 67) (pc := 47) dX9_clear_47 (c_X9_straysBy e68 hIP hp6 hx9) rfl vX9_138 sh_67 (by decide) rfl rfl rfl (by decide) <|
          ?_
        rintro _ m1 ⟨rfl, s1⟩
        refine cw_ias (q := 74) (jn := i) (pc := 50) dX9_clear_50 sh_74 rfl (by omega) (by decide) <|
          ?_
        have e68b : (st m1 74 i (stS (μ 68) code p (i / 9) (i % 9) (μ 68 (19 + i / 9)))) 68 = μ 68 := (funext fun j => (st_at.trans (if_neg (by omega)))).trans (s1.r68d.trans e68)
        refine cw_aload_n (pc := 51) dX9_clear_51 rfl rfl <|
          cw_getR (q := 67) (t := 75) (pc := 52) dX9_clear_52 fX9_34 sh_67 (by decide) rfl <|
          cw_iload_n (pc := 55) dX9_clear_55 rfl rfl <|
          cw_aload_n (pc := 56) dX9_clear_56 rfl rfl <|
          cw_iload_n (pc := 57) dX9_clear_57 rfl rfl <|
          cw_iload_n (pc := 58) dX9_clear_58 rfl rfl <|
          cw_bipush (v := 9) (pc := 59) dX9_clear_59 (by decide) <|
          cw_idiv (pc := 61) dX9_clear_61 (by decide) <|
          ?_
        rw [hdv]
        refine cw_iload_n (pc := 62) dX9_clear_62 rfl rfl <|
          cw_bipush (v := 9) (pc := 63) dX9_clear_63 (by decide) <|
          cw_irem (pc := 65) dX9_clear_65 (by decide) <|
          ?_
        rw [hdv]
        rw [hrm]
        refine cw_iconst (v := 0) (pc := 66) dX9_clear_66 (by decide) <|
          cw_invP (q := 67) (pc := 67) dX9_clear_67 (c_X9_straysBy e68b hIP hp6 hx9) rfl vX9_138 sh_67 (by decide) rfl rfl rfl (by decide) <|
          ?_
        rintro _ m2 ⟨rfl, s2⟩
        have e68c := s2.r68d.trans e68b
        refine cw_ias (q := 75) (jn := i) (pc := 70) dX9_clear_70 sh_75 rfl (by omega) (by decide) <|
          ?_
        have e68d : ∀ w, (st m2 75 i w) 68 = μ 68 := fun w => (funext fun j => (st_at.trans (if_neg (by omega)))).trans e68c
        refine cw_iload_n (pc := 71) dX9_clear_71 rfl rfl <|
          cw_aload_n (pc := 72) dX9_clear_72 rfl rfl <|
          cw_getR (q := 67) (t := 68) (pc := 73) dX9_clear_73 fX9_9 sh_67 (by decide) rfl <|
          cw_bipush (v := 19) (pc := 76) dX9_clear_76 (by decide) <|
          cw_iload_n (pc := 78) dX9_clear_78 rfl rfl <|
          cw_bipush (v := 9) (pc := 79) dX9_clear_79 (by decide) <|
          cw_idiv (pc := 81) dX9_clear_81 (by decide) <|
          ?_
        rw [hdv]
        refine cw_iadd (pc := 82) dX9_clear_82 <|
          cw_ial (q := 68) (jn := (19 + (i / 9))) (pc := 83) dX9_clear_83 sh_68 (nx_add rfl rfl) (by omega) (by decide) <|
          ?_
        rw [e68d]
        refine cw_if_le_T (tgt := 96) (pc := 84) dX9_clear_84 (by decide) (Int32.not_lt.mp h0) <|
          cw_iconst (v := 0) (pc := 96) dX9_clear_96 (by decide) <|
          cw_ior (pc := 97) dX9_clear_97 <|
          ?_
        rw [hly]
        refine cw_istore_n (L' := [_, _, _, _, _, _]) (pc := 98) dX9_clear_98 rfl (by decide) rfl rfl <|
          cw_iincL (L' := [_, _, _, _, _, _]) (c := 1) (pc := 99) dX9_clear_99 rfl (by decide) (by decide) rfl rfl <|
          ?_
        rw [nI_1 i]
        refine cw_goto (tgt := 14) (pc := 102) dX9_clear_102 (by decide) <|
          ?_
        obtain ⟨t4, t5, t6⟩ := tab_s (v := stS (μ 68) code p (i / 9) (i % 9) (μ 68 (19 + i / 9))) (w := stS (μ 68) code p (i / 9) (i % 9) 0) s1 s2
        exact ih () _ ⟨(((hS.tr (MS_MQ (MD_MS s1))).s1 (Or.inl ⟨by decide, by decide⟩)).tr (MS_MQ (MD_MS s2))).s1 (Or.inl ⟨by decide, by decide⟩), fun y hy => by
          by_cases e : y = i
          · subst e; exact ⟨t4, t5⟩
          · exact ⟨(t6 y e).1.trans (hT y (by omega)).1, (t6 y e).2.trans (hT y (by omega)).2⟩⟩
  · refine cw_aload_n (pc := 0) dX9_clear_0 rfl rfl <|
      cw_iload_n (pc := 1) dX9_clear_1 rfl rfl <|
      cw_invI (q := 67) (pc := 2) dX9_clear_2 (c_X9_isMan hn h6) rfl vX9_162 sh_67 (by decide) rfl rfl rfl (by decide) <|
      cw_if_ne_F (tgt := 10) (pc := 5) dX9_clear_5 (by decide) (bI_0.mpr hx) <|
      cw_iconst (v := -1) (pc := 8) dX9_clear_8 (by decide) <|
      cw_iret (pc := 9) dX9_clear_9 hR <|
      ⟨by rw [clearA, if_neg hx], Same.rf⟩
