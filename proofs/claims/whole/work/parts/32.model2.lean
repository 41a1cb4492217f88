/-! ===== the model: stray, a line, its score, who is best, a year ===== -/
def MS : Nat → Nat → Prop := fun q i => (71 ≤ q ∧ q ≤ 75) ∨ (q = 67 ∧ (i = 13 ∨ i = 14))
def MG : Nat → Nat → Prop := fun q i => (71 ≤ q ∧ q ≤ 75) ∨ (q = 67 ∧ (i = 13 ∨ i = 14)) ∨ q = 68
theorem Same.r68 {μ μ' : Mem} (h : Same MS μ μ') : μ' 68 = μ 68 := funext fun i => h _ _ (by unfold MS; omega)
theorem Same.r68d {μ μ' : Mem} (h : Same MD μ μ') : μ' 68 = μ 68 := funext fun i => h _ _ (by unfold MD; omega)
theorem MD_MS {μ μ' : Mem} (h : Same MD μ μ') : Same MS μ μ' := h.mo (fun q i h => by unfold MD at h; unfold MS; omega)
theorem MS_MG {μ μ' : Mem} (h : Same MS μ μ') : Same MG μ μ' := h.mo (fun q i h => by unfold MS at h; unfold MG; omega)
set_option maxHeartbeats 4000000 in
set_option maxRecDepth 100000 in
theorem c_X9_straysBy {E : Ev} {μ : Mem} {s : Row} (hs : μ 68 = s) {code : PCo} {mk : Nat} (hP : InvP s code mk) {p x l : Nat} (hp : p < 6) (hx : x < 12) {f : Int32} : AM E yX9_straysBy cX9_straysBy 7 (some .int) 2 [.ref 67, .int (nI p), .int (nI x), .int (nI l), .int f] μ (fun r μ' => r = some (.int (strayL code (s 0) p (s (39 + p)) (s (45 + p)) (fun j => s (57 + (p * 4 + j))) x l f)) ∧ Same MD μ μ') := by
  refine am_of (own := RX9) (L := [.ref 67, .int (nI p), .int (nI x), .int (nI l), .int f, .null, .null]) (by decide) rfl (Nat.le_of_ble_eq_true rfl) rfl (fun Γ hR => ?_)
  subst hs
  refine cw_aload_n (pc := 0) dX9_straysBy_0 rfl rfl <|
    cw_iload_n (pc := 1) dX9_straysBy_1 rfl rfl <|
    cw_iload_n (pc := 2) dX9_straysBy_2 rfl rfl <|
    cw_iload_n (pc := 3) dX9_straysBy_3 rfl rfl <|
    cw_iload (pc := 4) dX9_straysBy_4 rfl <|
    cw_invP (q := 67) (pc := 6) dX9_straysBy_6 (c_X9_driftOf hP hp) rfl vX9_128 sh_67 (by decide) rfl rfl rfl (by decide) <|
    ?_
  rintro _ m1 ⟨rfl, s1⟩
  have e68 := s1.r68d
  refine cw_istore (L' := [_, _, _, _, _, _, _]) (pc := 9) dX9_straysBy_9 (by decide) rfl rfl <|
    cw_aload_n (pc := 11) dX9_straysBy_11 rfl rfl <|
    cw_getR (q := 67) (t := 68) (pc := 12) dX9_straysBy_12 fX9_9 sh_67 (by decide) rfl <|
    cw_bipush (v := 45) (pc := 15) dX9_straysBy_15 (by decide) <|
    cw_iload_n (pc := 17) dX9_straysBy_17 rfl rfl <|
    cw_iadd (pc := 18) dX9_straysBy_18 <|
    cw_ial (q := 68) (jn := (45 + p)) (pc := 19) dX9_straysBy_19 sh_68 (nx_add rfl rfl) (by omega) (by decide) <|
    ?_
  rw [e68]
  refine cw_istore (L' := [_, _, _, _, _, _, _]) (pc := 20) dX9_straysBy_20 (by decide) rfl rfl <|
    cw_aload_n (pc := 22) dX9_straysBy_22 rfl rfl <|
    cw_getR (q := 67) (t := 68) (pc := 23) dX9_straysBy_23 fX9_9 sh_67 (by decide) rfl <|
    cw_bipush (v := 39) (pc := 26) dX9_straysBy_26 (by decide) <|
    cw_iload_n (pc := 28) dX9_straysBy_28 rfl rfl <|
    cw_iadd (pc := 29) dX9_straysBy_29 <|
    cw_ial (q := 68) (jn := (39 + p)) (pc := 30) dX9_straysBy_30 sh_68 (nx_add rfl rfl) (by omega) (by decide) <|
    ?_
  rw [e68]
  by_cases e1 : μ 68 (39 + p) = 1
  · refine cw_tabI (v := 1) (tgt := 68) (pc := 31) dX9_straysBy_31 (by rw [e1]; rfl) (by decide) (by decide) rfl (by decide) <|
      cw_iload (pc := 68) dX9_straysBy_68 rfl <|
      cw_iconst (v := 2) (pc := 70) dX9_straysBy_70 (by decide) <|
      cw_idiv (pc := 71) dX9_straysBy_71 (by decide) <|
      cw_iret (pc := 72) dX9_straysBy_72 hR <|
      ⟨by simp [strayL, strayF, e1], s1⟩
  by_cases e2 : μ 68 (39 + p) = 2
  · refine cw_tabI (v := 2) (tgt := 73) (pc := 31) dX9_straysBy_31 (by rw [e2]; rfl) (by decide) (by decide) rfl (by decide) <|
      cw_iload (pc := 73) dX9_straysBy_73 rfl <|
      cw_iload (pc := 75) dX9_straysBy_75 rfl <|
      cw_iadd (pc := 77) dX9_straysBy_77 <|
      cw_iret (pc := 78) dX9_straysBy_78 hR <|
      ⟨by simp [strayL, strayF, e2], s1⟩
  by_cases e3 : μ 68 (39 + p) = 3
  · by_cases hv : μ 68 (45 + p) < f
    · refine cw_tabI (v := 3) (tgt := 79) (pc := 31) dX9_straysBy_31 (by rw [e3]; rfl) (by decide) (by decide) rfl (by decide) <|
        cw_iload (pc := 79) dX9_straysBy_79 rfl <|
        cw_iload (pc := 81) dX9_straysBy_81 rfl <|
        cw_icmp_le_F (tgt := 91) (pc := 83) dX9_straysBy_83 (by decide) (Int32.not_le.mpr hv) <|
        cw_iload (pc := 86) dX9_straysBy_86 rfl <|
        cw_goto (tgt := 92) (pc := 88) dX9_straysBy_88 (by decide) <|
        cw_iret (pc := 92) dX9_straysBy_92 hR <|
        ⟨by simp [strayL, strayF, e3, hv], s1⟩
    · refine cw_tabI (v := 3) (tgt := 79) (pc := 31) dX9_straysBy_31 (by rw [e3]; rfl) (by decide) (by decide) rfl (by decide) <|
        cw_iload (pc := 79) dX9_straysBy_79 rfl <|
        cw_iload (pc := 81) dX9_straysBy_81 rfl <|
        cw_icmp_le_T (tgt := 91) (pc := 83) dX9_straysBy_83 (by decide) (Int32.not_lt.mp hv) <|
        cw_iconst (v := 0) (pc := 91) dX9_straysBy_91 (by decide) <|
        cw_iret (pc := 92) dX9_straysBy_92 hR <|
        ⟨by simp [strayL, strayF, e3, hv], s1⟩
  by_cases e4 : μ 68 (39 + p) = 4
  · refine cw_tabI (v := 4) (tgt := 93) (pc := 31) dX9_straysBy_31 (by rw [e4]; rfl) (by decide) (by decide) rfl (by decide) <|
      cw_iload (pc := 93) dX9_straysBy_93 rfl <|
      cw_iconst (v := 2) (pc := 95) dX9_straysBy_95 (by decide) <|
      cw_idiv (pc := 96) dX9_straysBy_96 (by decide) <|
      cw_iload (pc := 97) dX9_straysBy_97 rfl <|
      cw_isub (pc := 99) dX9_straysBy_99 <|
      cw_iret (pc := 100) dX9_straysBy_100 hR <|
      ⟨by simp [strayL, strayF, e4], s1⟩
  by_cases e5 : μ 68 (39 + p) = 5
  · by_cases hy : μ 68 0 - μ 68 0 / 2 * 2 = 1
    · refine cw_tabI (v := 5) (tgt := 101) (pc := 31) dX9_straysBy_31 (by rw [e5]; rfl) (by decide) (by decide) rfl (by decide) <|
        cw_aload_n (pc := 101) dX9_straysBy_101 rfl rfl <|
        cw_getR (q := 67) (t := 68) (pc := 102) dX9_straysBy_102 fX9_9 sh_67 (by decide) rfl <|
        cw_iconst (v := 0) (pc := 105) dX9_straysBy_105 (by decide) <|
        cw_ial (q := 68) (jn := 0) (pc := 106) dX9_straysBy_106 sh_68 rfl (by decide) (by decide) <|
        ?_
      rw [e68]
      refine cw_iconst (v := 2) (pc := 107) dX9_straysBy_107 (by decide) <|
        cw_irem (pc := 108) dX9_straysBy_108 (by decide) <|
        cw_iconst (v := 1) (pc := 109) dX9_straysBy_109 (by decide) <|
        cw_icmp_ne_F (tgt := 122) (pc := 110) dX9_straysBy_110 (by decide) hy <|
        cw_iload (pc := 113) dX9_straysBy_113 rfl <|
        cw_iload (pc := 115) dX9_straysBy_115 rfl <|
        cw_iadd (pc := 117) dX9_straysBy_117 <|
        cw_ineg (pc := 118) dX9_straysBy_118 <|
        cw_goto (tgt := 127) (pc := 119) dX9_straysBy_119 (by decide) <|
        cw_iret (pc := 127) dX9_straysBy_127 hR <|
        ⟨by simp [strayL, strayF, e5, hy], s1⟩
    · refine cw_tabI (v := 5) (tgt := 101) (pc := 31) dX9_straysBy_31 (by rw [e5]; rfl) (by decide) (by decide) rfl (by decide) <|
        cw_aload_n (pc := 101) dX9_straysBy_101 rfl rfl <|
        cw_getR (q := 67) (t := 68) (pc := 102) dX9_straysBy_102 fX9_9 sh_67 (by decide) rfl <|
        cw_iconst (v := 0) (pc := 105) dX9_straysBy_105 (by decide) <|
        cw_ial (q := 68) (jn := 0) (pc := 106) dX9_straysBy_106 sh_68 rfl (by decide) (by decide) <|
        ?_
      rw [e68]
      refine cw_iconst (v := 2) (pc := 107) dX9_straysBy_107 (by decide) <|
        cw_irem (pc := 108) dX9_straysBy_108 (by decide) <|
        cw_iconst (v := 1) (pc := 109) dX9_straysBy_109 (by decide) <|
        cw_icmp_ne_T (tgt := 122) (pc := 110) dX9_straysBy_110 (by decide) hy <|
        cw_iload (pc := 122) dX9_straysBy_122 rfl <|
        cw_iload (pc := 124) dX9_straysBy_124 rfl <|
        cw_iadd (pc := 126) dX9_straysBy_126 <|
        cw_iret (pc := 127) dX9_straysBy_127 hR <|
        ⟨by simp [strayL, strayF, e5, hy], s1⟩
  by_cases e6 : μ 68 (39 + p) = 6
  · by_cases hv : μ 68 (45 + p) < f
    · refine cw_tabI (v := 6) (tgt := 128) (pc := 31) dX9_straysBy_31 (by rw [e6]; rfl) (by decide) (by decide) rfl (by decide) <|
        cw_iload (pc := 128) dX9_straysBy_128 rfl <|
        cw_iload (pc := 130) dX9_straysBy_130 rfl <|
        cw_icmp_le_F (tgt := 140) (pc := 132) dX9_straysBy_132 (by decide) (Int32.not_le.mpr hv) <|
        cw_iload (pc := 135) dX9_straysBy_135 rfl <|
        cw_goto (tgt := 141) (pc := 137) dX9_straysBy_137 (by decide) <|
        cw_aload_n (pc := 141) dX9_straysBy_141 rfl rfl <|
        cw_getR (q := 67) (t := 68) (pc := 142) dX9_straysBy_142 fX9_9 sh_67 (by decide) rfl <|
        cw_bipush (v := 57) (pc := 145) dX9_straysBy_145 (by decide) <|
        cw_iconst (v := 4) (pc := 147) dX9_straysBy_147 (by decide) <|
        cw_iload_n (pc := 148) dX9_straysBy_148 rfl rfl <|
        cw_imul (pc := 149) dX9_straysBy_149 <|
        cw_iadd (pc := 150) dX9_straysBy_150 <|
        cw_iload_n (pc := 151) dX9_straysBy_151 rfl rfl <|
        cw_iconst (v := 4) (pc := 152) dX9_straysBy_152 (by decide) <|
        cw_irem (pc := 153) dX9_straysBy_153 (by decide) <|
        cw_iadd (pc := 154) dX9_straysBy_154 <|
        cw_ial (q := 68) (jn := ((57 + (4 * p)) + (x % 4))) (pc := 155) dX9_straysBy_155 sh_68 (nx_add (nx_add rfl (nx_mul rfl rfl)) (pk_rem (d := 4) (by omega) (by decide) (by decide))) (by omega) (by decide) <|
        ?_
      rw [e68, show 57 + 4 * p + x % 4 = 57 + (p * 4 + x % 4) by omega]
      refine cw_iadd (pc := 156) dX9_straysBy_156 <|
        cw_iconst (v := 4) (pc := 157) dX9_straysBy_157 (by decide) <|
        cw_isub (pc := 158) dX9_straysBy_158 <|
        cw_iret (pc := 159) dX9_straysBy_159 hR <|
        ⟨by simp [strayL, strayF, e6, hv], s1⟩
    · refine cw_tabI (v := 6) (tgt := 128) (pc := 31) dX9_straysBy_31 (by rw [e6]; rfl) (by decide) (by decide) rfl (by decide) <|
        cw_iload (pc := 128) dX9_straysBy_128 rfl <|
        cw_iload (pc := 130) dX9_straysBy_130 rfl <|
        cw_icmp_le_T (tgt := 140) (pc := 132) dX9_straysBy_132 (by decide) (Int32.not_lt.mp hv) <|
        cw_iconst (v := 0) (pc := 140) dX9_straysBy_140 (by decide) <|
        cw_aload_n (pc := 141) dX9_straysBy_141 rfl rfl <|
        cw_getR (q := 67) (t := 68) (pc := 142) dX9_straysBy_142 fX9_9 sh_67 (by decide) rfl <|
        cw_bipush (v := 57) (pc := 145) dX9_straysBy_145 (by decide) <|
        cw_iconst (v := 4) (pc := 147) dX9_straysBy_147 (by decide) <|
        cw_iload_n (pc := 148) dX9_straysBy_148 rfl rfl <|
        cw_imul (pc := 149) dX9_straysBy_149 <|
        cw_iadd (pc := 150) dX9_straysBy_150 <|
        cw_iload_n (pc := 151) dX9_straysBy_151 rfl rfl <|
        cw_iconst (v := 4) (pc := 152) dX9_straysBy_152 (by decide) <|
        cw_irem (pc := 153) dX9_straysBy_153 (by decide) <|
        cw_iadd (pc := 154) dX9_straysBy_154 <|
        cw_ial (q := 68) (jn := ((57 + (4 * p)) + (x % 4))) (pc := 155) dX9_straysBy_155 sh_68 (nx_add (nx_add rfl (nx_mul rfl rfl)) (pk_rem (d := 4) (by omega) (by decide) (by decide))) (by omega) (by decide) <|
        ?_
      rw [e68, show 57 + 4 * p + x % 4 = 57 + (p * 4 + x % 4) by omega]
      refine cw_iadd (pc := 156) dX9_straysBy_156 <|
        cw_iconst (v := 4) (pc := 157) dX9_straysBy_157 (by decide) <|
        cw_isub (pc := 158) dX9_straysBy_158 <|
        cw_iret (pc := 159) dX9_straysBy_159 hR <|
        ⟨by simp [strayL, strayF, e6, hv], s1⟩
  refine cw_tabD (tgt := 160) (pc := 31) dX9_straysBy_31 (sw16 e1 e2 e3 e4 e5 e6) (by decide) <|
    cw_iload (pc := 160) dX9_straysBy_160 rfl <|
    cw_iret (pc := 162) dX9_straysBy_162 hR <|
    ⟨by simp [strayL, strayF, e1, e2, e3, e4, e5, e6], s1⟩
theorem cl_by : ∀ a, a < 9 → ∀ b, b < 9 → (nI b - nI a).toInt = (b : Int) - a := fun a ha b hb => pk_sub_toInt (by omega) (by omega)
theorem cl_z {x : Int32} : x = 0 ↔ x.toInt = 0 := ⟨fun h => by rw [h]; rfl, fun h => Int32.toInt_inj.mp h⟩
theorem cl_mul {x y : Int32} (hx : -8 ≤ x.toInt ∧ x.toInt ≤ 8) (hy : -8 ≤ y.toInt ∧ y.toInt ≤ 8) : (x * y).toInt = x.toInt * y.toInt := by
  rw [Int32.toInt_mul]
  have h1 : -64 ≤ x.toInt * y.toInt := by
    have a1 := Int.mul_nonneg (show 0 ≤ 8 + x.toInt by omega) (show 0 ≤ 8 + y.toInt by omega)
    have a2 := Int.mul_nonneg (show 0 ≤ 8 - x.toInt by omega) (show 0 ≤ 8 - y.toInt by omega)
    grind
  have h2 : x.toInt * y.toInt ≤ 64 := by
    have a1 := Int.mul_nonneg (show 0 ≤ 8 - x.toInt by omega) (show 0 ≤ 8 + y.toInt by omega)
    have a2 := Int.mul_nonneg (show 0 ≤ 8 + x.toInt by omega) (show 0 ≤ 8 - y.toInt by omega)
    grind
  exact Int.bmod_eq_of_le (by omega) (by omega)
theorem cl_neg {x : Int32} : x < 0 ↔ x.toInt < 0 := Int32.lt_iff_toInt_lt
theorem stat_rng {ln : Nat → Nat} (h : ∀ x, ln x ≤ 8) (x : Nat) : -8 ≤ (stat ln x).2.2 ∧ (stat ln x).2.2 ≤ 8 := by
  induction x with
  | zero => simp [stat]
  | succ x ih =>
    simp only [stat]
    have := h x; have := h (x + 1)
    split
    · exact ih
    · constructor <;> omega
theorem stat_s (ln : Nat → Nat) (x : Nat) : stat ln (x + 1) = (if (ln (x + 1) : Int) - ln x = 0 then (stat ln x).1 else (stat ln x).1 + 1, if ((ln (x + 1) : Int) - ln x) * (stat ln x).2.2 < 0 then (stat ln x).2.1 + 1 else (stat ln x).2.1, if (ln (x + 1) : Int) - ln x = 0 then (stat ln x).2.2 else (ln (x + 1) : Int) - ln x) := rfl
def MC : Nat → Nat → Prop := fun q i => q = 67 ∧ (i = 13 ∨ i = 14)
set_option maxHeartbeats 4000000 in
set_option maxRecDepth 100000 in
theorem c_X9_countsLine {E : Ev} {μ : Mem} {ln : Nat → Nat} (h : ∀ x, x ≤ 12 → μ 73 x = nI (ln x)) (hb : ∀ x, ln x ≤ 8) : AM E yX9_countsLine cX9_countsLine 4 none 0 [.ref 67] μ (fun r μ' => r = none ∧ μ' 67 13 = nI (stat ln 12).1 ∧ μ' 67 14 = nI (stat ln 12).2.1 ∧ Same MC μ μ') := by
  refine am_of (own := RX9) (L := [.ref 67, .null, .null, .null]) (by decide) rfl (Nat.le_of_ble_eq_true rfl) rfl (fun Γ hR => ?_)
  refine cw_aload_n (pc := 0) dX9_countsLine_0 rfl rfl <|
    cw_iconst (v := 0) (pc := 1) dX9_countsLine_1 (by decide) <|
    cw_putI (q := 67) (pc := 2) dX9_countsLine_2 pX9_132 sh_67 (by decide) rfl <|
    cw_aload_n (pc := 5) dX9_countsLine_5 rfl rfl <|
    cw_iconst (v := 0) (pc := 6) dX9_countsLine_6 (by decide) <|
    cw_putI (q := 67) (pc := 7) dX9_countsLine_7 pX9_135 sh_67 (by decide) rfl <|
    cw_iconst (v := 0) (pc := 10) dX9_countsLine_10 (by decide) <|
    cw_istore_n (L' := [_, _, _, _]) (pc := 11) dX9_countsLine_11 rfl (by decide) rfl rfl <|
    cw_iconst (v := 0) (pc := 12) dX9_countsLine_12 (by decide) <|
    cw_istore_n (L' := [_, _, _, _]) (pc := 13) dX9_countsLine_13 rfl (by decide) rfl rfl <|
    ?_
  refine cw_for (σ := Int32 × Value) 12 (fun i a m => Same MC μ m ∧ m 67 13 = nI (stat ln i).1 ∧ m 67 14 = nI (stat ln i).2.1 ∧ a.1.toInt = (stat ln i).2.2) (fun i a => [.ref 67, .int a.1, .int (nI i), a.2]) ?_ ?_ 0 (0, .null) _ (Nat.zero_le _) ⟨(Same.rf.s1 (F := MC) (q := 67) (i := 13) ⟨rfl, Or.inl rfl⟩).s1 ⟨rfl, Or.inr rfl⟩, by simp [st_at, stat]; rfl, by simp [st_at, stat]; rfl, rfl⟩
  · rintro ⟨lt, z⟩ m ⟨hS, h13, h14, hlt⟩
    refine cw_iload_n (pc := 14) dX9_countsLine_14 rfl rfl <|
      cw_bipush (v := 12) (pc := 15) dX9_countsLine_15 (by decide) <|
      cw_icmp_ge_T (tgt := 90) (pc := 17) dX9_countsLine_17 (by decide) (by decide) <|
      cw_vret (pc := 90) dX9_countsLine_90 hR <|
      ⟨rfl, h13, h14, hS⟩
  · rintro i ⟨lt, z⟩ m hi ⟨hS, h13, h14, hlt⟩ ih
    dsimp only at hlt ⊢
    have e73 : ∀ x, x ≤ 12 → m 73 x = nI (ln x) := fun x hx => (hS _ _ (by unfold MC; omega)).trans (h x hx)
    have ea := e73 i (by omega)
    have eb := e73 (i + 1) (by omega)
    have ba := hb i
    have bb := hb (i + 1)
    have hby := cl_by (ln i) (by omega) (ln (i + 1)) (by omega)
    have hrg := stat_rng hb i
    have hs := stat_s ln i
    generalize hB : nI (ln (i + 1)) - nI (ln i) = by' at hby
    have hmul := cl_mul (x := by') (y := lt) (by omega) (by omega)
    rw [hlt, hby] at hmul
    have r14 : ∀ v, (st m 67 13 v) 67 14 = nI (stat ln i).2.1 := fun v => (st_at.trans (if_neg (by omega))).trans h14
    by_cases h0 : by' = 0
    · have z0 : (ln (i + 1) : Int) - ln i = 0 := by rw [← hby]; exact cl_z.mp h0
      rw [if_pos z0, z0, Int.zero_mul, if_neg (by decide), if_pos rfl] at hs
      have hn : ¬ by' * lt < 0 := by rw [h0, Int32.zero_mul]; decide
      refine cw_iload_n (pc := 14) dX9_countsLine_14 rfl rfl <|
        cw_bipush (v := 12) (pc := 15) dX9_countsLine_15 (by decide) <|
        cw_icmp_ge_F (tgt := 90) (pc := 17) dX9_countsLine_17 (by decide) (nI_ge (b := 12) hi (by decide)) <|
        cw_aload_n (pc := 20) dX9_countsLine_20 rfl rfl <|
        cw_getR (q := 67) (t := 73) (pc := 21) dX9_countsLine_21 fX9_28 sh_67 (by decide) rfl <|
        cw_iload_n (pc := 24) dX9_countsLine_24 rfl rfl <|
        cw_iconst (v := 1) (pc := 25) dX9_countsLine_25 (by decide) <|
        cw_iadd (pc := 26) dX9_countsLine_26 <|
        cw_ial (q := 73) (jn := (i + 1)) (pc := 27) dX9_countsLine_27 sh_73 (nx_add rfl rfl) (by omega) (by decide) <|
        ?_
      rw [eb]
      refine cw_aload_n (pc := 28) dX9_countsLine_28 rfl rfl <|
        cw_getR (q := 67) (t := 73) (pc := 29) dX9_countsLine_29 fX9_28 sh_67 (by decide) rfl <|
        cw_iload_n (pc := 32) dX9_countsLine_32 rfl rfl <|
        cw_ial (q := 73) (jn := i) (pc := 33) dX9_countsLine_33 sh_73 rfl (by omega) (by decide) <|
        ?_
      rw [ea]
      refine cw_isub (pc := 34) dX9_countsLine_34 <|
        ?_
      rw [hB]
      refine cw_istore_n (L' := [_, _, _, _]) (pc := 35) dX9_countsLine_35 rfl (by decide) rfl rfl <|
        cw_aload_n (pc := 36) dX9_countsLine_36 rfl rfl <|
        cw_dup (pc := 37) dX9_countsLine_37 rfl <|
        cw_getI (q := 67) (pc := 38) dX9_countsLine_38 fX9_132 sh_67 (by decide) rfl <|
        ?_
      rw [h13]
      refine cw_iload_n (pc := 41) dX9_countsLine_41 rfl rfl <|
        cw_if_eq_T (tgt := 49) (pc := 42) dX9_countsLine_42 (by decide) h0 <|
        cw_iconst (v := 0) (pc := 49) dX9_countsLine_49 (by decide) <|
        cw_iadd (pc := 50) dX9_countsLine_50 <|
        cw_putI (q := 67) (pc := 51) dX9_countsLine_51 pX9_132 sh_67 (by decide) rfl <|
        cw_aload_n (pc := 54) dX9_countsLine_54 rfl rfl <|
        cw_dup (pc := 55) dX9_countsLine_55 rfl <|
        cw_getI (q := 67) (pc := 56) dX9_countsLine_56 fX9_135 sh_67 (by decide) rfl <|
        ?_
      rw [r14]
      refine cw_iload_n (pc := 59) dX9_countsLine_59 rfl rfl <|
        cw_iload_n (pc := 60) dX9_countsLine_60 rfl rfl <|
        cw_imul (pc := 61) dX9_countsLine_61 <|
        cw_if_ge_T (tgt := 69) (pc := 62) dX9_countsLine_62 (by decide) (Int32.not_lt.mp hn) <|
        cw_iconst (v := 0) (pc := 69) dX9_countsLine_69 (by decide) <|
        cw_iadd (pc := 70) dX9_countsLine_70 <|
        cw_putI (q := 67) (pc := 71) dX9_countsLine_71 pX9_135 sh_67 (by decide) rfl <|
        cw_iload_n (pc := 74) dX9_countsLine_74 rfl rfl <|
        cw_if_eq_T (tgt := 82) (pc := 75) dX9_countsLine_75 (by decide) h0 <|
        cw_iload_n (pc := 82) dX9_countsLine_82 rfl rfl <|
        cw_istore_n (L' := [_, _, _, _]) (pc := 83) dX9_countsLine_83 rfl (by decide) rfl rfl <|
        cw_iincL (L' := [_, _, _, _]) (c := 1) (pc := 84) dX9_countsLine_84 rfl (by decide) (by decide) rfl rfl <|
        ?_
      rw [nI_1 i]
      refine cw_goto (tgt := 14) (pc := 87) dX9_countsLine_87 (by decide) <|
        ?_
      exact ih (_, _) _ ⟨((hS.s1 (F := MC) ⟨rfl, Or.inl rfl⟩).s1 ⟨rfl, Or.inr rfl⟩), by rw [hs]; simp [st_at], by rw [hs]; simp [st_at], by rw [hs]; exact hlt⟩
    · have z0 : ¬ (ln (i + 1) : Int) - ln i = 0 := by rw [← hby]; exact fun h => h0 (cl_z.mpr h)
      rw [if_neg z0, if_neg z0] at hs
      by_cases hn : by' * lt < 0
      · rw [if_pos (by rw [← hmul]; exact cl_neg.mp hn)] at hs
        refine cw_iload_n (pc := 14) dX9_countsLine_14 rfl rfl <|
          cw_bipush (v := 12) (pc := 15) dX9_countsLine_15 (by decide) <|
          cw_icmp_ge_F (tgt := 90) (pc := 17) dX9_countsLine_17 (by decide) (nI_ge (b := 12) hi (by decide)) <|
          cw_aload_n (pc := 20) dX9_countsLine_20 rfl rfl <|
          cw_getR (q := 67) (t := 73) (pc := 21) dX9_countsLine_21 fX9_28 sh_67 (by decide) rfl <|
          cw_iload_n (pc := 24) dX9_countsLine_24 rfl rfl <|
          cw_iconst (v := 1) (pc := 25) dX9_countsLine_25 (by decide) <|
          cw_iadd (pc := 26) dX9_countsLine_26 <|
          cw_ial (q := 73) (jn := (i + 1)) (pc := 27) dX9_countsLine_27 sh_73 (nx_add rfl rfl) (by omega) (by decide) <|
          ?_
        rw [eb]
        refine cw_aload_n (pc := 28) dX9_countsLine_28 rfl rfl <|
          cw_getR (q := 67) (t := 73) (pc := 29) dX9_countsLine_29 fX9_28 sh_67 (by decide) rfl <|
          cw_iload_n (pc := 32) dX9_countsLine_32 rfl rfl <|
          cw_ial (q := 73) (jn := i) (pc := 33) dX9_countsLine_33 sh_73 rfl (by omega) (by decide) <|
          ?_
        rw [ea]
        refine cw_isub (pc := 34) dX9_countsLine_34 <|
          ?_
        rw [hB]
        refine cw_istore_n (L' := [_, _, _, _]) (pc := 35) dX9_countsLine_35 rfl (by decide) rfl rfl <|
          cw_aload_n (pc := 36) dX9_countsLine_36 rfl rfl <|
          cw_dup (pc := 37) dX9_countsLine_37 rfl <|
          cw_getI (q := 67) (pc := 38) dX9_countsLine_38 fX9_132 sh_67 (by decide) rfl <|
          ?_
        rw [h13]
        refine cw_iload_n (pc := 41) dX9_countsLine_41 rfl rfl <|
          cw_if_eq_F (tgt := 49) (pc := 42) dX9_countsLine_42 (by decide) h0 <|
          cw_iconst (v := 1) (pc := 45) dX9_countsLine_45 (by decide) <|
          cw_goto (tgt := 50) (pc := 46) dX9_countsLine_46 (by decide) <|
          cw_iadd (pc := 50) dX9_countsLine_50 <|
          cw_putI (q := 67) (pc := 51) dX9_countsLine_51 pX9_132 sh_67 (by decide) rfl <|
          cw_aload_n (pc := 54) dX9_countsLine_54 rfl rfl <|
          cw_dup (pc := 55) dX9_countsLine_55 rfl <|
          cw_getI (q := 67) (pc := 56) dX9_countsLine_56 fX9_135 sh_67 (by decide) rfl <|
          ?_
        rw [r14]
        refine cw_iload_n (pc := 59) dX9_countsLine_59 rfl rfl <|
          cw_iload_n (pc := 60) dX9_countsLine_60 rfl rfl <|
          cw_imul (pc := 61) dX9_countsLine_61 <|
          cw_if_ge_F (tgt := 69) (pc := 62) dX9_countsLine_62 (by decide) (Int32.not_le.mpr hn) <|
          cw_iconst (v := 1) (pc := 65) dX9_countsLine_65 (by decide) <|
          cw_goto (tgt := 70) (pc := 66) dX9_countsLine_66 (by decide) <|
          cw_iadd (pc := 70) dX9_countsLine_70 <|
          cw_putI (q := 67) (pc := 71) dX9_countsLine_71 pX9_135 sh_67 (by decide) rfl <|
          cw_iload_n (pc := 74) dX9_countsLine_74 rfl rfl <|
          cw_if_eq_F (tgt := 82) (pc := 75) dX9_countsLine_75 (by decide) h0 <|
          cw_iload_n (pc := 78) dX9_countsLine_78 rfl rfl <|
          cw_goto (tgt := 83) (pc := 79) dX9_countsLine_79 (by decide) <|
          cw_istore_n (L' := [_, _, _, _]) (pc := 83) dX9_countsLine_83 rfl (by decide) rfl rfl <|
          cw_iincL (L' := [_, _, _, _]) (c := 1) (pc := 84) dX9_countsLine_84 rfl (by decide) (by decide) rfl rfl <|
          ?_
        rw [nI_1 i]
        refine cw_goto (tgt := 14) (pc := 87) dX9_countsLine_87 (by decide) <|
          ?_
        exact ih (_, _) _ ⟨((hS.s1 (F := MC) ⟨rfl, Or.inl rfl⟩).s1 ⟨rfl, Or.inr rfl⟩), by rw [hs]; simp [st_at, nI_1], by rw [hs]; simp [st_at, nI_1], by rw [hs]; exact hby⟩
      · rw [if_neg (by rw [← hmul]; exact fun h => hn (cl_neg.mpr h))] at hs
        refine cw_iload_n (pc := 14) dX9_countsLine_14 rfl rfl <|
          cw_bipush (v := 12) (pc := 15) dX9_countsLine_15 (by decide) <|
          cw_icmp_ge_F (tgt := 90) (pc := 17) dX9_countsLine_17 (by decide) (nI_ge (b := 12) hi (by decide)) <|
          cw_aload_n (pc := 20) dX9_countsLine_20 rfl rfl <|
          cw_getR (q := 67) (t := 73) (pc := 21) dX9_countsLine_21 fX9_28 sh_67 (by decide) rfl <|
          cw_iload_n (pc := 24) dX9_countsLine_24 rfl rfl <|
          cw_iconst (v := 1) (pc := 25) dX9_countsLine_25 (by decide) <|
          cw_iadd (pc := 26) dX9_countsLine_26 <|
          cw_ial (q := 73) (jn := (i + 1)) (pc := 27) dX9_countsLine_27 sh_73 (nx_add rfl rfl) (by omega) (by decide) <|
          ?_
        rw [eb]
        refine cw_aload_n (pc := 28) dX9_countsLine_28 rfl rfl <|
          cw_getR (q := 67) (t := 73) (pc := 29) dX9_countsLine_29 fX9_28 sh_67 (by decide) rfl <|
          cw_iload_n (pc := 32) dX9_countsLine_32 rfl rfl <|
          cw_ial (q := 73) (jn := i) (pc := 33) dX9_countsLine_33 sh_73 rfl (by omega) (by decide) <|
          ?_
        rw [ea]
        refine cw_isub (pc := 34) dX9_countsLine_34 <|
          ?_
        rw [hB]
        refine cw_istore_n (L' := [_, _, _, _]) (pc := 35) dX9_countsLine_35 rfl (by decide) rfl rfl <|
          cw_aload_n (pc := 36) dX9_countsLine_36 rfl rfl <|
          cw_dup (pc := 37) dX9_countsLine_37 rfl <|
          cw_getI (q := 67) (pc := 38) dX9_countsLine_38 fX9_132 sh_67 (by decide) rfl <|
          ?_
        rw [h13]
        refine cw_iload_n (pc := 41) dX9_countsLine_41 rfl rfl <|
          cw_if_eq_F (tgt := 49) (pc := 42) dX9_countsLine_42 (by decide) h0 <|
          cw_iconst (v := 1) (pc := 45) dX9_countsLine_45 (by decide) <|
          cw_goto (tgt := 50) (pc := 46) dX9_countsLine_46 (by decide) <|
          cw_iadd (pc := 50) dX9_countsLine_50 <|
          cw_putI (q := 67) (pc := 51) dX9_countsLine_51 pX9_132 sh_67 (by decide) rfl <|
          cw_aload_n (pc := 54) dX9_countsLine_54 rfl rfl <|
          cw_dup (pc := 55) dX9_countsLine_55 rfl <|
          cw_getI (q := 67) (pc := 56) dX9_countsLine_56 fX9_135 sh_67 (by decide) rfl <|
          ?_
        rw [r14]
        refine cw_iload_n (pc := 59) dX9_countsLine_59 rfl rfl <|
          cw_iload_n (pc := 60) dX9_countsLine_60 rfl rfl <|
          cw_imul (pc := 61) dX9_countsLine_61 <|
          cw_if_ge_T (tgt := 69) (pc := 62) dX9_countsLine_62 (by decide) (Int32.not_lt.mp hn) <|
          cw_iconst (v := 0) (pc := 69) dX9_countsLine_69 (by decide) <|
          cw_iadd (pc := 70) dX9_countsLine_70 <|
          cw_putI (q := 67) (pc := 71) dX9_countsLine_71 pX9_135 sh_67 (by decide) rfl <|
          cw_iload_n (pc := 74) dX9_countsLine_74 rfl rfl <|
          cw_if_eq_F (tgt := 82) (pc := 75) dX9_countsLine_75 (by decide) h0 <|
          cw_iload_n (pc := 78) dX9_countsLine_78 rfl rfl <|
          cw_goto (tgt := 83) (pc := 79) dX9_countsLine_79 (by decide) <|
          cw_istore_n (L' := [_, _, _, _]) (pc := 83) dX9_countsLine_83 rfl (by decide) rfl rfl <|
          cw_iincL (L' := [_, _, _, _]) (c := 1) (pc := 84) dX9_countsLine_84 rfl (by decide) (by decide) rfl rfl <|
          ?_
        rw [nI_1 i]
        refine cw_goto (tgt := 14) (pc := 87) dX9_countsLine_87 (by decide) <|
          ?_
        exact ih (_, _) _ ⟨((hS.s1 (F := MC) ⟨rfl, Or.inl rfl⟩).s1 ⟨rfl, Or.inr rfl⟩), by rw [hs]; simp [st_at, nI_1], by rw [hs]; simp [st_at], by rw [hs]; exact hby⟩
theorem MC_MS {μ μ' : Mem} (h : Same MC μ μ') : Same MS μ μ' := h.mo (fun q i h => Or.inr h)
theorem lnS_s (s : Row) (code : PCo) (p l x : Nat) : lnS s code p l (x + 1) = went (lnS s code p l x) (strayL code (s 0) p (s (39 + p)) (s (45 + p)) (fun j => s (57 + (p * 4 + j))) x (lnS s code p l x) (s (19 + x))) := rfl
theorem lnS_0 (s : Row) (code : PCo) (p l : Nat) : lnS s code p l 0 = l := rfl
theorem scS_ln (s : Row) (code : PCo) (p l : Nat) : scS s code (s 0) p l = scoreN (lnS s code p l) := rfl
theorem scoreN_eq2 (ln : Nat → Nat) : 40 - nI (stat ln 12).1 - 2 * nI (stat ln 12).2.1 - nI (spanN ln) = scoreN ln := rfl
set_option maxHeartbeats 4000000 in
set_option maxRecDepth 100000 in
theorem c_X9_scoreFrom {E : Ev} {μ : Mem} {s : Row} (hs : μ 68 = s) {code : PCo} {mk : Nat} (hP : InvP s code mk) {p l : Nat} (hp : p < 6) (hl : l ≤ 8) : AM E yX9_scoreFrom cX9_scoreFrom 4 (some .int) 3 [.ref 67, .int (nI p), .int (nI l)] μ (fun r μ' => r = some (.int (scS s code (s 0) p l)) ∧ (∀ x, x ≤ 12 → μ' 73 x = nI (lnS s code p l x)) ∧ μ' 67 13 = nI (stat (lnS s code p l) 12).1 ∧ μ' 67 14 = nI (stat (lnS s code p l) 12).2.1 ∧ Same MS μ μ') := by
  refine am_of (own := RX9) (L := [.ref 67, .int (nI p), .int (nI l), .null]) (by decide) rfl (Nat.le_of_ble_eq_true rfl) rfl (fun Γ hR => ?_)
  subst hs
  refine cw_aload_n (pc := 0) dX9_scoreFrom_0 rfl rfl <|
    cw_getR (q := 67) (t := 73) (pc := 1) dX9_scoreFrom_1 fX9_28 sh_67 (by decide) rfl <|
    cw_iconst (v := 0) (pc := 4) dX9_scoreFrom_4 (by decide) <|
    cw_iload_n (pc := 5) dX9_scoreFrom_5 rfl rfl <|
    cw_ias (q := 73) (jn := 0) (pc := 6) dX9_scoreFrom_6 sh_73 rfl (by decide) (by decide) <|
    cw_iconst (v := 0) (pc := 7) dX9_scoreFrom_7 (by decide) <|
    cw_istore_n (L' := [_, _, _, _]) (pc := 8) dX9_scoreFrom_8 rfl (by decide) rfl rfl <|
    ?_
  refine cw_for (σ := Unit) 12 (fun i a m => Same MS μ m ∧ ∀ y, y ≤ i → m 73 y = nI (lnS (μ 68) code p l y)) (fun i a => [.ref 67, .int (nI p), .int (nI l), .int (nI i)]) ?_ ?_ 0 () _ (Nat.zero_le _) ⟨Same.rf.s1 (F := MS) (q := 73) (i := 0) (Or.inl ⟨by decide, by decide⟩), fun y hy => by rw [show y = 0 by omega, lnS_0]; simp [st_at]⟩
  · rintro ⟨⟩ m ⟨hS, hln⟩
    refine cw_iload_n (pc := 9) dX9_scoreFrom_9 rfl rfl <|
      cw_bipush (v := 12) (pc := 10) dX9_scoreFrom_10 (by decide) <|
      cw_icmp_ge_T (tgt := 59) (pc := 12) dX9_scoreFrom_12 (by decide) (by decide) <|
      cw_aload_n (pc := 59) dX9_scoreFrom_59 rfl rfl <|
      cw_invP (q := 67) (pc := 60) dX9_scoreFrom_60 (c_X9_countsLine (ln := lnS (μ 68) code p l) (fun x hx => hln x hx) (fun x => lnS_le hl x)) rfl vX9_144 sh_67 (by decide) rfl rfl rfl (by decide) <|
      ?_
    rintro _ m2 ⟨rfl, o13, o14, s2⟩
    have hl2 : ∀ x, x ≤ 12 → m2 73 x = nI (lnS (μ 68) code p l x) := fun x hx => (s2 _ _ (by unfold MC; omega)).trans (hln x hx)
    refine cw_bipush (v := 40) (pc := 63) dX9_scoreFrom_63 (by decide) <|
      cw_aload_n (pc := 65) dX9_scoreFrom_65 rfl rfl <|
      cw_getI (q := 67) (pc := 66) dX9_scoreFrom_66 fX9_132 sh_67 (by decide) rfl <|
      ?_
    rw [o13]
    refine cw_isub (pc := 69) dX9_scoreFrom_69 <|
      cw_iconst (v := 2) (pc := 70) dX9_scoreFrom_70 (by decide) <|
      cw_aload_n (pc := 71) dX9_scoreFrom_71 rfl rfl <|
      cw_getI (q := 67) (pc := 72) dX9_scoreFrom_72 fX9_135 sh_67 (by decide) rfl <|
      ?_
    rw [o14]
    refine cw_imul (pc := 75) dX9_scoreFrom_75 <|
      cw_isub (pc := 76) dX9_scoreFrom_76 <|
      cw_aload_n (pc := 77) dX9_scoreFrom_77 rfl rfl <|
      cw_invI (q := 67) (pc := 78) dX9_scoreFrom_78 (c_X9_span hl2 (fun x => lnS_le hl x)) rfl vX9_147 sh_67 (by decide) rfl rfl rfl (by decide) <|
      cw_isub (pc := 81) dX9_scoreFrom_81 <|
      cw_iret (pc := 82) dX9_scoreFrom_82 hR <|
      ⟨by rw [scoreN_eq2, scS_ln], hl2, o13, o14, hS.tr (MC_MS s2)⟩
  · rintro i ⟨⟩ m hi ⟨hS, hln⟩ ih
    have e68 := hS.r68
    have ei := hln i (Nat.le_refl _)
    refine cw_iload_n (pc := 9) dX9_scoreFrom_9 rfl rfl <|
      cw_bipush (v := 12) (pc := 10) dX9_scoreFrom_10 (by decide) <|
      cw_icmp_ge_F (tgt := 59) (pc := 12) dX9_scoreFrom_12 (by decide) (nI_ge (b := 12) hi (by decide)) <|
      cw_aload_n (pc := 15) dX9_scoreFrom_15 rfl rfl <|
      cw_getR (q := 67) (t := 73) (pc := 16) dX9_scoreFrom_16 fX9_28 sh_67 (by decide) rfl <|
      cw_iload_n (pc := 19) dX9_scoreFrom_19 rfl rfl <|
      cw_iconst (v := 1) (pc := 20) dX9_scoreFrom_20 (by decide) <|
      cw_iadd (pc := 21) dX9_scoreFrom_21 <|
      cw_aload_n (pc := 22) dX9_scoreFrom_22 rfl rfl <|
      cw_getR (q := 67) (t := 73) (pc := 23) dX9_scoreFrom_23 fX9_28 sh_67 (by decide) rfl <|
      cw_iload_n (pc := 26) dX9_scoreFrom_26 rfl rfl <|
      cw_ial (q := 73) (jn := i) (pc := 27) dX9_scoreFrom_27 sh_73 rfl (by omega) (by decide) <|
      ?_
    rw [ei]
    refine cw_aload_n (pc := 28) dX9_scoreFrom_28 rfl rfl <|
      cw_iload_n (pc := 29) dX9_scoreFrom_29 rfl rfl <|
      cw_iload_n (pc := 30) dX9_scoreFrom_30 rfl rfl <|
      cw_aload_n (pc := 31) dX9_scoreFrom_31 rfl rfl <|
      cw_getR (q := 67) (t := 73) (pc := 32) dX9_scoreFrom_32 fX9_28 sh_67 (by decide) rfl <|
      cw_iload_n (pc := 35) dX9_scoreFrom_35 rfl rfl <|
      cw_ial (q := 73) (jn := i) (pc := 36) dX9_scoreFrom_36 sh_73 rfl (by omega) (by decide) <|
      ?_
    rw [ei]
    refine cw_aload_n (pc := 37) dX9_scoreFrom_37 rfl rfl <|
      cw_getR (q := 67) (t := 68) (pc := 38) dX9_scoreFrom_38 fX9_9 sh_67 (by decide) rfl <|
      cw_bipush (v := 19) (pc := 41) dX9_scoreFrom_41 (by decide) <|
      cw_iload_n (pc := 43) dX9_scoreFrom_43 rfl rfl <|
      cw_iadd (pc := 44) dX9_scoreFrom_44 <|
      cw_ial (q := 68) (jn := (19 + i)) (pc := 45) dX9_scoreFrom_45 sh_68 (nx_add rfl rfl) (by omega) (by decide) <|
      ?_
    rw [e68]
    refine cw_invP (q := 67) (pc := 46) dX9_scoreFrom_46 (c_X9_straysBy e68 hP hp hi) rfl vX9_138 sh_67 (by decide) rfl rfl rfl (by decide) <|
      ?_
    rintro _ m2 ⟨rfl, s2⟩
    refine cw_insI (pc := 49) dX9_scoreFrom_49 (c_X9_went (l := lnS (μ 68) code p l i) (lnS_le hl i)) vX9_141 rfl rfl rfl (by decide) <|
      cw_ias (q := 73) (jn := (i + 1)) (pc := 52) dX9_scoreFrom_52 sh_73 (nx_add rfl rfl) (by omega) (by decide) <|
      cw_iincL (L' := [_, _, _, _]) (c := 1) (pc := 53) dX9_scoreFrom_53 rfl (by decide) (by decide) rfl rfl <|
      ?_
    rw [nI_1 i]
    refine cw_goto (tgt := 9) (pc := 56) dX9_scoreFrom_56 (by decide) <|
      ?_
    exact ih () _ ⟨(hS.tr (MD_MS s2)).s1 (Or.inl ⟨by decide, by decide⟩), fun y hy => by
      by_cases e : y = i + 1
      · subst e; rw [st_eq, lnS_s]
      · rw [st_at, if_neg (fun h => e h.2)]
        rw [← hln y (by omega)]
        exact s2 _ _ (by unfold MD; omega)⟩
set_option maxHeartbeats 4000000 in
set_option maxRecDepth 100000 in
theorem c_X9_scoreOf {E : Ev} {μ : Mem} {s : Row} (hs : μ 68 = s) {code : PCo} {mk : Nat} (hP : InvP s code mk) {n Y M : Nat} (hi : InvL s n Y M) {p : Nat} (hp : p < n) : AM E yX9_scoreOf cX9_scoreOf 2 (some .int) 4 [.ref 67, .int (nI p)] μ (fun r μ' => r = some (.int (scP s code p)) ∧ Same MS μ μ') := by
  refine am_of (own := RX9) (L := [.ref 67, .int (nI p)]) (by decide) rfl (Nat.le_of_ble_eq_true rfl) rfl (fun Γ hR => ?_)
  subst hs
  obtain ⟨pg, hpg, epg⟩ := (hi.2.2.2.2.2.2 p hp).1
  have hp6 : p < 6 := by have := hi.2.1; omega
  have epS : pgS (μ 68) p = pg := by unfold pgS; rw [epg]; exact nI_clamp (by omega)
  refine cw_aload_n (pc := 0) dX9_scoreOf_0 rfl rfl <|
    cw_iload_n (pc := 1) dX9_scoreOf_1 rfl rfl <|
    cw_aload_n (pc := 2) dX9_scoreOf_2 rfl rfl <|
    cw_getR (q := 67) (t := 68) (pc := 3) dX9_scoreOf_3 fX9_9 sh_67 (by decide) rfl <|
    cw_bipush (v := 51) (pc := 6) dX9_scoreOf_6 (by decide) <|
    cw_iload_n (pc := 8) dX9_scoreOf_8 rfl rfl <|
    cw_iadd (pc := 9) dX9_scoreOf_9 <|
    cw_ial (q := 68) (jn := (51 + p)) (pc := 10) dX9_scoreOf_10 sh_68 (nx_add rfl rfl) (by omega) (by decide) <|
    ?_
  rw [epg]
  refine cw_invP (q := 67) (pc := 11) dX9_scoreOf_11 (c_X9_scoreFrom rfl hP hp6 (l := pg) hpg) rfl vX9_150 sh_67 (by decide) rfl rfl rfl (by decide) <|
    ?_
  rintro _ m2 ⟨rfl, -, -, -, s2⟩
  refine cw_iret (pc := 14) dX9_scoreOf_14 hR <|
    ⟨by rw [scP, epS], s2⟩
theorem bestF_ge (na : Nat → Bool) (sc : Nat → Int32) (m0 : Int32) (n : Nat) : m0 ≤ (bestF na sc m0 n).2 := by
  induction n with
  | zero => exact Int32.le_refl _
  | succ n ih =>
    simp only [bestF]
    split
    · rename_i h; exact Int32.le_trans ih (Int32.le_of_lt h.2)
    · exact ih
theorem bestF_s (na : Nat → Bool) (sc : Nat → Int32) (m0 : Int32) (p : Nat) : bestF na sc m0 (p + 1) = if na p = true ∧ (bestF na sc m0 p).2 < sc p then (nI p, sc p) else bestF na sc m0 p := rfl
theorem sc_low : ∀ c, c ≤ 48 → (-1000000 : Int32) < 40 - nI c ∧ (-999999 : Int32) < 40 - nI c := by decide
theorem winA_low {s : Row} {code : PCo} {n Y M : Nat} (hi : InvL s n Y M) : (bestF (naS s) (scP s code) (-1000000) n).1 = winA s code n := by
  have h : ∀ p, p < n → ∃ c, c ≤ 48 ∧ scP s code p = 40 - nI c := fun p hp => by
    obtain ⟨pg, hpg, epg⟩ := (hi.2.2.2.2.2.2 p hp).1
    have epS : pgS s p = pg := by unfold pgS; rw [epg]; exact nI_clamp (by omega)
    exact scS_rng (by omega)
  exact (bestF_low (fun p hp => by obtain ⟨c, hc, e⟩ := h p hp; rw [e]; exact (sc_low c hc).1) (fun p hp => by obtain ⟨c, hc, e⟩ := h p hp; rw [e]; exact (sc_low c hc).2)).1
set_option maxHeartbeats 4000000 in
set_option maxRecDepth 100000 in
theorem c_X9_bestOne {E : Ev} {μ : Mem} {s : Row} (hs : μ 68 = s) {code : PCo} {mk : Nat} (hP : InvP s code mk) {n Y M : Nat} (hi : InvL s n Y M) : AM E yX9_bestOne cX9_bestOne 5 (some .int) 5 [.ref 67] μ (fun r μ' => r = some (.int (winA s code n)) ∧ Same MS μ μ') := by
  refine am_of (own := RX9) (L := [.ref 67, .null, .null, .null, .null]) (by decide) rfl (Nat.le_of_ble_eq_true rfl) rfl (fun Γ hR => ?_)
  subst hs
  have hn := hi.1
  have h6 := hi.2.1
  refine cw_bipush (v := -5) (pc := 0) dX9_bestOne_0 (by decide) <|
    cw_istore_n (L' := [_, _, _, _, _]) (pc := 2) dX9_bestOne_2 rfl (by decide) rfl rfl <|
    cw_ldc (pc := 3) dX9_bestOne_3 kX9_153 <|
    cw_istore_n (L' := [_, _, _, _, _]) (pc := 5) dX9_bestOne_5 rfl (by decide) rfl rfl <|
    cw_iconst (v := 0) (pc := 6) dX9_bestOne_6 (by decide) <|
    cw_istore_n (L' := [_, _, _, _, _]) (pc := 7) dX9_bestOne_7 rfl (by decide) rfl rfl <|
    ?_
  refine cw_for (σ := Int32 × Int32 × Value) n (fun i a m => Same MS μ m ∧ a.1 = (bestF (naS (μ 68)) (scP (μ 68) code) (-1000000) i).1 ∧ a.2.1 = (bestF (naS (μ 68)) (scP (μ 68) code) (-1000000) i).2) (fun i a => [.ref 67, .int a.1, .int a.2.1, .int (nI i), a.2.2]) ?_ ?_ 0 (-5, -1000000, .null) _ (Nat.zero_le _) ⟨Same.rf, rfl, rfl⟩
  · rintro ⟨a, b, z⟩ m ⟨hS, ha, hb⟩
    dsimp only at ha hb ⊢
    have e68 := hS.r68
    refine cw_iload_n (pc := 8) dX9_bestOne_8 rfl rfl <|
      cw_aload_n (pc := 9) dX9_bestOne_9 rfl rfl <|
      cw_getR (q := 67) (t := 68) (pc := 10) dX9_bestOne_10 fX9_9 sh_67 (by decide) rfl <|
      cw_bipush (v := 31) (pc := 13) dX9_bestOne_13 (by decide) <|
      cw_ial (q := 68) (jn := 31) (pc := 15) dX9_bestOne_15 sh_68 rfl (by omega) (by decide) <|
      ?_
    rw [e68, hn]
    refine cw_icmp_ge_T (tgt := 74) (pc := 16) dX9_bestOne_16 (by decide) (Int32.le_refl _) <|
      cw_iload_n (pc := 74) dX9_bestOne_74 rfl rfl <|
      cw_iret (pc := 75) dX9_bestOne_75 hR <|
      ⟨by rw [ha, winA_low hi], hS⟩
  · rintro i ⟨a, b, z⟩ m hin ⟨hS, ha, hb⟩ ih
    dsimp only at ha hb ⊢
    have e68 := hS.r68
    have hge := bestF_ge (naS (μ 68)) (scP (μ 68) code) (-1000000) i
    rw [← hb] at hge
    have hsu := bestF_s (naS (μ 68)) (scP (μ 68) code) (-1000000) i
    rw [← hb] at hsu
    by_cases hna : μ 68 (7 + i) = 0
    · have hnb : naS (μ 68) i = true := by simp [naS, hna]
      by_cases hc : b < scP (μ 68) code i
      · rw [if_pos ⟨hnb, hc⟩] at hsu
        refine cw_iload_n (pc := 8) dX9_bestOne_8 rfl rfl <|
          cw_aload_n (pc := 9) dX9_bestOne_9 rfl rfl <|
          cw_getR (q := 67) (t := 68) (pc := 10) dX9_bestOne_10 fX9_9 sh_67 (by decide) rfl <|
          cw_bipush (v := 31) (pc := 13) dX9_bestOne_13 (by decide) <|
          cw_ial (q := 68) (jn := 31) (pc := 15) dX9_bestOne_15 sh_68 rfl (by omega) (by decide) <|
          ?_
        rw [e68, hn]
        refine cw_icmp_ge_F (tgt := 74) (pc := 16) dX9_bestOne_16 (by decide) (nI_ge hin (by omega)) <|
          cw_aload_n (pc := 19) dX9_bestOne_19 rfl rfl <|
          cw_getR (q := 67) (t := 68) (pc := 20) dX9_bestOne_20 fX9_9 sh_67 (by decide) rfl <|
          cw_bipush (v := 7) (pc := 23) dX9_bestOne_23 (by decide) <|
          cw_iload_n (pc := 25) dX9_bestOne_25 rfl rfl <|
          cw_iadd (pc := 26) dX9_bestOne_26 <|
          cw_ial (q := 68) (jn := (7 + i)) (pc := 27) dX9_bestOne_27 sh_68 (nx_add rfl rfl) (by omega) (by decide) <|
          ?_
        rw [e68]
        refine cw_if_ne_F (tgt := 39) (pc := 28) dX9_bestOne_28 (by decide) hna <|
          cw_aload_n (pc := 31) dX9_bestOne_31 rfl rfl <|
          cw_iload_n (pc := 32) dX9_bestOne_32 rfl rfl <|
          cw_invP (q := 67) (pc := 33) dX9_bestOne_33 (c_X9_scoreOf e68 hP hi hin) rfl vX9_154 sh_67 (by decide) rfl rfl rfl (by decide) <|
          ?_
        rintro _ m2 ⟨rfl, s2⟩
        refine cw_goto (tgt := 41) (pc := 36) dX9_bestOne_36 (by decide) <|
          cw_istore (L' := [_, _, _, _, _]) (pc := 41) dX9_bestOne_41 (by decide) rfl rfl <|
          cw_iload (pc := 43) dX9_bestOne_43 rfl <|
          cw_iload_n (pc := 45) dX9_bestOne_45 rfl rfl <|
          cw_icmp_le_F (tgt := 53) (pc := 46) dX9_bestOne_46 (by decide) (Int32.not_le.mpr hc) <|
          cw_iload_n (pc := 49) dX9_bestOne_49 rfl rfl <|
          cw_goto (tgt := 54) (pc := 50) dX9_bestOne_50 (by decide) <|
          cw_istore_n (L' := [_, _, _, _, _]) (pc := 54) dX9_bestOne_54 rfl (by decide) rfl rfl <|
          cw_iload (pc := 55) dX9_bestOne_55 rfl <|
          cw_iload_n (pc := 57) dX9_bestOne_57 rfl rfl <|
          cw_icmp_le_F (tgt := 66) (pc := 58) dX9_bestOne_58 (by decide) (Int32.not_le.mpr hc) <|
          cw_iload (pc := 61) dX9_bestOne_61 rfl <|
          cw_goto (tgt := 67) (pc := 63) dX9_bestOne_63 (by decide) <|
          cw_istore_n (L' := [_, _, _, _, _]) (pc := 67) dX9_bestOne_67 rfl (by decide) rfl rfl <|
          cw_iincL (L' := [_, _, _, _, _]) (c := 1) (pc := 68) dX9_bestOne_68 rfl (by decide) (by decide) rfl rfl <|
          ?_
        rw [nI_1 i]
        refine cw_goto (tgt := 8) (pc := 71) dX9_bestOne_71 (by decide) <|
          ?_
        exact ih (_, _, _) _ ⟨hS.tr s2, (congrArg Prod.fst hsu).symm, (congrArg Prod.snd hsu).symm⟩
      · rw [if_neg (fun h => hc h.2)] at hsu
        refine cw_iload_n (pc := 8) dX9_bestOne_8 rfl rfl <|
          cw_aload_n (pc := 9) dX9_bestOne_9 rfl rfl <|
          cw_getR (q := 67) (t := 68) (pc := 10) dX9_bestOne_10 fX9_9 sh_67 (by decide) rfl <|
          cw_bipush (v := 31) (pc := 13) dX9_bestOne_13 (by decide) <|
          cw_ial (q := 68) (jn := 31) (pc := 15) dX9_bestOne_15 sh_68 rfl (by omega) (by decide) <|
          ?_
        rw [e68, hn]
        refine cw_icmp_ge_F (tgt := 74) (pc := 16) dX9_bestOne_16 (by decide) (nI_ge hin (by omega)) <|
          cw_aload_n (pc := 19) dX9_bestOne_19 rfl rfl <|
          cw_getR (q := 67) (t := 68) (pc := 20) dX9_bestOne_20 fX9_9 sh_67 (by decide) rfl <|
          cw_bipush (v := 7) (pc := 23) dX9_bestOne_23 (by decide) <|
          cw_iload_n (pc := 25) dX9_bestOne_25 rfl rfl <|
          cw_iadd (pc := 26) dX9_bestOne_26 <|
          cw_ial (q := 68) (jn := (7 + i)) (pc := 27) dX9_bestOne_27 sh_68 (nx_add rfl rfl) (by omega) (by decide) <|
          ?_
        rw [e68]
        refine cw_if_ne_F (tgt := 39) (pc := 28) dX9_bestOne_28 (by decide) hna <|
          cw_aload_n (pc := 31) dX9_bestOne_31 rfl rfl <|
          cw_iload_n (pc := 32) dX9_bestOne_32 rfl rfl <|
          cw_invP (q := 67) (pc := 33) dX9_bestOne_33 (c_X9_scoreOf e68 hP hi hin) rfl vX9_154 sh_67 (by decide) rfl rfl rfl (by decide) <|
          ?_
        rintro _ m2 ⟨rfl, s2⟩
        refine cw_goto (tgt := 41) (pc := 36) dX9_bestOne_36 (by decide) <|
          cw_istore (L' := [_, _, _, _, _]) (pc := 41) dX9_bestOne_41 (by decide) rfl rfl <|
          cw_iload (pc := 43) dX9_bestOne_43 rfl <|
          cw_iload_n (pc := 45) dX9_bestOne_45 rfl rfl <|
          cw_icmp_le_T (tgt := 53) (pc := 46) dX9_bestOne_46 (by decide) (Int32.not_lt.mp hc) <|
          cw_iload_n (pc := 53) dX9_bestOne_53 rfl rfl <|
          cw_istore_n (L' := [_, _, _, _, _]) (pc := 54) dX9_bestOne_54 rfl (by decide) rfl rfl <|
          cw_iload (pc := 55) dX9_bestOne_55 rfl <|
          cw_iload_n (pc := 57) dX9_bestOne_57 rfl rfl <|
          cw_icmp_le_T (tgt := 66) (pc := 58) dX9_bestOne_58 (by decide) (Int32.not_lt.mp hc) <|
          cw_iload_n (pc := 66) dX9_bestOne_66 rfl rfl <|
          cw_istore_n (L' := [_, _, _, _, _]) (pc := 67) dX9_bestOne_67 rfl (by decide) rfl rfl <|
          cw_iincL (L' := [_, _, _, _, _]) (c := 1) (pc := 68) dX9_bestOne_68 rfl (by decide) (by decide) rfl rfl <|
          ?_
        rw [nI_1 i]
        refine cw_goto (tgt := 8) (pc := 71) dX9_bestOne_71 (by decide) <|
          ?_
        exact ih (_, _, _) _ ⟨hS.tr s2, by rw [hsu]; exact ha, by rw [hsu]; exact hb⟩
    · have hnb : ¬ naS (μ 68) i = true := by simp [naS, hna]
      rw [if_neg (fun h => hnb h.1)] at hsu
      refine cw_iload_n (pc := 8) dX9_bestOne_8 rfl rfl <|
        cw_aload_n (pc := 9) dX9_bestOne_9 rfl rfl <|
        cw_getR (q := 67) (t := 68) (pc := 10) dX9_bestOne_10 fX9_9 sh_67 (by decide) rfl <|
        cw_bipush (v := 31) (pc := 13) dX9_bestOne_13 (by decide) <|
        cw_ial (q := 68) (jn := 31) (pc := 15) dX9_bestOne_15 sh_68 rfl (by omega) (by decide) <|
        ?_
      rw [e68, hn]
      refine cw_icmp_ge_F (tgt := 74) (pc := 16) dX9_bestOne_16 (by decide) (nI_ge hin (by omega)) <|
        cw_aload_n (pc := 19) dX9_bestOne_19 rfl rfl <|
        cw_getR (q := 67) (t := 68) (pc := 20) dX9_bestOne_20 fX9_9 sh_67 (by decide) rfl <|
        cw_bipush (v := 7) (pc := 23) dX9_bestOne_23 (by decide) <|
        cw_iload_n (pc := 25) dX9_bestOne_25 rfl rfl <|
        cw_iadd (pc := 26) dX9_bestOne_26 <|
        cw_ial (q := 68) (jn := (7 + i)) (pc := 27) dX9_bestOne_27 sh_68 (nx_add rfl rfl) (by omega) (by decide) <|
        ?_
      rw [e68]
      refine cw_if_ne_T (tgt := 39) (pc := 28) dX9_bestOne_28 (by decide) hna <|
        cw_ldc (pc := 39) dX9_bestOne_39 kX9_153 <|
        cw_istore (L' := [_, _, _, _, _]) (pc := 41) dX9_bestOne_41 (by decide) rfl rfl <|
        cw_iload (pc := 43) dX9_bestOne_43 rfl <|
        cw_iload_n (pc := 45) dX9_bestOne_45 rfl rfl <|
        cw_icmp_le_T (tgt := 53) (pc := 46) dX9_bestOne_46 (by decide) hge <|
        cw_iload_n (pc := 53) dX9_bestOne_53 rfl rfl <|
        cw_istore_n (L' := [_, _, _, _, _]) (pc := 54) dX9_bestOne_54 rfl (by decide) rfl rfl <|
        cw_iload (pc := 55) dX9_bestOne_55 rfl <|
        cw_iload_n (pc := 57) dX9_bestOne_57 rfl rfl <|
        cw_icmp_le_T (tgt := 66) (pc := 58) dX9_bestOne_58 (by decide) hge <|
        cw_iload_n (pc := 66) dX9_bestOne_66 rfl rfl <|
        cw_istore_n (L' := [_, _, _, _, _]) (pc := 67) dX9_bestOne_67 rfl (by decide) rfl rfl <|
        cw_iincL (L' := [_, _, _, _, _]) (c := 1) (pc := 68) dX9_bestOne_68 rfl (by decide) (by decide) rfl rfl <|
        ?_
      rw [nI_1 i]
      refine cw_goto (tgt := 8) (pc := 71) dX9_bestOne_71 (by decide) <|
        ?_
      exact ih (_, _, _) _ ⟨hS, by rw [hsu]; exact ha, by rw [hsu]; exact hb⟩
set_option maxHeartbeats 4000000 in
set_option maxRecDepth 100000 in
theorem c_X9_becomes {E : Ev} {μ : Mem} {s : Row} (hs : μ 68 = s) {j : Nat} (hj : j < 948) {v : Int32} : AM E yX9_becomes cX9_becomes 4 (some .int) 0 [.ref 67, .int (nI j), .int v] μ (fun r μ' => r = some (.int (s j)) ∧ μ' = st μ 68 j v) := by
  refine am_of (own := RX9) (L := [.ref 67, .int (nI j), .int v, .null]) (by decide) rfl (Nat.le_of_ble_eq_true rfl) rfl (fun Γ hR => ?_)
  subst hs
  refine cw_aload_n (pc := 0) dX9_becomes_0 rfl rfl <|
    cw_getR (q := 67) (t := 68) (pc := 1) dX9_becomes_1 fX9_9 sh_67 (by decide) rfl <|
    cw_iload_n (pc := 4) dX9_becomes_4 rfl rfl <|
    cw_ial (q := 68) (jn := j) (pc := 5) dX9_becomes_5 sh_68 rfl hj (by decide) <|
    cw_istore_n (L' := [_, _, _, _]) (pc := 6) dX9_becomes_6 rfl (by decide) rfl rfl <|
    cw_aload_n (pc := 7) dX9_becomes_7 rfl rfl <|
    cw_getR (q := 67) (t := 68) (pc := 8) dX9_becomes_8 fX9_9 sh_67 (by decide) rfl <|
    cw_iload_n (pc := 11) dX9_becomes_11 rfl rfl <|
    cw_iload_n (pc := 12) dX9_becomes_12 rfl rfl <|
    cw_ias (q := 68) (jn := j) (pc := 13) dX9_becomes_13 sh_68 rfl hj (by decide) <|
    cw_iload_n (pc := 14) dX9_becomes_14 rfl rfl <|
    cw_iret (pc := 15) dX9_becomes_15 hR <|
    ⟨rfl, rfl⟩
theorem shl_b {b : Bool} {x y : Int32} : x ||| ((if b then (1 : Int32) else 0) <<< y) = if b then x ||| ((1 : Int32) <<< y) else x := by
  cases b
  · simp
  · rfl
set_option maxHeartbeats 4000000 in
set_option maxRecDepth 100000 in
theorem c_X9_bitsOf {E : Ev} {μ : Mem} {s : Row} (hs : μ 68 = s) {n : Nat} (hn : s 31 = nI n) (h6 : n ≤ 6) {j : Nat} (hj : j ≤ 20) {f : Nat → Bool} (hf : ∀ p, p < n → s (j + p) = if f p then 1 else 0) : AM E yX9_bitsOf cX9_bitsOf 4 (some .int) 0 [.ref 67, .int (nI j)] μ (fun r μ' => r = some (.int (bitsI f n)) ∧ μ' = μ) := by
  refine am_of (own := RX9) (L := [.ref 67, .int (nI j), .null, .null]) (by decide) rfl (Nat.le_of_ble_eq_true rfl) rfl (fun Γ hR => ?_)
  subst hs
  refine cw_iconst (v := 0) (pc := 0) dX9_bitsOf_0 (by decide) <|
    cw_istore_n (L' := [_, _, _, _]) (pc := 1) dX9_bitsOf_1 rfl (by decide) rfl rfl <|
    cw_iconst (v := 0) (pc := 2) dX9_bitsOf_2 (by decide) <|
    cw_istore_n (L' := [_, _, _, _]) (pc := 3) dX9_bitsOf_3 rfl (by decide) rfl rfl <|
    ?_
  refine cw_for (σ := Int32) n (fun i a m => m = μ ∧ a = bitsI f i) (fun i a => [.ref 67, .int (nI j), .int a, .int (nI i)]) ?_ ?_ 0 0 _ (Nat.zero_le _) ⟨rfl, rfl⟩
  · rintro a m ⟨rfl, rfl⟩
    refine cw_iload_n (pc := 4) dX9_bitsOf_4 rfl rfl <|
      cw_aload_n (pc := 5) dX9_bitsOf_5 rfl rfl <|
      cw_getR (q := 67) (t := 68) (pc := 6) dX9_bitsOf_6 fX9_9 sh_67 (by decide) rfl <|
      cw_bipush (v := 31) (pc := 9) dX9_bitsOf_9 (by decide) <|
      cw_ial (q := 68) (jn := 31) (pc := 11) dX9_bitsOf_11 sh_68 rfl (by omega) (by decide) <|
      ?_
    rw [hn]
    refine cw_icmp_ge_T (tgt := 34) (pc := 12) dX9_bitsOf_12 (by decide) (Int32.le_refl _) <|
      cw_iload_n (pc := 34) dX9_bitsOf_34 rfl rfl <|
      cw_iret (pc := 35) dX9_bitsOf_35 hR <|
      ⟨rfl, rfl⟩
  · rintro i a m hin ⟨rfl, rfl⟩ ih
    have e := hf i hin
    refine cw_iload_n (pc := 4) dX9_bitsOf_4 rfl rfl <|
      cw_aload_n (pc := 5) dX9_bitsOf_5 rfl rfl <|
      cw_getR (q := 67) (t := 68) (pc := 6) dX9_bitsOf_6 fX9_9 sh_67 (by decide) rfl <|
      cw_bipush (v := 31) (pc := 9) dX9_bitsOf_9 (by decide) <|
      cw_ial (q := 68) (jn := 31) (pc := 11) dX9_bitsOf_11 sh_68 rfl (by omega) (by decide) <|
      ?_
    rw [hn]
    refine cw_icmp_ge_F (tgt := 34) (pc := 12) dX9_bitsOf_12 (by decide) (nI_ge hin (by omega)) <|
      cw_iload_n (pc := 15) dX9_bitsOf_15 rfl rfl <|
      cw_aload_n (pc := 16) dX9_bitsOf_16 rfl rfl <|
      cw_getR (q := 67) (t := 68) (pc := 17) dX9_bitsOf_17 fX9_9 sh_67 (by decide) rfl <|
      cw_iload_n (pc := 20) dX9_bitsOf_20 rfl rfl <|
      cw_iload_n (pc := 21) dX9_bitsOf_21 rfl rfl <|
      cw_iadd (pc := 22) dX9_bitsOf_22 <|
      cw_ial (q := 68) (jn := (j + i)) (pc := 23) dX9_bitsOf_23 sh_68 (nx_add rfl rfl) (by omega) (by decide) <|
      ?_
    rw [e]
    refine cw_iload_n (pc := 24) dX9_bitsOf_24 rfl rfl <|
      cw_ishl (pc := 25) dX9_bitsOf_25 <|
      cw_ior (pc := 26) dX9_bitsOf_26 <|
      cw_istore_n (L' := [_, _, _, _]) (pc := 27) dX9_bitsOf_27 rfl (by decide) rfl rfl <|
      cw_iincL (L' := [_, _, _, _]) (c := 1) (pc := 28) dX9_bitsOf_28 rfl (by decide) (by decide) rfl rfl <|
      ?_
    rw [nI_1 i]
    refine cw_goto (tgt := 4) (pc := 31) dX9_bitsOf_31 (by decide) <|
      ?_
    exact ih _ _ ⟨rfl, by rw [shl_b]; rfl⟩
theorem fr_s70 (μ : Mem) (i : Nat) : st (str μ 70 (fun k => if k < i then μ 68 k else μ 70 k)) 70 i (μ 68 i) = str μ 70 (fun k => if k < i + 1 then μ 68 k else μ 70 k) := by
  funext q j
  by_cases hq : q = 70
  · subst hq
    rw [st_at, str_at, str_at, if_pos rfl, if_pos rfl]
    by_cases hj : j = i
    · subst hj; simp
    · simp only [hj, and_false, if_false]
      by_cases h1 : j < i
      · rw [if_pos h1, if_pos (by omega)]
      · rw [if_neg h1, if_neg (by omega)]
  · rw [st_at, if_neg (fun h => hq h.1), str_at, str_at, if_neg hq, if_neg hq]
set_option maxHeartbeats 4000000 in
set_option maxRecDepth 100000 in
theorem c_X9_keeps {E : Ev} {μ : Mem} : AM E yX9_keeps cX9_keeps 2 none 0 [.ref 67] μ (fun r μ' => r = none ∧ μ' = str μ 70 (fun k => if k < 31 then μ 68 k else μ 70 k)) := by
  refine am_of (own := RX9) (L := [.ref 67, .null]) (by decide) rfl (Nat.le_of_ble_eq_true rfl) rfl (fun Γ hR => ?_)
  refine cw_iconst (v := 0) (pc := 0) dX9_keeps_0 (by decide) <|
    cw_istore_n (L' := [_, _]) (pc := 1) dX9_keeps_1 rfl (by decide) rfl rfl <|
    ?_
  refine cw_for (σ := Unit) 31 (fun i a m => m = str μ 70 (fun k => if k < i then μ 68 k else μ 70 k)) (fun i a => [.ref 67, .int (nI i)]) ?_ ?_ 0 () _ (Nat.zero_le _) ?_
  · rintro ⟨⟩ m rfl
    refine cw_iload_n (pc := 2) dX9_keeps_2 rfl rfl <|
      cw_bipush (v := 31) (pc := 3) dX9_keeps_3 (by decide) <|
      cw_icmp_ge_T (tgt := 26) (pc := 5) dX9_keeps_5 (by decide) (by decide) <|
      cw_vret (pc := 26) dX9_keeps_26 hR <|
      ⟨rfl, rfl⟩
  · rintro i ⟨⟩ m hi rfl ih
    have e : str μ 70 (fun k => if k < i then μ 68 k else μ 70 k) 68 i = μ 68 i := by rw [str_at, if_neg (by decide)]
    refine cw_iload_n (pc := 2) dX9_keeps_2 rfl rfl <|
      cw_bipush (v := 31) (pc := 3) dX9_keeps_3 (by decide) <|
      cw_icmp_ge_F (tgt := 26) (pc := 5) dX9_keeps_5 (by decide) (nI_ge (b := 31) hi (by decide)) <|
      cw_aload_n (pc := 8) dX9_keeps_8 rfl rfl <|
      cw_getR (q := 67) (t := 70) (pc := 9) dX9_keeps_9 fX9_18 sh_67 (by decide) rfl <|
      cw_iload_n (pc := 12) dX9_keeps_12 rfl rfl <|
      cw_aload_n (pc := 13) dX9_keeps_13 rfl rfl <|
      cw_getR (q := 67) (t := 68) (pc := 14) dX9_keeps_14 fX9_9 sh_67 (by decide) rfl <|
      cw_iload_n (pc := 17) dX9_keeps_17 rfl rfl <|
      cw_ial (q := 68) (jn := i) (pc := 18) dX9_keeps_18 sh_68 rfl (by omega) (by decide) <|
      ?_
    rw [e]
    refine cw_ias (q := 70) (jn := i) (pc := 19) dX9_keeps_19 sh_70 rfl (by omega) (by decide) <|
      cw_iincL (L' := [_, _]) (c := 1) (pc := 20) dX9_keeps_20 rfl (by decide) (by decide) rfl rfl <|
      ?_
    rw [nI_1 i]
    refine cw_goto (tgt := 2) (pc := 23) dX9_keeps_23 (by decide) <|
      ?_
    exact ih () _ (fr_s70 μ i)
  · funext q
    rw [str_at]
    split
    · rename_i h; subst h; funext k; simp
    · rfl
theorem fr_s68 (μ : Mem) (i : Nat) : st (str μ 68 (fun k => if k < i then μ 70 k else μ 68 k)) 68 i (μ 70 i) = str μ 68 (fun k => if k < i + 1 then μ 70 k else μ 68 k) := by
  funext q j
  by_cases hq : q = 68
  · subst hq
    rw [st_at, str_at, str_at, if_pos rfl, if_pos rfl]
    by_cases hj : j = i
    · subst hj; simp
    · simp only [hj, and_false, if_false]
      by_cases h1 : j < i
      · rw [if_pos h1, if_pos (by omega)]
      · rw [if_neg h1, if_neg (by omega)]
  · rw [st_at, if_neg (fun h => hq h.1), str_at, str_at, if_neg hq, if_neg hq]
set_option maxHeartbeats 4000000 in
set_option maxRecDepth 100000 in
theorem c_X9_goesBack {E : Ev} {μ : Mem} : AM E yX9_goesBack cX9_goesBack 2 none 0 [.ref 67] μ (fun r μ' => r = none ∧ μ' = str μ 68 (fun k => if k < 31 then μ 70 k else μ 68 k)) := by
  refine am_of (own := RX9) (L := [.ref 67, .null]) (by decide) rfl (Nat.le_of_ble_eq_true rfl) rfl (fun Γ hR => ?_)
  refine cw_iconst (v := 0) (pc := 0) dX9_goesBack_0 (by decide) <|
    cw_istore_n (L' := [_, _]) (pc := 1) dX9_goesBack_1 rfl (by decide) rfl rfl <|
    ?_
  refine cw_for (σ := Unit) 31 (fun i a m => m = str μ 68 (fun k => if k < i then μ 70 k else μ 68 k)) (fun i a => [.ref 67, .int (nI i)]) ?_ ?_ 0 () _ (Nat.zero_le _) ?_
  · rintro ⟨⟩ m rfl
    refine cw_iload_n (pc := 2) dX9_goesBack_2 rfl rfl <|
      cw_bipush (v := 31) (pc := 3) dX9_goesBack_3 (by decide) <|
      cw_icmp_ge_T (tgt := 26) (pc := 5) dX9_goesBack_5 (by decide) (by decide) <|
      cw_vret (pc := 26) dX9_goesBack_26 hR <|
      ⟨rfl, rfl⟩
  · rintro i ⟨⟩ m hi rfl ih
    have e : str μ 68 (fun k => if k < i then μ 70 k else μ 68 k) 70 i = μ 70 i := by rw [str_at, if_neg (by decide)]
    refine cw_iload_n (pc := 2) dX9_goesBack_2 rfl rfl <|
      cw_bipush (v := 31) (pc := 3) dX9_goesBack_3 (by decide) <|
      cw_icmp_ge_F (tgt := 26) (pc := 5) dX9_goesBack_5 (by decide) (nI_ge (b := 31) hi (by decide)) <|
      cw_aload_n (pc := 8) dX9_goesBack_8 rfl rfl <|
      cw_getR (q := 67) (t := 68) (pc := 9) dX9_goesBack_9 fX9_9 sh_67 (by decide) rfl <|
      cw_iload_n (pc := 12) dX9_goesBack_12 rfl rfl <|
      cw_aload_n (pc := 13) dX9_goesBack_13 rfl rfl <|
      cw_getR (q := 67) (t := 70) (pc := 14) dX9_goesBack_14 fX9_18 sh_67 (by decide) rfl <|
      cw_iload_n (pc := 17) dX9_goesBack_17 rfl rfl <|
      cw_ial (q := 70) (jn := i) (pc := 18) dX9_goesBack_18 sh_70 rfl (by omega) (by decide) <|
      ?_
    rw [e]
    refine cw_ias (q := 68) (jn := i) (pc := 19) dX9_goesBack_19 sh_68 rfl (by omega) (by decide) <|
      cw_iincL (L' := [_, _]) (c := 1) (pc := 20) dX9_goesBack_20 rfl (by decide) (by decide) rfl rfl <|
      ?_
    rw [nI_1 i]
    refine cw_goto (tgt := 2) (pc := 23) dX9_goesBack_23 (by decide) <|
      ?_
    exact ih () _ (fr_s68 μ i)
  · funext q
    rw [str_at]
    split
    · rename_i h; subst h; funext k; simp
    · rfl
