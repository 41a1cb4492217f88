/-! ===== the model: man, of, strays, line, decided, told, see, pass ===== -/
theorem nx_sub {x y : Int32} {a b c : Nat} (hx : x = nI a) (hy : y = nI b) (h : a = c + b) : x - y = nI c := by subst hx; subst hy; rw [pk_sub (by omega)]; congr 1; omega
theorem sub_rng {w : Int32} {A B : Nat} (hA : A < 100) (hB : B < 100) : (0 ≤ w - nI A ∧ w - nI A < nI B) ↔ (nI A ≤ w ∧ w < nI (A + B)) := by
  have h1 := Int32.toInt_sub w (nI A)
  rw [nI_toInt (by omega)] at h1
  have h2 := Int32.toInt_lt w
  have h3 := Int32.le_toInt w
  rw [Int32.le_iff_toInt_le, Int32.lt_iff_toInt_lt, Int32.le_iff_toInt_le, Int32.lt_iff_toInt_lt, nI_toInt (by omega), nI_toInt (by omega), nI_toInt (by omega), h1]
  rw [show (0 : Int32).toInt = 0 from rfl]
  rw [Int.bmod_def]
  split <;> omega
set_option maxHeartbeats 4000000 in
set_option maxRecDepth 100000 in
theorem c_X9_man {E : Ev} {μ : Mem} {s : Row} (hs : μ 68 = s) {n mk : Nat} {code : PCo} (hI : Inv s n code mk) {k v l : Int32} : AM E yX9_man cX9_man 6 (some .int) 2 [.ref 67, .int k, .int v, .int l] μ (fun r μ' => r = some (.int (manA s k v l)) ∧ μ' 68 = manR s k v l ∧ Same MM μ μ') := by
  refine am_of (own := RX9) (L := [.ref 67, .int k, .int v, .int l, .null, .null]) (by decide) rfl (Nat.le_of_ble_eq_true rfl) rfl (fun Γ hR => ?_)
  subst hs
  have hI0 := hI
  obtain ⟨hIL, hIP, hIC, hIS, hIW, hIB, hIT⟩ := hI
  have hn := hIL.1
  have h6 := hIL.2.1
  have hfl := full_iff (m := 6) hn h6 (by decide)
  have hnk : nN (μ 68 31) = n := by rw [hn]; exact nN_nI (by omega)
  by_cases hk : 0 ≤ k ∧ k < 7
  · have hk' : 0 ≤ k ∧ k ≤ 6 := ⟨hk.1, i_le6.mpr hk.2⟩
    by_cases hl : 0 ≤ l ∧ l < 9
    · by_cases hv : 0 ≤ v ∧ v ≤ 9
      · by_cases hf : μ 68 31 = 6
        · refine cw_iload_n (pc := 0) dX9_man_0 rfl rfl <|
            cw_iconst (v := 0) (pc := 1) dX9_man_1 (by decide) <|
            cw_bipush (v := 6) (pc := 2) dX9_man_2 (by decide) <|
            cw_insI (pc := 4) dX9_man_4 c_X9_in vX9_44 rfl rfl rfl (by decide) <|
            cw_if_eq_F (tgt := 17) (pc := 7) dX9_man_7 (by decide) (bI_n0.mpr hk') <|
            cw_iload_n (pc := 10) dX9_man_10 rfl rfl <|
            cw_insI (pc := 11) dX9_man_11 c_X9_isLane vX9_158 rfl rfl rfl (by decide) <|
            cw_if_ne_T (tgt := 19) (pc := 14) dX9_man_14 (by decide) (bI_n0.mpr hl) <|
            cw_iload_n (pc := 19) dX9_man_19 rfl rfl <|
            cw_iconst (v := 0) (pc := 20) dX9_man_20 (by decide) <|
            cw_bipush (v := 9) (pc := 21) dX9_man_21 (by decide) <|
            cw_insI (pc := 23) dX9_man_23 c_X9_in vX9_44 rfl rfl rfl (by decide) <|
            cw_if_ne_T (tgt := 32) (pc := 26) dX9_man_26 (by decide) (bI_n0.mpr hv) <|
            cw_aload_n (pc := 32) dX9_man_32 rfl rfl <|
            cw_getR (q := 67) (t := 68) (pc := 33) dX9_man_33 fX9_9 sh_67 (by decide) rfl <|
            cw_bipush (v := 31) (pc := 36) dX9_man_36 (by decide) <|
            cw_ial (q := 68) (jn := 31) (pc := 38) dX9_man_38 sh_68 rfl (by decide) (by decide) <|
            cw_bipush (v := 6) (pc := 39) dX9_man_39 (by decide) <|
            cw_icmp_ne_F (tgt := 47) (pc := 41) dX9_man_41 (by decide) hf <|
            cw_bipush (v := -4) (pc := 44) dX9_man_44 (by decide) <|
            cw_iret (pc := 46) dX9_man_46 hR <|
            ⟨by rw [manA, if_pos ⟨hk, hl⟩, if_pos hv, if_pos hf], by rw [manR, if_neg (fun h => h.2.2 hf)], Same.rf⟩
        · have hk2 := hfl.mp hf
          obtain ⟨z1, z2, z3, z4⟩ := hIL.2.2.2.2.1 n (Nat.le_refl _) hk2
          have r0 : ∀ j, j ≤ 31 ∨ 57 ≤ j → (st (st (st μ 68 (39 + n) k) 68 (45 + n) v) 68 (51 + n) l) 68 j = μ 68 j := fun j hj => (st_at.trans (if_neg (by omega))).trans ((st_at.trans (if_neg (by omega))).trans (st_at.trans (if_neg (by omega))))
          refine cw_iload_n (pc := 0) dX9_man_0 rfl rfl <|
            cw_iconst (v := 0) (pc := 1) dX9_man_1 (by decide) <|
            cw_bipush (v := 6) (pc := 2) dX9_man_2 (by decide) <|
            cw_insI (pc := 4) dX9_man_4 c_X9_in vX9_44 rfl rfl rfl (by decide) <|
            cw_if_eq_F (tgt := 17) (pc := 7) dX9_man_7 (by decide) (bI_n0.mpr hk') <|
            cw_iload_n (pc := 10) dX9_man_10 rfl rfl <|
            cw_insI (pc := 11) dX9_man_11 c_X9_isLane vX9_158 rfl rfl rfl (by decide) <|
            cw_if_ne_T (tgt := 19) (pc := 14) dX9_man_14 (by decide) (bI_n0.mpr hl) <|
            cw_iload_n (pc := 19) dX9_man_19 rfl rfl <|
            cw_iconst (v := 0) (pc := 20) dX9_man_20 (by decide) <|
            cw_bipush (v := 9) (pc := 21) dX9_man_21 (by decide) <|
            cw_insI (pc := 23) dX9_man_23 c_X9_in vX9_44 rfl rfl rfl (by decide) <|
            cw_if_ne_T (tgt := 32) (pc := 26) dX9_man_26 (by decide) (bI_n0.mpr hv) <|
            cw_aload_n (pc := 32) dX9_man_32 rfl rfl <|
            cw_getR (q := 67) (t := 68) (pc := 33) dX9_man_33 fX9_9 sh_67 (by decide) rfl <|
            cw_bipush (v := 31) (pc := 36) dX9_man_36 (by decide) <|
            cw_ial (q := 68) (jn := 31) (pc := 38) dX9_man_38 sh_68 rfl (by decide) (by decide) <|
            cw_bipush (v := 6) (pc := 39) dX9_man_39 (by decide) <|
            cw_icmp_ne_T (tgt := 47) (pc := 41) dX9_man_41 (by decide) hf <|
            cw_aload_n (pc := 47) dX9_man_47 rfl rfl <|
            cw_getR (q := 67) (t := 68) (pc := 48) dX9_man_48 fX9_9 sh_67 (by decide) rfl <|
            cw_bipush (v := 31) (pc := 51) dX9_man_51 (by decide) <|
            cw_ial (q := 68) (jn := 31) (pc := 53) dX9_man_53 sh_68 rfl (by omega) (by decide) <|
            ?_
          rw [hn]
          refine cw_istore (L' := [_, _, _, _, _, _]) (pc := 54) dX9_man_54 (by decide) rfl rfl <|
            cw_aload_n (pc := 56) dX9_man_56 rfl rfl <|
            cw_getR (q := 67) (t := 68) (pc := 57) dX9_man_57 fX9_9 sh_67 (by decide) rfl <|
            cw_bipush (v := 39) (pc := 60) dX9_man_60 (by decide) <|
            cw_iload (pc := 62) dX9_man_62 rfl <|
            cw_iadd (pc := 64) dX9_man_64 <|
            cw_iload_n (pc := 65) dX9_man_65 rfl rfl <|
            cw_ias (q := 68) (jn := (39 + n)) (pc := 66) dX9_man_66 sh_68 (nx_add rfl rfl) (by omega) (by decide) <|
            cw_aload_n (pc := 67) dX9_man_67 rfl rfl <|
            cw_getR (q := 67) (t := 68) (pc := 68) dX9_man_68 fX9_9 sh_67 (by decide) rfl <|
            cw_bipush (v := 45) (pc := 71) dX9_man_71 (by decide) <|
            cw_iload (pc := 73) dX9_man_73 rfl <|
            cw_iadd (pc := 75) dX9_man_75 <|
            cw_iload_n (pc := 76) dX9_man_76 rfl rfl <|
            cw_ias (q := 68) (jn := (45 + n)) (pc := 77) dX9_man_77 sh_68 (nx_add rfl rfl) (by omega) (by decide) <|
            cw_aload_n (pc := 78) dX9_man_78 rfl rfl <|
            cw_getR (q := 67) (t := 68) (pc := 79) dX9_man_79 fX9_9 sh_67 (by decide) rfl <|
            cw_bipush (v := 51) (pc := 82) dX9_man_82 (by decide) <|
            cw_iload (pc := 84) dX9_man_84 rfl <|
            cw_iadd (pc := 86) dX9_man_86 <|
            cw_iload_n (pc := 87) dX9_man_87 rfl rfl <|
            cw_ias (q := 68) (jn := (51 + n)) (pc := 88) dX9_man_88 sh_68 (nx_add rfl rfl) (by omega) (by decide) <|
            cw_aload_n (pc := 89) dX9_man_89 rfl rfl <|
            cw_getR (q := 67) (t := 68) (pc := 90) dX9_man_90 fX9_9 sh_67 (by decide) rfl <|
            cw_bipush (v := 7) (pc := 93) dX9_man_93 (by decide) <|
            cw_iload (pc := 95) dX9_man_95 rfl <|
            cw_iadd (pc := 97) dX9_man_97 <|
            cw_iconst (v := 0) (pc := 98) dX9_man_98 (by decide) <|
            cw_ias (q := 68) (jn := (7 + n)) (pc := 99) dX9_man_99 sh_68 (nx_add rfl rfl) (by omega) (by decide) <|
            ?_
          rw [st_id ((r0 _ (by omega)).trans z2)]
          refine cw_aload_n (pc := 100) dX9_man_100 rfl rfl <|
            cw_getR (q := 67) (t := 68) (pc := 101) dX9_man_101 fX9_9 sh_67 (by decide) rfl <|
            cw_bipush (v := 13) (pc := 104) dX9_man_104 (by decide) <|
            cw_iload (pc := 106) dX9_man_106 rfl <|
            cw_iadd (pc := 108) dX9_man_108 <|
            cw_iconst (v := 0) (pc := 109) dX9_man_109 (by decide) <|
            cw_ias (q := 68) (jn := (13 + n)) (pc := 110) dX9_man_110 sh_68 (nx_add rfl rfl) (by omega) (by decide) <|
            ?_
          rw [st_id ((r0 _ (by omega)).trans z3)]
          refine cw_aload_n (pc := 111) dX9_man_111 rfl rfl <|
            cw_getR (q := 67) (t := 68) (pc := 112) dX9_man_112 fX9_9 sh_67 (by decide) rfl <|
            cw_iconst (v := 1) (pc := 115) dX9_man_115 (by decide) <|
            cw_iload (pc := 116) dX9_man_116 rfl <|
            cw_iadd (pc := 118) dX9_man_118 <|
            cw_iconst (v := 0) (pc := 119) dX9_man_119 (by decide) <|
            cw_ias (q := 68) (jn := (1 + n)) (pc := 120) dX9_man_120 sh_68 (nx_add rfl rfl) (by omega) (by decide) <|
            ?_
          rw [st_id ((r0 _ (by omega)).trans z1)]
          refine cw_iconst (v := 0) (pc := 121) dX9_man_121 (by decide) <|
            cw_istore (L' := [_, _, _, _, _, _]) (pc := 122) dX9_man_122 (by decide) rfl rfl <|
            ?_
          refine cw_for (σ := Unit) 4 (fun i _ m => m = st (st (st μ 68 (39 + n) k) 68 (45 + n) v) 68 (51 + n) l) (fun i _ => [.ref 67, .int k, .int v, .int l, .int (nI n), .int (nI i)]) ?_ ?_ 0 () _ (Nat.zero_le _) rfl
          · rintro ⟨⟩ m rfl
            refine cw_iload (pc := 124) dX9_man_124 rfl <|
              cw_iconst (v := 4) (pc := 126) dX9_man_126 (by decide) <|
              cw_icmp_ge_T (tgt := 152) (pc := 127) dX9_man_127 (by decide) (by decide) <|
              cw_aload_n (pc := 152) dX9_man_152 rfl rfl <|
              cw_getR (q := 67) (t := 68) (pc := 153) dX9_man_153 fX9_9 sh_67 (by decide) rfl <|
              cw_bipush (v := 31) (pc := 156) dX9_man_156 (by decide) <|
              cw_dup2 (pc := 158) dX9_man_158 rfl rfl <|
              cw_ial (q := 68) (jn := 31) (pc := 159) dX9_man_159 sh_68 rfl (by decide) (by decide) <|
              ?_
            rw [(r0 _ (by omega)).trans hn]
            refine cw_iconst (v := 1) (pc := 160) dX9_man_160 (by decide) <|
              cw_iadd (pc := 161) dX9_man_161 <|
              cw_ias (q := 68) (jn := 31) (pc := 162) dX9_man_162 sh_68 rfl (by decide) (by decide) <|
              cw_iload (pc := 163) dX9_man_163 rfl <|
              cw_iret (pc := 165) dX9_man_165 hR <|
              ⟨by rw [manA, if_pos ⟨hk, hl⟩, if_pos hv, if_neg hf, hn], by rw [manR, if_pos ⟨⟨hk, hl⟩, hv, hf⟩, hnk, st_row, st_row, st_row, st_row, hn], by first | exact Same.rf | (repeat (refine Same.s1 ?_ (by unfold MM; omega))); exact Same.rf⟩
          · rintro i ⟨⟩ m hi rfl ih
            refine cw_iload (pc := 124) dX9_man_124 rfl <|
              cw_iconst (v := 4) (pc := 126) dX9_man_126 (by decide) <|
              cw_icmp_ge_F (tgt := 152) (pc := 127) dX9_man_127 (by decide) (nI_ge (b := 4) hi (by decide)) <|
              cw_aload_n (pc := 130) dX9_man_130 rfl rfl <|
              cw_getR (q := 67) (t := 68) (pc := 131) dX9_man_131 fX9_9 sh_67 (by decide) rfl <|
              cw_bipush (v := 57) (pc := 134) dX9_man_134 (by decide) <|
              cw_iconst (v := 4) (pc := 136) dX9_man_136 (by decide) <|
              cw_iload (pc := 137) dX9_man_137 rfl <|
              cw_imul (pc := 139) dX9_man_139 <|
              cw_iadd (pc := 140) dX9_man_140 <|
              cw_iload (pc := 141) dX9_man_141 rfl <|
              cw_iadd (pc := 143) dX9_man_143 <|
              cw_iconst (v := 0) (pc := 144) dX9_man_144 (by decide) <|
              cw_ias (q := 68) (jn := ((57 + (4 * n)) + i)) (pc := 145) dX9_man_145 sh_68 (nx_add (nx_add rfl (nx_mul rfl rfl)) rfl) (by omega) (by decide) <|
              ?_
            rw [show 57 + 4 * n + i = 57 + (n * 4 + i) by omega, st_id ((r0 _ (by omega)).trans (z4 i hi))]
            refine cw_iincL (L' := [_, _, _, _, _, _]) (c := 1) (pc := 146) dX9_man_146 rfl (by decide) (by decide) rfl rfl <|
              ?_
            rw [nI_1 i]
            refine cw_goto (tgt := 124) (pc := 149) dX9_man_149 (by decide) <|
              ?_
            exact ih () _ rfl
      · refine cw_iload_n (pc := 0) dX9_man_0 rfl rfl <|
          cw_iconst (v := 0) (pc := 1) dX9_man_1 (by decide) <|
          cw_bipush (v := 6) (pc := 2) dX9_man_2 (by decide) <|
          cw_insI (pc := 4) dX9_man_4 c_X9_in vX9_44 rfl rfl rfl (by decide) <|
          cw_if_eq_F (tgt := 17) (pc := 7) dX9_man_7 (by decide) (bI_n0.mpr hk') <|
          cw_iload_n (pc := 10) dX9_man_10 rfl rfl <|
          cw_insI (pc := 11) dX9_man_11 c_X9_isLane vX9_158 rfl rfl rfl (by decide) <|
          cw_if_ne_T (tgt := 19) (pc := 14) dX9_man_14 (by decide) (bI_n0.mpr hl) <|
          cw_iload_n (pc := 19) dX9_man_19 rfl rfl <|
          cw_iconst (v := 0) (pc := 20) dX9_man_20 (by decide) <|
          cw_bipush (v := 9) (pc := 21) dX9_man_21 (by decide) <|
          cw_insI (pc := 23) dX9_man_23 c_X9_in vX9_44 rfl rfl rfl (by decide) <|
          cw_if_ne_F (tgt := 32) (pc := 26) dX9_man_26 (by decide) (bI_0.mpr hv) <|
          cw_bipush (v := -2) (pc := 29) dX9_man_29 (by decide) <|
          cw_iret (pc := 31) dX9_man_31 hR <|
          ⟨by rw [manA, if_pos ⟨hk, hl⟩, if_neg hv], by rw [manR, if_neg (fun h => hv h.2.1)], Same.rf⟩
    · refine cw_iload_n (pc := 0) dX9_man_0 rfl rfl <|
        cw_iconst (v := 0) (pc := 1) dX9_man_1 (by decide) <|
        cw_bipush (v := 6) (pc := 2) dX9_man_2 (by decide) <|
        cw_insI (pc := 4) dX9_man_4 c_X9_in vX9_44 rfl rfl rfl (by decide) <|
        cw_if_eq_F (tgt := 17) (pc := 7) dX9_man_7 (by decide) (bI_n0.mpr hk') <|
        cw_iload_n (pc := 10) dX9_man_10 rfl rfl <|
        cw_insI (pc := 11) dX9_man_11 c_X9_isLane vX9_158 rfl rfl rfl (by decide) <|
        cw_if_ne_F (tgt := 19) (pc := 14) dX9_man_14 (by decide) (bI_0.mpr hl) <|
        cw_iconst (v := -1) (pc := 17) dX9_man_17 (by decide) <|
        cw_iret (pc := 18) dX9_man_18 hR <|
        ⟨by rw [manA, if_neg (fun h => hl h.2)], by rw [manR, if_neg (fun h => hl h.1.2)], Same.rf⟩
  · refine cw_iload_n (pc := 0) dX9_man_0 rfl rfl <|
      cw_iconst (v := 0) (pc := 1) dX9_man_1 (by decide) <|
      cw_bipush (v := 6) (pc := 2) dX9_man_2 (by decide) <|
      cw_insI (pc := 4) dX9_man_4 c_X9_in vX9_44 rfl rfl rfl (by decide) <|
      cw_if_eq_T (tgt := 17) (pc := 7) dX9_man_7 (by decide) (bI_0.mpr (fun h => hk ⟨h.1, i_le6.mp h.2⟩)) <|
      cw_iconst (v := -1) (pc := 17) dX9_man_17 (by decide) <|
      cw_iret (pc := 18) dX9_man_18 hR <|
      ⟨by rw [manA, if_neg (fun h => hk h.1)], by rw [manR, if_neg (fun h => hk h.1.1)], Same.rf⟩
set_option maxHeartbeats 4000000 in
set_option maxRecDepth 100000 in
theorem c_X9_of {E : Ev} {μ : Mem} {s : Row} (hs : μ 68 = s) {n mk : Nat} {code : PCo} (hI : Inv s n code mk) {x w : Int32} : AM E yX9_of cX9_of 3 (some .int) 5 [.ref 67, .int x, .int w] μ (fun r μ' => r = some (.int (ofA s code x w)) ∧ Same MQr μ μ') := by
  refine am_of (own := RX9) (L := [.ref 67, .int x, .int w]) (by decide) rfl (Nat.le_of_ble_eq_true rfl) rfl (fun Γ hR => ?_)
  subst hs
  have hI0 := hI
  obtain ⟨hIL, hIP, hIC, hIS, hIW, hIB, hIT⟩ := hI
  have hn := hIL.1
  have h6 := hIL.2.1
  by_cases hx : 0 ≤ x ∧ x < μ 68 31
  · obtain ⟨p, hp, rfl⟩ := isM_of hn h6 hx
    have np : nN (nI p) = p := nN_nI (by omega)
    have hpre : ∀ v, ofA (μ 68) code (nI p) v = (if v = 0 then μ 68 (39 + p) else if v = 1 then μ 68 (45 + p) else if v = 2 then μ 68 (51 + p) else if v = 3 then μ 68 (7 + p) else if v = 4 then μ 68 (13 + p) else if v = 5 then μ 68 (1 + p) else if v = 6 then scP (μ 68) code p else -999999) := fun v => by rw [ofA, if_pos hx, np]
    by_cases e0 : w = 0
    · subst e0
      refine cw_aload_n (pc := 0) dX9_of_0 rfl rfl <|
        cw_iload_n (pc := 1) dX9_of_1 rfl rfl <|
        cw_invI (q := 67) (pc := 2) dX9_of_2 (c_X9_isMan hn h6) rfl vX9_162 sh_67 (by decide) rfl rfl rfl (by decide) <|
        cw_if_ne_T (tgt := 11) (pc := 5) dX9_of_5 (by decide) (bI_n0.mpr hx) <|
        cw_iload_n (pc := 11) dX9_of_11 rfl rfl <|
        cw_tabI (v := 0) (tgt := 56) (pc := 12) dX9_of_12 rfl (by decide) (by decide) rfl (by decide) <|
        cw_aload_n (pc := 56) dX9_of_56 rfl rfl <|
        cw_getR (q := 67) (t := 68) (pc := 57) dX9_of_57 fX9_9 sh_67 (by decide) rfl <|
        cw_bipush (v := 39) (pc := 60) dX9_of_60 (by decide) <|
        cw_iload_n (pc := 62) dX9_of_62 rfl rfl <|
        cw_iadd (pc := 63) dX9_of_63 <|
        cw_ial (q := 68) (jn := (39 + p)) (pc := 64) dX9_of_64 sh_68 (nx_add rfl rfl) (by omega) (by decide) <|
        cw_iret (pc := 65) dX9_of_65 hR <|
        ⟨by rw [hpre]; simp, Same.rf⟩
    by_cases e1 : w = 1
    · subst e1
      refine cw_aload_n (pc := 0) dX9_of_0 rfl rfl <|
        cw_iload_n (pc := 1) dX9_of_1 rfl rfl <|
        cw_invI (q := 67) (pc := 2) dX9_of_2 (c_X9_isMan hn h6) rfl vX9_162 sh_67 (by decide) rfl rfl rfl (by decide) <|
        cw_if_ne_T (tgt := 11) (pc := 5) dX9_of_5 (by decide) (bI_n0.mpr hx) <|
        cw_iload_n (pc := 11) dX9_of_11 rfl rfl <|
        cw_tabI (v := 1) (tgt := 66) (pc := 12) dX9_of_12 rfl (by decide) (by decide) rfl (by decide) <|
        cw_aload_n (pc := 66) dX9_of_66 rfl rfl <|
        cw_getR (q := 67) (t := 68) (pc := 67) dX9_of_67 fX9_9 sh_67 (by decide) rfl <|
        cw_bipush (v := 45) (pc := 70) dX9_of_70 (by decide) <|
        cw_iload_n (pc := 72) dX9_of_72 rfl rfl <|
        cw_iadd (pc := 73) dX9_of_73 <|
        cw_ial (q := 68) (jn := (45 + p)) (pc := 74) dX9_of_74 sh_68 (nx_add rfl rfl) (by omega) (by decide) <|
        cw_iret (pc := 75) dX9_of_75 hR <|
        ⟨by rw [hpre]; simp, Same.rf⟩
    by_cases e2 : w = 2
    · subst e2
      refine cw_aload_n (pc := 0) dX9_of_0 rfl rfl <|
        cw_iload_n (pc := 1) dX9_of_1 rfl rfl <|
        cw_invI (q := 67) (pc := 2) dX9_of_2 (c_X9_isMan hn h6) rfl vX9_162 sh_67 (by decide) rfl rfl rfl (by decide) <|
        cw_if_ne_T (tgt := 11) (pc := 5) dX9_of_5 (by decide) (bI_n0.mpr hx) <|
        cw_iload_n (pc := 11) dX9_of_11 rfl rfl <|
        cw_tabI (v := 2) (tgt := 76) (pc := 12) dX9_of_12 rfl (by decide) (by decide) rfl (by decide) <|
        cw_aload_n (pc := 76) dX9_of_76 rfl rfl <|
        cw_getR (q := 67) (t := 68) (pc := 77) dX9_of_77 fX9_9 sh_67 (by decide) rfl <|
        cw_bipush (v := 51) (pc := 80) dX9_of_80 (by decide) <|
        cw_iload_n (pc := 82) dX9_of_82 rfl rfl <|
        cw_iadd (pc := 83) dX9_of_83 <|
        cw_ial (q := 68) (jn := (51 + p)) (pc := 84) dX9_of_84 sh_68 (nx_add rfl rfl) (by omega) (by decide) <|
        cw_iret (pc := 85) dX9_of_85 hR <|
        ⟨by rw [hpre]; simp, Same.rf⟩
    by_cases e3 : w = 3
    · subst e3
      refine cw_aload_n (pc := 0) dX9_of_0 rfl rfl <|
        cw_iload_n (pc := 1) dX9_of_1 rfl rfl <|
        cw_invI (q := 67) (pc := 2) dX9_of_2 (c_X9_isMan hn h6) rfl vX9_162 sh_67 (by decide) rfl rfl rfl (by decide) <|
        cw_if_ne_T (tgt := 11) (pc := 5) dX9_of_5 (by decide) (bI_n0.mpr hx) <|
        cw_iload_n (pc := 11) dX9_of_11 rfl rfl <|
        cw_tabI (v := 3) (tgt := 86) (pc := 12) dX9_of_12 rfl (by decide) (by decide) rfl (by decide) <|
        cw_aload_n (pc := 86) dX9_of_86 rfl rfl <|
        cw_getR (q := 67) (t := 68) (pc := 87) dX9_of_87 fX9_9 sh_67 (by decide) rfl <|
        cw_bipush (v := 7) (pc := 90) dX9_of_90 (by decide) <|
        cw_iload_n (pc := 92) dX9_of_92 rfl rfl <|
        cw_iadd (pc := 93) dX9_of_93 <|
        cw_ial (q := 68) (jn := (7 + p)) (pc := 94) dX9_of_94 sh_68 (nx_add rfl rfl) (by omega) (by decide) <|
        cw_iret (pc := 95) dX9_of_95 hR <|
        ⟨by rw [hpre]; simp, Same.rf⟩
    by_cases e4 : w = 4
    · subst e4
      refine cw_aload_n (pc := 0) dX9_of_0 rfl rfl <|
        cw_iload_n (pc := 1) dX9_of_1 rfl rfl <|
        cw_invI (q := 67) (pc := 2) dX9_of_2 (c_X9_isMan hn h6) rfl vX9_162 sh_67 (by decide) rfl rfl rfl (by decide) <|
        cw_if_ne_T (tgt := 11) (pc := 5) dX9_of_5 (by decide) (bI_n0.mpr hx) <|
        cw_iload_n (pc := 11) dX9_of_11 rfl rfl <|
        cw_tabI (v := 4) (tgt := 96) (pc := 12) dX9_of_12 rfl (by decide) (by decide) rfl (by decide) <|
        cw_aload_n (pc := 96) dX9_of_96 rfl rfl <|
        cw_getR (q := 67) (t := 68) (pc := 97) dX9_of_97 fX9_9 sh_67 (by decide) rfl <|
        cw_bipush (v := 13) (pc := 100) dX9_of_100 (by decide) <|
        cw_iload_n (pc := 102) dX9_of_102 rfl rfl <|
        cw_iadd (pc := 103) dX9_of_103 <|
        cw_ial (q := 68) (jn := (13 + p)) (pc := 104) dX9_of_104 sh_68 (nx_add rfl rfl) (by omega) (by decide) <|
        cw_iret (pc := 105) dX9_of_105 hR <|
        ⟨by rw [hpre]; simp, Same.rf⟩
    by_cases e5 : w = 5
    · subst e5
      refine cw_aload_n (pc := 0) dX9_of_0 rfl rfl <|
        cw_iload_n (pc := 1) dX9_of_1 rfl rfl <|
        cw_invI (q := 67) (pc := 2) dX9_of_2 (c_X9_isMan hn h6) rfl vX9_162 sh_67 (by decide) rfl rfl rfl (by decide) <|
        cw_if_ne_T (tgt := 11) (pc := 5) dX9_of_5 (by decide) (bI_n0.mpr hx) <|
        cw_iload_n (pc := 11) dX9_of_11 rfl rfl <|
        cw_tabI (v := 5) (tgt := 106) (pc := 12) dX9_of_12 rfl (by decide) (by decide) rfl (by decide) <|
        cw_aload_n (pc := 106) dX9_of_106 rfl rfl <|
        cw_getR (q := 67) (t := 68) (pc := 107) dX9_of_107 fX9_9 sh_67 (by decide) rfl <|
        cw_iconst (v := 1) (pc := 110) dX9_of_110 (by decide) <|
        cw_iload_n (pc := 111) dX9_of_111 rfl rfl <|
        cw_iadd (pc := 112) dX9_of_112 <|
        cw_ial (q := 68) (jn := (1 + p)) (pc := 113) dX9_of_113 sh_68 (nx_add rfl rfl) (by omega) (by decide) <|
        cw_iret (pc := 114) dX9_of_114 hR <|
        ⟨by rw [hpre]; simp, Same.rf⟩
    by_cases e6 : w = 6
    · subst e6
      refine cw_aload_n (pc := 0) dX9_of_0 rfl rfl <|
        cw_iload_n (pc := 1) dX9_of_1 rfl rfl <|
        cw_invI (q := 67) (pc := 2) dX9_of_2 (c_X9_isMan hn h6) rfl vX9_162 sh_67 (by decide) rfl rfl rfl (by decide) <|
        cw_if_ne_T (tgt := 11) (pc := 5) dX9_of_5 (by decide) (bI_n0.mpr hx) <|
        cw_iload_n (pc := 11) dX9_of_11 rfl rfl <|
        cw_tabI (v := 6) (tgt := 115) (pc := 12) dX9_of_12 rfl (by decide) (by decide) rfl (by decide) <|
        cw_aload_n (pc := 115) dX9_of_115 rfl rfl <|
        cw_iload_n (pc := 116) dX9_of_116 rfl rfl <|
        cw_invP (q := 67) (pc := 117) dX9_of_117 (c_X9_scoreOf rfl hIP hIL hp) rfl vX9_154 sh_67 (by decide) rfl rfl rfl (by decide) <|
        ?_
      rintro _ m2 ⟨rfl, s2⟩
      refine cw_iret (pc := 120) dX9_of_120 hR <|
        ⟨by rw [hpre]; simp, MS_MQ s2⟩
    refine cw_aload_n (pc := 0) dX9_of_0 rfl rfl <|
      cw_iload_n (pc := 1) dX9_of_1 rfl rfl <|
      cw_invI (q := 67) (pc := 2) dX9_of_2 (c_X9_isMan hn h6) rfl vX9_162 sh_67 (by decide) rfl rfl rfl (by decide) <|
      cw_if_ne_T (tgt := 11) (pc := 5) dX9_of_5 (by decide) (bI_n0.mpr hx) <|
      cw_iload_n (pc := 11) dX9_of_11 rfl rfl <|
      cw_tabD (tgt := 121) (pc := 12) dX9_of_12 (by have a0 := lv_neT (a := 0) e0 rfl; have a1 := lv_neT (a := 1) e1 rfl; have a2 := lv_neT (a := 2) e2 rfl; have a3 := lv_neT (a := 3) e3 rfl; have a4 := lv_neT (a := 4) e4 rfl; have a5 := lv_neT (a := 5) e5 rfl; have a6 := lv_neT (a := 6) e6 rfl; omega) (by decide) <|
      cw_ldc (pc := 121) dX9_of_121 kX9_165 <|
      cw_iret (pc := 123) dX9_of_123 hR <|
      ⟨by rw [hpre]; simp [e0, e1, e2, e3, e4, e5, e6], Same.rf⟩
  · refine cw_aload_n (pc := 0) dX9_of_0 rfl rfl <|
      cw_iload_n (pc := 1) dX9_of_1 rfl rfl <|
      cw_invI (q := 67) (pc := 2) dX9_of_2 (c_X9_isMan hn h6) rfl vX9_162 sh_67 (by decide) rfl rfl rfl (by decide) <|
      cw_if_ne_F (tgt := 11) (pc := 5) dX9_of_5 (by decide) (bI_0.mpr hx) <|
      cw_ldc (pc := 8) dX9_of_8 kX9_165 <|
      cw_iret (pc := 10) dX9_of_10 hR <|
      ⟨by rw [ofA, if_neg hx], Same.rf⟩
set_option maxHeartbeats 4000000 in
set_option maxRecDepth 100000 in
theorem c_X9_strays {E : Ev} {μ : Mem} {s : Row} (hs : μ 68 = s) {n mk : Nat} {code : PCo} (hI : Inv s n code mk) {x t l : Int32} : AM E yX9_strays cX9_strays 4 (some .int) 3 [.ref 67, .int x, .int t, .int l] μ (fun r μ' => r = some (.int (straysA s code x t l)) ∧ Same MQr μ μ') := by
  refine am_of (own := RX9) (L := [.ref 67, .int x, .int t, .int l]) (by decide) rfl (Nat.le_of_ble_eq_true rfl) rfl (fun Γ hR => ?_)
  subst hs
  have hI0 := hI
  obtain ⟨hIL, hIP, hIC, hIS, hIW, hIB, hIT⟩ := hI
  have hn := hIL.1
  have h6 := hIL.2.1
  by_cases hx : 0 ≤ x ∧ x < μ 68 31
  · by_cases ht : 0 ≤ t ∧ t < 12
    · by_cases hl : 0 ≤ l ∧ l < 9
      · obtain ⟨p, hp, rfl⟩ := isM_of hn h6 hx
        obtain ⟨q, hq, rfl⟩ := isSt_of ht
        obtain ⟨y, hy, rfl⟩ := isLn_of hl
        have hp6 : p < 6 := by omega
        refine cw_aload_n (pc := 0) dX9_strays_0 rfl rfl <|
          cw_iload_n (pc := 1) dX9_strays_1 rfl rfl <|
          cw_invI (q := 67) (pc := 2) dX9_strays_2 (c_X9_isMan hn h6) rfl vX9_162 sh_67 (by decide) rfl rfl rfl (by decide) <|
          cw_if_eq_F (tgt := 41) (pc := 5) dX9_strays_5 (by decide) (bI_n0.mpr hx) <|
          cw_iload_n (pc := 8) dX9_strays_8 rfl rfl <|
          cw_insI (pc := 9) dX9_strays_9 c_X9_isStep vX9_169 rfl rfl rfl (by decide) <|
          cw_if_eq_F (tgt := 41) (pc := 12) dX9_strays_12 (by decide) (bI_n0.mpr ht) <|
          cw_iload_n (pc := 15) dX9_strays_15 rfl rfl <|
          cw_insI (pc := 16) dX9_strays_16 c_X9_isLane vX9_158 rfl rfl rfl (by decide) <|
          cw_if_eq_F (tgt := 41) (pc := 19) dX9_strays_19 (by decide) (bI_n0.mpr hl) <|
          cw_aload_n (pc := 22) dX9_strays_22 rfl rfl <|
          cw_iload_n (pc := 23) dX9_strays_23 rfl rfl <|
          cw_iload_n (pc := 24) dX9_strays_24 rfl rfl <|
          cw_iload_n (pc := 25) dX9_strays_25 rfl rfl <|
          cw_aload_n (pc := 26) dX9_strays_26 rfl rfl <|
          cw_getR (q := 67) (t := 68) (pc := 27) dX9_strays_27 fX9_9 sh_67 (by decide) rfl <|
          cw_bipush (v := 19) (pc := 30) dX9_strays_30 (by decide) <|
          cw_iload_n (pc := 32) dX9_strays_32 rfl rfl <|
          cw_iadd (pc := 33) dX9_strays_33 <|
          cw_ial (q := 68) (jn := (19 + q)) (pc := 34) dX9_strays_34 sh_68 (nx_add rfl rfl) (by omega) (by decide) <|
          cw_invP (q := 67) (pc := 35) dX9_strays_35 (c_X9_straysBy rfl hIP hp6 hq) rfl vX9_138 sh_67 (by decide) rfl rfl rfl (by decide) <|
          ?_
        rintro _ m2 ⟨rfl, s2⟩
        refine cw_goto (tgt := 43) (pc := 38) dX9_strays_38 (by decide) <|
          cw_iret (pc := 43) dX9_strays_43 hR <|
          ⟨by rw [straysA, if_pos ⟨hx, ht, hl⟩, nN_nI (by omega), nN_nI (by omega), nN_nI (by omega)]; rfl, MS_MQ (MD_MS s2)⟩
      · refine cw_aload_n (pc := 0) dX9_strays_0 rfl rfl <|
          cw_iload_n (pc := 1) dX9_strays_1 rfl rfl <|
          cw_invI (q := 67) (pc := 2) dX9_strays_2 (c_X9_isMan hn h6) rfl vX9_162 sh_67 (by decide) rfl rfl rfl (by decide) <|
          cw_if_eq_F (tgt := 41) (pc := 5) dX9_strays_5 (by decide) (bI_n0.mpr hx) <|
          cw_iload_n (pc := 8) dX9_strays_8 rfl rfl <|
          cw_insI (pc := 9) dX9_strays_9 c_X9_isStep vX9_169 rfl rfl rfl (by decide) <|
          cw_if_eq_F (tgt := 41) (pc := 12) dX9_strays_12 (by decide) (bI_n0.mpr ht) <|
          cw_iload_n (pc := 15) dX9_strays_15 rfl rfl <|
          cw_insI (pc := 16) dX9_strays_16 c_X9_isLane vX9_158 rfl rfl rfl (by decide) <|
          cw_if_eq_T (tgt := 41) (pc := 19) dX9_strays_19 (by decide) (bI_0.mpr hl) <|
          cw_ldc (pc := 41) dX9_strays_41 kX9_165 <|
          cw_iret (pc := 43) dX9_strays_43 hR <|
          ⟨by rw [straysA, if_neg (fun h => hl h.2.2)], Same.rf⟩
    · refine cw_aload_n (pc := 0) dX9_strays_0 rfl rfl <|
        cw_iload_n (pc := 1) dX9_strays_1 rfl rfl <|
        cw_invI (q := 67) (pc := 2) dX9_strays_2 (c_X9_isMan hn h6) rfl vX9_162 sh_67 (by decide) rfl rfl rfl (by decide) <|
        cw_if_eq_F (tgt := 41) (pc := 5) dX9_strays_5 (by decide) (bI_n0.mpr hx) <|
        cw_iload_n (pc := 8) dX9_strays_8 rfl rfl <|
        cw_insI (pc := 9) dX9_strays_9 c_X9_isStep vX9_169 rfl rfl rfl (by decide) <|
        cw_if_eq_T (tgt := 41) (pc := 12) dX9_strays_12 (by decide) (bI_0.mpr ht) <|
        cw_ldc (pc := 41) dX9_strays_41 kX9_165 <|
        cw_iret (pc := 43) dX9_strays_43 hR <|
        ⟨by rw [straysA, if_neg (fun h => ht h.2.1)], Same.rf⟩
  · refine cw_aload_n (pc := 0) dX9_strays_0 rfl rfl <|
      cw_iload_n (pc := 1) dX9_strays_1 rfl rfl <|
      cw_invI (q := 67) (pc := 2) dX9_strays_2 (c_X9_isMan hn h6) rfl vX9_162 sh_67 (by decide) rfl rfl rfl (by decide) <|
      cw_if_eq_T (tgt := 41) (pc := 5) dX9_strays_5 (by decide) (bI_0.mpr hx) <|
      cw_ldc (pc := 41) dX9_strays_41 kX9_165 <|
      cw_iret (pc := 43) dX9_strays_43 hR <|
      ⟨by rw [straysA, if_neg (fun h => hx h.1)], Same.rf⟩
set_option maxHeartbeats 4000000 in
set_option maxRecDepth 100000 in
theorem c_X9_line {E : Ev} {μ : Mem} {s : Row} (hs : μ 68 = s) {n mk : Nat} {code : PCo} (hI : Inv s n code mk) {x l w : Int32} : AM E yX9_line cX9_line 5 (some .int) 4 [.ref 67, .int x, .int l, .int w] μ (fun r μ' => r = some (.int (lineA s code x l w)) ∧ Same MQr μ μ') := by
  refine am_of (own := RX9) (L := [.ref 67, .int x, .int l, .int w, .null]) (by decide) rfl (Nat.le_of_ble_eq_true rfl) rfl (fun Γ hR => ?_)
  subst hs
  have hI0 := hI
  obtain ⟨hIL, hIP, hIC, hIS, hIW, hIB, hIT⟩ := hI
  have hn := hIL.1
  have h6 := hIL.2.1
  by_cases hx : 0 ≤ x ∧ x < μ 68 31
  · by_cases hl : 0 ≤ l ∧ l < 9
    · obtain ⟨p, hp, rfl⟩ := isM_of hn h6 hx
      obtain ⟨y, hy, rfl⟩ := isLn_of hl
      have hp6 : p < 6 := by omega
      have hpre : ∀ v, lineA (μ 68) code (nI p) (nI y) v = (if 10 ≤ v ∧ v ≤ 22 then nI (lnS (μ 68) code p y (nN v - 10)) else if v = 0 then nI (stat (lnS (μ 68) code p y) 12).1 else if v = 1 then nI (stat (lnS (μ 68) code p y) 12).2.1 else if v = 2 then nI (spanN (lnS (μ 68) code p y)) else if v = 3 then scoreN (lnS (μ 68) code p y) else -999999) := fun v => by rw [lineA, if_pos ⟨hx, hl⟩, nN_nI (by omega), nN_nI (by omega)]
      refine cw_aload_n (pc := 0) dX9_line_0 rfl rfl <|
        cw_iload_n (pc := 1) dX9_line_1 rfl rfl <|
        cw_invI (q := 67) (pc := 2) dX9_line_2 (c_X9_isMan hn h6) rfl vX9_162 sh_67 (by decide) rfl rfl rfl (by decide) <|
        cw_if_eq_F (tgt := 15) (pc := 5) dX9_line_5 (by decide) (bI_n0.mpr hx) <|
        cw_iload_n (pc := 8) dX9_line_8 rfl rfl <|
        cw_insI (pc := 9) dX9_line_9 c_X9_isLane vX9_158 rfl rfl rfl (by decide) <|
        cw_if_ne_T (tgt := 18) (pc := 12) dX9_line_12 (by decide) (bI_n0.mpr hl) <|
        cw_aload_n (pc := 18) dX9_line_18 rfl rfl <|
        cw_iload_n (pc := 19) dX9_line_19 rfl rfl <|
        cw_iload_n (pc := 20) dX9_line_20 rfl rfl <|
        cw_invP (q := 67) (pc := 21) dX9_line_21 (c_X9_scoreFrom rfl hIP hp6 (l := y) hy) rfl vX9_150 sh_67 (by decide) rfl rfl rfl (by decide) <|
        ?_
      rintro _ m2 ⟨rfl, ln2, o13, o14, s2⟩
      refine cw_istore (L' := [_, _, _, _, _]) (pc := 24) dX9_line_24 (by decide) rfl rfl <|
        cw_iload_n (pc := 26) dX9_line_26 rfl rfl <|
        ?_
      by_cases e0 : w = 0
      · subst e0
        refine cw_tabI (v := 0) (tgt := 56) (pc := 27) dX9_line_27 rfl (by decide) (by decide) rfl (by decide) <|
          cw_aload_n (pc := 56) dX9_line_56 rfl rfl <|
          cw_getI (q := 67) (pc := 57) dX9_line_57 fX9_132 sh_67 (by decide) rfl <|
          ?_
        rw [o13]
        refine cw_iret (pc := 60) dX9_line_60 hR <|
          ⟨by rw [hpre, if_neg (by decide)]; simp, MS_MQ s2⟩
      by_cases e1 : w = 1
      · subst e1
        refine cw_tabI (v := 1) (tgt := 61) (pc := 27) dX9_line_27 rfl (by decide) (by decide) rfl (by decide) <|
          cw_aload_n (pc := 61) dX9_line_61 rfl rfl <|
          cw_getI (q := 67) (pc := 62) dX9_line_62 fX9_135 sh_67 (by decide) rfl <|
          ?_
        rw [o14]
        refine cw_iret (pc := 65) dX9_line_65 hR <|
          ⟨by rw [hpre, if_neg (by decide)]; simp, MS_MQ s2⟩
      by_cases e2 : w = 2
      · subst e2
        refine cw_tabI (v := 2) (tgt := 66) (pc := 27) dX9_line_27 rfl (by decide) (by decide) rfl (by decide) <|
          cw_aload_n (pc := 66) dX9_line_66 rfl rfl <|
          cw_invI (q := 67) (pc := 67) dX9_line_67 (c_X9_span ln2 (fun x => lnS_le hy x)) rfl vX9_147 sh_67 (by decide) rfl rfl rfl (by decide) <|
          cw_iret (pc := 70) dX9_line_70 hR <|
          ⟨by rw [hpre, if_neg (by decide)]; simp, MS_MQ s2⟩
      by_cases e3 : w = 3
      · subst e3
        refine cw_tabI (v := 3) (tgt := 71) (pc := 27) dX9_line_27 rfl (by decide) (by decide) rfl (by decide) <|
          cw_iload (pc := 71) dX9_line_71 rfl <|
          cw_iret (pc := 73) dX9_line_73 hR <|
          ⟨by rw [hpre, if_neg (by decide), scS_ln]; simp, MS_MQ s2⟩
      by_cases hw : 10 ≤ w ∧ w ≤ 22
      · obtain ⟨j, hj, rfl⟩ := rng (A := 10) (B := 23) (by decide) (by decide) hw.1 ((le_lt (a := 22) (by decide)).mp hw.2)
        have ej : nI (10 + j) - 10 = nI j := nx_sub (b := 10) rfl rfl (by omega)
        have nj : nN (nI (10 + j)) - 10 = j := by rw [nN_nI (by omega)]; omega
        refine cw_tabD (tgt := 74) (pc := 27) dX9_line_27 (by have a0 := lv_neT (a := 0) e0 rfl; have a1 := lv_neT (a := 1) e1 rfl; have a2 := lv_neT (a := 2) e2 rfl; have a3 := lv_neT (a := 3) e3 rfl; omega) (by decide) <|
          cw_iload_n (pc := 74) dX9_line_74 rfl rfl <|
          cw_bipush (v := 10) (pc := 75) dX9_line_75 (by decide) <|
          cw_bipush (v := 22) (pc := 77) dX9_line_77 (by decide) <|
          cw_insI (pc := 79) dX9_line_79 c_X9_in vX9_44 rfl rfl rfl (by decide) <|
          cw_if_eq_F (tgt := 97) (pc := 82) dX9_line_82 (by decide) (bI_n0.mpr hw) <|
          cw_aload_n (pc := 85) dX9_line_85 rfl rfl <|
          cw_getR (q := 67) (t := 73) (pc := 86) dX9_line_86 fX9_28 sh_67 (by decide) rfl <|
          cw_iload_n (pc := 89) dX9_line_89 rfl rfl <|
          cw_bipush (v := 10) (pc := 90) dX9_line_90 (by decide) <|
          cw_isub (pc := 92) dX9_line_92 <|
          ?_
        rw [ej]
        refine cw_ial (q := 73) (jn := j) (pc := 93) dX9_line_93 sh_73 rfl (by omega) (by decide) <|
          ?_
        rw [ln2 j (by omega)]
        refine cw_goto (tgt := 99) (pc := 94) dX9_line_94 (by decide) <|
          cw_iret (pc := 99) dX9_line_99 hR <|
          ⟨by rw [hpre, if_pos hw, nj], MS_MQ s2⟩
      · refine cw_tabD (tgt := 74) (pc := 27) dX9_line_27 (by have a0 := lv_neT (a := 0) e0 rfl; have a1 := lv_neT (a := 1) e1 rfl; have a2 := lv_neT (a := 2) e2 rfl; have a3 := lv_neT (a := 3) e3 rfl; omega) (by decide) <|
          cw_iload_n (pc := 74) dX9_line_74 rfl rfl <|
          cw_bipush (v := 10) (pc := 75) dX9_line_75 (by decide) <|
          cw_bipush (v := 22) (pc := 77) dX9_line_77 (by decide) <|
          cw_insI (pc := 79) dX9_line_79 c_X9_in vX9_44 rfl rfl rfl (by decide) <|
          cw_if_eq_T (tgt := 97) (pc := 82) dX9_line_82 (by decide) (bI_0.mpr hw) <|
          cw_ldc (pc := 97) dX9_line_97 kX9_165 <|
          cw_iret (pc := 99) dX9_line_99 hR <|
          ⟨by rw [hpre, if_neg hw]; simp [e0, e1, e2, e3], MS_MQ s2⟩
    · refine cw_aload_n (pc := 0) dX9_line_0 rfl rfl <|
        cw_iload_n (pc := 1) dX9_line_1 rfl rfl <|
        cw_invI (q := 67) (pc := 2) dX9_line_2 (c_X9_isMan hn h6) rfl vX9_162 sh_67 (by decide) rfl rfl rfl (by decide) <|
        cw_if_eq_F (tgt := 15) (pc := 5) dX9_line_5 (by decide) (bI_n0.mpr hx) <|
        cw_iload_n (pc := 8) dX9_line_8 rfl rfl <|
        cw_insI (pc := 9) dX9_line_9 c_X9_isLane vX9_158 rfl rfl rfl (by decide) <|
        cw_if_ne_F (tgt := 18) (pc := 12) dX9_line_12 (by decide) (bI_0.mpr hl) <|
        cw_ldc (pc := 15) dX9_line_15 kX9_165 <|
        cw_iret (pc := 17) dX9_line_17 hR <|
        ⟨by rw [lineA, if_neg (fun h => hl h.2)], Same.rf⟩
  · refine cw_aload_n (pc := 0) dX9_line_0 rfl rfl <|
      cw_iload_n (pc := 1) dX9_line_1 rfl rfl <|
      cw_invI (q := 67) (pc := 2) dX9_line_2 (c_X9_isMan hn h6) rfl vX9_162 sh_67 (by decide) rfl rfl rfl (by decide) <|
      cw_if_eq_T (tgt := 15) (pc := 5) dX9_line_5 (by decide) (bI_0.mpr hx) <|
      cw_ldc (pc := 15) dX9_line_15 kX9_165 <|
      cw_iret (pc := 17) dX9_line_17 hR <|
      ⟨by rw [lineA, if_neg (fun h => hx h.1)], Same.rf⟩
set_option maxHeartbeats 4000000 in
set_option maxRecDepth 100000 in
theorem c_X9_decided {E : Ev} {μ : Mem} {s : Row} (hs : μ 68 = s) {a b c : Nat} (hc : c < 5) (h1 : s (81 + c) = nI a) (h2 : s (86 + c) = nI b) (ha : a < 6) (hb : b < 6) (v1 : s (1 + a) = 0 ∨ s (1 + a) = 1) (v2 : s (1 + b) = 0 ∨ s (1 + b) = 1) : AM E yX9_decided cX9_decided 4 (some .int) 0 [.ref 67, .int (nI c)] μ (fun r μ' => r = some (.int (decS s c)) ∧ μ' = μ) := by
  refine am_of (own := RX9) (L := [.ref 67, .int (nI c), .null, .null]) (by decide) rfl (Nat.le_of_ble_eq_true rfl) rfl (fun Γ hR => ?_)
  subst hs
  have k1 : nN (μ 68 (81 + c)) = a := by rw [h1]; exact nN_nI (by omega)
  have k2 : nN (μ 68 (86 + c)) = b := by rw [h2]; exact nN_nI (by omega)
  rcases v1 with e1 | e1 <;> rcases v2 with e2 | e2
  · refine cw_aload_n (pc := 0) dX9_decided_0 rfl rfl <|
      cw_getR (q := 67) (t := 68) (pc := 1) dX9_decided_1 fX9_9 sh_67 (by decide) rfl <|
      cw_iconst (v := 1) (pc := 4) dX9_decided_4 (by decide) <|
      cw_aload_n (pc := 5) dX9_decided_5 rfl rfl <|
      cw_getR (q := 67) (t := 68) (pc := 6) dX9_decided_6 fX9_9 sh_67 (by decide) rfl <|
      cw_bipush (v := 81) (pc := 9) dX9_decided_9 (by decide) <|
      cw_iload_n (pc := 11) dX9_decided_11 rfl rfl <|
      cw_iadd (pc := 12) dX9_decided_12 <|
      cw_ial (q := 68) (jn := (81 + c)) (pc := 13) dX9_decided_13 sh_68 (nx_add rfl rfl) (by omega) (by decide) <|
      ?_
    rw [h1]
    refine cw_iadd (pc := 14) dX9_decided_14 <|
      cw_ial (q := 68) (jn := (1 + a)) (pc := 15) dX9_decided_15 sh_68 (nx_add rfl rfl) (by omega) (by decide) <|
      ?_
    rw [e1]
    refine cw_istore_n (L' := [_, _, _, _]) (pc := 16) dX9_decided_16 rfl (by decide) rfl rfl <|
      cw_aload_n (pc := 17) dX9_decided_17 rfl rfl <|
      cw_getR (q := 67) (t := 68) (pc := 18) dX9_decided_18 fX9_9 sh_67 (by decide) rfl <|
      cw_iconst (v := 1) (pc := 21) dX9_decided_21 (by decide) <|
      cw_aload_n (pc := 22) dX9_decided_22 rfl rfl <|
      cw_getR (q := 67) (t := 68) (pc := 23) dX9_decided_23 fX9_9 sh_67 (by decide) rfl <|
      cw_bipush (v := 86) (pc := 26) dX9_decided_26 (by decide) <|
      cw_iload_n (pc := 28) dX9_decided_28 rfl rfl <|
      cw_iadd (pc := 29) dX9_decided_29 <|
      cw_ial (q := 68) (jn := (86 + c)) (pc := 30) dX9_decided_30 sh_68 (nx_add rfl rfl) (by omega) (by decide) <|
      ?_
    rw [h2]
    refine cw_iadd (pc := 31) dX9_decided_31 <|
      cw_ial (q := 68) (jn := (1 + b)) (pc := 32) dX9_decided_32 sh_68 (nx_add rfl rfl) (by omega) (by decide) <|
      ?_
    rw [e2]
    refine cw_istore_n (L' := [_, _, _, _]) (pc := 33) dX9_decided_33 rfl (by decide) rfl rfl <|
      cw_iload_n (pc := 34) dX9_decided_34 rfl rfl <|
      cw_iload_n (pc := 35) dX9_decided_35 rfl rfl <|
      cw_icmp_le_T (tgt := 51) (pc := 36) dX9_decided_36 (by decide) (by decide) <|
      cw_iload_n (pc := 51) dX9_decided_51 rfl rfl <|
      cw_iload_n (pc := 52) dX9_decided_52 rfl rfl <|
      cw_icmp_le_T (tgt := 68) (pc := 53) dX9_decided_53 (by decide) (by decide) <|
      cw_bipush (v := -5) (pc := 68) dX9_decided_68 (by decide) <|
      cw_iret (pc := 70) dX9_decided_70 hR <|
      ⟨by rw [decS, k1, k2, decI]; simp [beS, e1, e2], rfl⟩
  · refine cw_aload_n (pc := 0) dX9_decided_0 rfl rfl <|
      cw_getR (q := 67) (t := 68) (pc := 1) dX9_decided_1 fX9_9 sh_67 (by decide) rfl <|
      cw_iconst (v := 1) (pc := 4) dX9_decided_4 (by decide) <|
      cw_aload_n (pc := 5) dX9_decided_5 rfl rfl <|
      cw_getR (q := 67) (t := 68) (pc := 6) dX9_decided_6 fX9_9 sh_67 (by decide) rfl <|
      cw_bipush (v := 81) (pc := 9) dX9_decided_9 (by decide) <|
      cw_iload_n (pc := 11) dX9_decided_11 rfl rfl <|
      cw_iadd (pc := 12) dX9_decided_12 <|
      cw_ial (q := 68) (jn := (81 + c)) (pc := 13) dX9_decided_13 sh_68 (nx_add rfl rfl) (by omega) (by decide) <|
      ?_
    rw [h1]
    refine cw_iadd (pc := 14) dX9_decided_14 <|
      cw_ial (q := 68) (jn := (1 + a)) (pc := 15) dX9_decided_15 sh_68 (nx_add rfl rfl) (by omega) (by decide) <|
      ?_
    rw [e1]
    refine cw_istore_n (L' := [_, _, _, _]) (pc := 16) dX9_decided_16 rfl (by decide) rfl rfl <|
      cw_aload_n (pc := 17) dX9_decided_17 rfl rfl <|
      cw_getR (q := 67) (t := 68) (pc := 18) dX9_decided_18 fX9_9 sh_67 (by decide) rfl <|
      cw_iconst (v := 1) (pc := 21) dX9_decided_21 (by decide) <|
      cw_aload_n (pc := 22) dX9_decided_22 rfl rfl <|
      cw_getR (q := 67) (t := 68) (pc := 23) dX9_decided_23 fX9_9 sh_67 (by decide) rfl <|
      cw_bipush (v := 86) (pc := 26) dX9_decided_26 (by decide) <|
      cw_iload_n (pc := 28) dX9_decided_28 rfl rfl <|
      cw_iadd (pc := 29) dX9_decided_29 <|
      cw_ial (q := 68) (jn := (86 + c)) (pc := 30) dX9_decided_30 sh_68 (nx_add rfl rfl) (by omega) (by decide) <|
      ?_
    rw [h2]
    refine cw_iadd (pc := 31) dX9_decided_31 <|
      cw_ial (q := 68) (jn := (1 + b)) (pc := 32) dX9_decided_32 sh_68 (nx_add rfl rfl) (by omega) (by decide) <|
      ?_
    rw [e2]
    refine cw_istore_n (L' := [_, _, _, _]) (pc := 33) dX9_decided_33 rfl (by decide) rfl rfl <|
      cw_iload_n (pc := 34) dX9_decided_34 rfl rfl <|
      cw_iload_n (pc := 35) dX9_decided_35 rfl rfl <|
      cw_icmp_le_T (tgt := 51) (pc := 36) dX9_decided_36 (by decide) (by decide) <|
      cw_iload_n (pc := 51) dX9_decided_51 rfl rfl <|
      cw_iload_n (pc := 52) dX9_decided_52 rfl rfl <|
      cw_icmp_le_F (tgt := 68) (pc := 53) dX9_decided_53 (by decide) (by decide) <|
      cw_aload_n (pc := 56) dX9_decided_56 rfl rfl <|
      cw_getR (q := 67) (t := 68) (pc := 57) dX9_decided_57 fX9_9 sh_67 (by decide) rfl <|
      cw_bipush (v := 86) (pc := 60) dX9_decided_60 (by decide) <|
      cw_iload_n (pc := 62) dX9_decided_62 rfl rfl <|
      cw_iadd (pc := 63) dX9_decided_63 <|
      cw_ial (q := 68) (jn := (86 + c)) (pc := 64) dX9_decided_64 sh_68 (nx_add rfl rfl) (by omega) (by decide) <|
      ?_
    rw [h2]
    refine cw_goto (tgt := 70) (pc := 65) dX9_decided_65 (by decide) <|
      cw_iret (pc := 70) dX9_decided_70 hR <|
      ⟨by rw [decS, k1, k2, decI]; simp [beS, e1, e2], rfl⟩
  · refine cw_aload_n (pc := 0) dX9_decided_0 rfl rfl <|
      cw_getR (q := 67) (t := 68) (pc := 1) dX9_decided_1 fX9_9 sh_67 (by decide) rfl <|
      cw_iconst (v := 1) (pc := 4) dX9_decided_4 (by decide) <|
      cw_aload_n (pc := 5) dX9_decided_5 rfl rfl <|
      cw_getR (q := 67) (t := 68) (pc := 6) dX9_decided_6 fX9_9 sh_67 (by decide) rfl <|
      cw_bipush (v := 81) (pc := 9) dX9_decided_9 (by decide) <|
      cw_iload_n (pc := 11) dX9_decided_11 rfl rfl <|
      cw_iadd (pc := 12) dX9_decided_12 <|
      cw_ial (q := 68) (jn := (81 + c)) (pc := 13) dX9_decided_13 sh_68 (nx_add rfl rfl) (by omega) (by decide) <|
      ?_
    rw [h1]
    refine cw_iadd (pc := 14) dX9_decided_14 <|
      cw_ial (q := 68) (jn := (1 + a)) (pc := 15) dX9_decided_15 sh_68 (nx_add rfl rfl) (by omega) (by decide) <|
      ?_
    rw [e1]
    refine cw_istore_n (L' := [_, _, _, _]) (pc := 16) dX9_decided_16 rfl (by decide) rfl rfl <|
      cw_aload_n (pc := 17) dX9_decided_17 rfl rfl <|
      cw_getR (q := 67) (t := 68) (pc := 18) dX9_decided_18 fX9_9 sh_67 (by decide) rfl <|
      cw_iconst (v := 1) (pc := 21) dX9_decided_21 (by decide) <|
      cw_aload_n (pc := 22) dX9_decided_22 rfl rfl <|
      cw_getR (q := 67) (t := 68) (pc := 23) dX9_decided_23 fX9_9 sh_67 (by decide) rfl <|
      cw_bipush (v := 86) (pc := 26) dX9_decided_26 (by decide) <|
      cw_iload_n (pc := 28) dX9_decided_28 rfl rfl <|
      cw_iadd (pc := 29) dX9_decided_29 <|
      cw_ial (q := 68) (jn := (86 + c)) (pc := 30) dX9_decided_30 sh_68 (nx_add rfl rfl) (by omega) (by decide) <|
      ?_
    rw [h2]
    refine cw_iadd (pc := 31) dX9_decided_31 <|
      cw_ial (q := 68) (jn := (1 + b)) (pc := 32) dX9_decided_32 sh_68 (nx_add rfl rfl) (by omega) (by decide) <|
      ?_
    rw [e2]
    refine cw_istore_n (L' := [_, _, _, _]) (pc := 33) dX9_decided_33 rfl (by decide) rfl rfl <|
      cw_iload_n (pc := 34) dX9_decided_34 rfl rfl <|
      cw_iload_n (pc := 35) dX9_decided_35 rfl rfl <|
      cw_icmp_le_F (tgt := 51) (pc := 36) dX9_decided_36 (by decide) (by decide) <|
      cw_aload_n (pc := 39) dX9_decided_39 rfl rfl <|
      cw_getR (q := 67) (t := 68) (pc := 40) dX9_decided_40 fX9_9 sh_67 (by decide) rfl <|
      cw_bipush (v := 81) (pc := 43) dX9_decided_43 (by decide) <|
      cw_iload_n (pc := 45) dX9_decided_45 rfl rfl <|
      cw_iadd (pc := 46) dX9_decided_46 <|
      cw_ial (q := 68) (jn := (81 + c)) (pc := 47) dX9_decided_47 sh_68 (nx_add rfl rfl) (by omega) (by decide) <|
      ?_
    rw [h1]
    refine cw_goto (tgt := 70) (pc := 48) dX9_decided_48 (by decide) <|
      cw_iret (pc := 70) dX9_decided_70 hR <|
      ⟨by rw [decS, k1, k2, decI]; simp [beS, e1, e2], rfl⟩
  · refine cw_aload_n (pc := 0) dX9_decided_0 rfl rfl <|
      cw_getR (q := 67) (t := 68) (pc := 1) dX9_decided_1 fX9_9 sh_67 (by decide) rfl <|
      cw_iconst (v := 1) (pc := 4) dX9_decided_4 (by decide) <|
      cw_aload_n (pc := 5) dX9_decided_5 rfl rfl <|
      cw_getR (q := 67) (t := 68) (pc := 6) dX9_decided_6 fX9_9 sh_67 (by decide) rfl <|
      cw_bipush (v := 81) (pc := 9) dX9_decided_9 (by decide) <|
      cw_iload_n (pc := 11) dX9_decided_11 rfl rfl <|
      cw_iadd (pc := 12) dX9_decided_12 <|
      cw_ial (q := 68) (jn := (81 + c)) (pc := 13) dX9_decided_13 sh_68 (nx_add rfl rfl) (by omega) (by decide) <|
      ?_
    rw [h1]
    refine cw_iadd (pc := 14) dX9_decided_14 <|
      cw_ial (q := 68) (jn := (1 + a)) (pc := 15) dX9_decided_15 sh_68 (nx_add rfl rfl) (by omega) (by decide) <|
      ?_
    rw [e1]
    refine cw_istore_n (L' := [_, _, _, _]) (pc := 16) dX9_decided_16 rfl (by decide) rfl rfl <|
      cw_aload_n (pc := 17) dX9_decided_17 rfl rfl <|
      cw_getR (q := 67) (t := 68) (pc := 18) dX9_decided_18 fX9_9 sh_67 (by decide) rfl <|
      cw_iconst (v := 1) (pc := 21) dX9_decided_21 (by decide) <|
      cw_aload_n (pc := 22) dX9_decided_22 rfl rfl <|
      cw_getR (q := 67) (t := 68) (pc := 23) dX9_decided_23 fX9_9 sh_67 (by decide) rfl <|
      cw_bipush (v := 86) (pc := 26) dX9_decided_26 (by decide) <|
      cw_iload_n (pc := 28) dX9_decided_28 rfl rfl <|
      cw_iadd (pc := 29) dX9_decided_29 <|
      cw_ial (q := 68) (jn := (86 + c)) (pc := 30) dX9_decided_30 sh_68 (nx_add rfl rfl) (by omega) (by decide) <|
      ?_
    rw [h2]
    refine cw_iadd (pc := 31) dX9_decided_31 <|
      cw_ial (q := 68) (jn := (1 + b)) (pc := 32) dX9_decided_32 sh_68 (nx_add rfl rfl) (by omega) (by decide) <|
      ?_
    rw [e2]
    refine cw_istore_n (L' := [_, _, _, _]) (pc := 33) dX9_decided_33 rfl (by decide) rfl rfl <|
      cw_iload_n (pc := 34) dX9_decided_34 rfl rfl <|
      cw_iload_n (pc := 35) dX9_decided_35 rfl rfl <|
      cw_icmp_le_T (tgt := 51) (pc := 36) dX9_decided_36 (by decide) (by decide) <|
      cw_iload_n (pc := 51) dX9_decided_51 rfl rfl <|
      cw_iload_n (pc := 52) dX9_decided_52 rfl rfl <|
      cw_icmp_le_T (tgt := 68) (pc := 53) dX9_decided_53 (by decide) (by decide) <|
      cw_bipush (v := -5) (pc := 68) dX9_decided_68 (by decide) <|
      cw_iret (pc := 70) dX9_decided_70 hR <|
      ⟨by rw [decS, k1, k2, decI]; simp [beS, e1, e2], rfl⟩
theorem be_01 {s : Row} {n Y M p : Nat} (hi : InvL s n Y M) (hp : p < 6) : s (1 + p) = if beS s p then 1 else 0 := by
  unfold beS
  rcases (hi.2.2.2.1 p hp).1 with e | e <;> simp [e]
theorem aw_01 {s : Row} {n Y M p : Nat} (hi : InvL s n Y M) (hp : p < 6) : s (7 + p) = if !naS s p then 1 else 0 := by
  unfold naS
  rcases (hi.2.2.2.1 p hp).2 with e | e <;> simp [e]
theorem be_n6 {s : Row} {n Y M : Nat} (hi : InvL s n Y M) : bitsI (beS s) n = bitsI (beS s) 6 := (bitsI_more hi.2.1 (fun p h1 h2 => by unfold beS; rw [(hi.2.2.2.2.1 p h1 h2).1]; rfl)).symm
theorem aw_n6 {s : Row} {n Y M : Nat} (hi : InvL s n Y M) : bitsI (fun p => !naS s p) n = bitsI (fun p => !naS s p) 6 := (bitsI_more hi.2.1 (fun p h1 h2 => by unfold naS; rw [(hi.2.2.2.2.1 p h1 h2).2.1]; rfl)).symm
set_option maxHeartbeats 4000000 in
set_option maxRecDepth 100000 in
theorem c_X9_told {E : Ev} {μ : Mem} {s : Row} (hs : μ 68 = s) {n mk : Nat} {code : PCo} (hI : Inv s n code mk) {w : Int32} : AM E yX9_told cX9_told 2 (some .int) 6 [.ref 67, .int w] μ (fun r μ' => r = some (.int (toldA s code mk n w)) ∧ Same MQr μ μ') := by
  refine am_of (own := RX9) (L := [.ref 67, .int w]) (by decide) rfl (Nat.le_of_ble_eq_true rfl) rfl (fun Γ hR => ?_)
  subst hs
  have hI0 := hI
  obtain ⟨hIL, hIP, hIC, hIS, hIW, hIB, hIT⟩ := hI
  have hn := hIL.1
  have h6 := hIL.2.1
  obtain ⟨cs, hcs, e33, hcc⟩ := hIC
  by_cases e0 : w = 0
  · subst e0
    have hpre : ∀ z : Int32, ¬ (10 ≤ z) → ¬ (30 ≤ z) → toldA (μ 68) code mk n z = (if z = 0 then μ 68 0 else if z = 1 then nI mk else if z = 2 then bitsI (beS (μ 68)) 6 else if z = 3 then bitsI (fun p => !naS (μ 68) p) 6 else if z = 4 then winA (μ 68) code n else -999999) := fun z a b => by rw [toldA, if_neg (fun h => a h.1), if_neg (fun h => b h.1)]
    refine cw_iload_n (pc := 0) dX9_told_0 rfl rfl <|
      cw_tabI (v := 0) (tgt := 36) (pc := 1) dX9_told_1 rfl (by decide) (by decide) rfl (by decide) <|
      cw_aload_n (pc := 36) dX9_told_36 rfl rfl <|
      cw_getR (q := 67) (t := 68) (pc := 37) dX9_told_37 fX9_9 sh_67 (by decide) rfl <|
      cw_iconst (v := 0) (pc := 40) dX9_told_40 (by decide) <|
      cw_ial (q := 68) (jn := 0) (pc := 41) dX9_told_41 sh_68 rfl (by decide) (by decide) <|
      cw_iret (pc := 42) dX9_told_42 hR <|
      ⟨by rw [hpre _ (by decide) (by decide)]; simp, Same.rf⟩
  by_cases e1 : w = 1
  · subst e1
    have hpre : ∀ z : Int32, ¬ (10 ≤ z) → ¬ (30 ≤ z) → toldA (μ 68) code mk n z = (if z = 0 then μ 68 0 else if z = 1 then nI mk else if z = 2 then bitsI (beS (μ 68)) 6 else if z = 3 then bitsI (fun p => !naS (μ 68) p) 6 else if z = 4 then winA (μ 68) code n else -999999) := fun z a b => by rw [toldA, if_neg (fun h => a h.1), if_neg (fun h => b h.1)]
    refine cw_iload_n (pc := 0) dX9_told_0 rfl rfl <|
      cw_tabI (v := 1) (tgt := 43) (pc := 1) dX9_told_1 rfl (by decide) (by decide) rfl (by decide) <|
      cw_aload_n (pc := 43) dX9_told_43 rfl rfl <|
      cw_sipush (v := 238) (pc := 44) dX9_told_44 (by decide) <|
      cw_bipush (v := 30) (pc := 47) dX9_told_47 (by decide) <|
      cw_invI (q := 67) (pc := 49) dX9_told_49 (c_X9_tellsOf_pass hIP) rfl vX9_124 sh_67 (by decide) rfl rfl rfl (by decide) <|
      cw_iret (pc := 52) dX9_told_52 hR <|
      ⟨by rw [hpre _ (by decide) (by decide)]; simp, Same.rf⟩
  by_cases e2 : w = 2
  · subst e2
    have hpre : ∀ z : Int32, ¬ (10 ≤ z) → ¬ (30 ≤ z) → toldA (μ 68) code mk n z = (if z = 0 then μ 68 0 else if z = 1 then nI mk else if z = 2 then bitsI (beS (μ 68)) 6 else if z = 3 then bitsI (fun p => !naS (μ 68) p) 6 else if z = 4 then winA (μ 68) code n else -999999) := fun z a b => by rw [toldA, if_neg (fun h => a h.1), if_neg (fun h => b h.1)]
    refine cw_iload_n (pc := 0) dX9_told_0 rfl rfl <|
      cw_tabI (v := 2) (tgt := 53) (pc := 1) dX9_told_1 rfl (by decide) (by decide) rfl (by decide) <|
      cw_aload_n (pc := 53) dX9_told_53 rfl rfl <|
      cw_iconst (v := 1) (pc := 54) dX9_told_54 (by decide) <|
      cw_invI (q := 67) (pc := 55) dX9_told_55 (c_X9_bitsOf rfl hn h6 (j := 1) (f := beS (μ 68)) (by decide) (fun p hp => be_01 hIL (by omega))) rfl vX9_172 sh_67 (by decide) rfl rfl rfl (by decide) <|
      cw_iret (pc := 58) dX9_told_58 hR <|
      ⟨by rw [hpre _ (by decide) (by decide), be_n6 hIL]; simp, Same.rf⟩
  by_cases e3 : w = 3
  · subst e3
    have hpre : ∀ z : Int32, ¬ (10 ≤ z) → ¬ (30 ≤ z) → toldA (μ 68) code mk n z = (if z = 0 then μ 68 0 else if z = 1 then nI mk else if z = 2 then bitsI (beS (μ 68)) 6 else if z = 3 then bitsI (fun p => !naS (μ 68) p) 6 else if z = 4 then winA (μ 68) code n else -999999) := fun z a b => by rw [toldA, if_neg (fun h => a h.1), if_neg (fun h => b h.1)]
    refine cw_iload_n (pc := 0) dX9_told_0 rfl rfl <|
      cw_tabI (v := 3) (tgt := 59) (pc := 1) dX9_told_1 rfl (by decide) (by decide) rfl (by decide) <|
      cw_aload_n (pc := 59) dX9_told_59 rfl rfl <|
      cw_bipush (v := 7) (pc := 60) dX9_told_60 (by decide) <|
      cw_invI (q := 67) (pc := 62) dX9_told_62 (c_X9_bitsOf rfl hn h6 (j := 7) (f := fun p => !naS (μ 68) p) (by decide) (fun p hp => aw_01 hIL (by omega))) rfl vX9_172 sh_67 (by decide) rfl rfl rfl (by decide) <|
      cw_iret (pc := 65) dX9_told_65 hR <|
      ⟨by rw [hpre _ (by decide) (by decide), aw_n6 hIL]; simp, Same.rf⟩
  by_cases e4 : w = 4
  · subst e4
    have hpre : ∀ z : Int32, ¬ (10 ≤ z) → ¬ (30 ≤ z) → toldA (μ 68) code mk n z = (if z = 0 then μ 68 0 else if z = 1 then nI mk else if z = 2 then bitsI (beS (μ 68)) 6 else if z = 3 then bitsI (fun p => !naS (μ 68) p) 6 else if z = 4 then winA (μ 68) code n else -999999) := fun z a b => by rw [toldA, if_neg (fun h => a h.1), if_neg (fun h => b h.1)]
    refine cw_iload_n (pc := 0) dX9_told_0 rfl rfl <|
      cw_tabI (v := 4) (tgt := 66) (pc := 1) dX9_told_1 rfl (by decide) (by decide) rfl (by decide) <|
      cw_aload_n (pc := 66) dX9_told_66 rfl rfl <|
      cw_invP (q := 67) (pc := 67) dX9_told_67 (c_X9_bestOne rfl hIP hIL) rfl vX9_175 sh_67 (by decide) rfl rfl rfl (by decide) <|
      ?_
    rintro _ m2 ⟨rfl, s2⟩
    refine cw_iret (pc := 70) dX9_told_70 hR <|
      ⟨by rw [hpre _ (by decide) (by decide)]; simp, MS_MQ s2⟩
  have s10 := sub_rng (w := w) (A := 10) (B := 12) (by decide) (by decide)
  have s30 := sub_rng (w := w) (A := 30) (B := cs) (by decide) (by omega)
  rw [← e33] at s30
  have h30 : (0 ≤ w - 30 ∧ w - 30 < μ 68 33) ↔ (30 ≤ w ∧ w < 30 + μ 68 33) := by rw [show (30 : Int32) + μ 68 33 = nI (30 + cs) by rw [e33]; exact nI_add 30 cs]; exact s30
  by_cases h1 : 10 ≤ w ∧ w < 22
  · obtain ⟨x, hx, rfl⟩ := rng (A := 10) (B := 22) (by decide) (by decide) h1.1 h1.2
    have en : nN (nI (10 + x)) - 10 = x := by rw [nN_nI (by omega)]; omega
    refine cw_iload_n (pc := 0) dX9_told_0 rfl rfl <|
      cw_tabD (tgt := 71) (pc := 1) dX9_told_1 (by have a0 := lv_neT (a := 0) e0 rfl; have a1 := lv_neT (a := 1) e1 rfl; have a2 := lv_neT (a := 2) e2 rfl; have a3 := lv_neT (a := 3) e3 rfl; have a4 := lv_neT (a := 4) e4 rfl; omega) (by decide) <|
      cw_iload_n (pc := 71) dX9_told_71 rfl rfl <|
      cw_bipush (v := 10) (pc := 72) dX9_told_72 (by decide) <|
      cw_isub (pc := 74) dX9_told_74 <|
      cw_insI (pc := 75) dX9_told_75 c_X9_isStep vX9_169 rfl rfl rfl (by decide) <|
      cw_if_eq_F (tgt := 96) (pc := 78) dX9_told_78 (by decide) (bI_n0.mpr (s10.mpr h1)) <|
      cw_aload_n (pc := 81) dX9_told_81 rfl rfl <|
      cw_getR (q := 67) (t := 68) (pc := 82) dX9_told_82 fX9_9 sh_67 (by decide) rfl <|
      cw_bipush (v := 19) (pc := 85) dX9_told_85 (by decide) <|
      cw_iload_n (pc := 87) dX9_told_87 rfl rfl <|
      cw_iadd (pc := 88) dX9_told_88 <|
      cw_bipush (v := 10) (pc := 89) dX9_told_89 (by decide) <|
      cw_isub (pc := 91) dX9_told_91 <|
      cw_ial (q := 68) (jn := (19 + x)) (pc := 92) dX9_told_92 sh_68 (nx_sub (a := 29 + x) (b := 10) (by rw [show (29 + x) = 19 + (10 + x) by omega]; exact nI_add 19 (10 + x)) rfl (by omega)) (by omega) (by decide) <|
      cw_goto (tgt := 120) (pc := 93) dX9_told_93 (by decide) <|
      cw_iret (pc := 120) dX9_told_120 hR <|
      ⟨by rw [toldA, if_pos h1, en], Same.rf⟩
  · by_cases h2 : 30 ≤ w ∧ w < 30 + μ 68 33
    · have h2' : w < nI (30 + cs) := by have := h2.2; rw [e33, show (30 : Int32) + nI cs = nI (30 + cs) from nI_add 30 cs] at this; exact this
      obtain ⟨y, hy, rfl⟩ := rng (A := 30) (B := 30 + cs) (by omega) (by decide) h2.1 h2'
      have en : nN (nI (30 + y)) - 30 = y := by rw [nN_nI (by omega)]; omega
      have es : nI (30 + y) - 30 = nI y := nx_sub (b := 30) rfl rfl (by omega)
      obtain ⟨⟨a, ha, ea⟩, b, hb, eb⟩ := hcc y (by omega)
      refine cw_iload_n (pc := 0) dX9_told_0 rfl rfl <|
        cw_tabD (tgt := 71) (pc := 1) dX9_told_1 (by have a0 := lv_neT (a := 0) e0 rfl; have a1 := lv_neT (a := 1) e1 rfl; have a2 := lv_neT (a := 2) e2 rfl; have a3 := lv_neT (a := 3) e3 rfl; have a4 := lv_neT (a := 4) e4 rfl; omega) (by decide) <|
        cw_iload_n (pc := 71) dX9_told_71 rfl rfl <|
        cw_bipush (v := 10) (pc := 72) dX9_told_72 (by decide) <|
        cw_isub (pc := 74) dX9_told_74 <|
        cw_insI (pc := 75) dX9_told_75 c_X9_isStep vX9_169 rfl rfl rfl (by decide) <|
        cw_if_eq_T (tgt := 96) (pc := 78) dX9_told_78 (by decide) (bI_0.mpr (fun h => h1 (s10.mp h))) <|
        cw_aload_n (pc := 96) dX9_told_96 rfl rfl <|
        cw_iload_n (pc := 97) dX9_told_97 rfl rfl <|
        cw_bipush (v := 30) (pc := 98) dX9_told_98 (by decide) <|
        cw_isub (pc := 100) dX9_told_100 <|
        cw_invI (q := 67) (pc := 101) dX9_told_101 (c_X9_isCase e33 hcs) rfl vX9_178 sh_67 (by decide) rfl rfl rfl (by decide) <|
        cw_if_eq_F (tgt := 118) (pc := 104) dX9_told_104 (by decide) (bI_n0.mpr (h30.mpr h2)) <|
        cw_aload_n (pc := 107) dX9_told_107 rfl rfl <|
        cw_iload_n (pc := 108) dX9_told_108 rfl rfl <|
        cw_bipush (v := 30) (pc := 109) dX9_told_109 (by decide) <|
        cw_isub (pc := 111) dX9_told_111 <|
        ?_
      rw [es]
      refine cw_invI (q := 67) (pc := 112) dX9_told_112 (c_X9_decided rfl (c := y) (by omega) ea eb (by omega) (by omega) (hIL.2.2.2.1 a (by omega)).1 (hIL.2.2.2.1 b (by omega)).1) rfl vX9_181 sh_67 (by decide) rfl rfl rfl (by decide) <|
        cw_goto (tgt := 120) (pc := 115) dX9_told_115 (by decide) <|
        cw_iret (pc := 120) dX9_told_120 hR <|
        ⟨by rw [toldA, if_neg h1, if_pos h2, en], Same.rf⟩
    · refine cw_iload_n (pc := 0) dX9_told_0 rfl rfl <|
        cw_tabD (tgt := 71) (pc := 1) dX9_told_1 (by have a0 := lv_neT (a := 0) e0 rfl; have a1 := lv_neT (a := 1) e1 rfl; have a2 := lv_neT (a := 2) e2 rfl; have a3 := lv_neT (a := 3) e3 rfl; have a4 := lv_neT (a := 4) e4 rfl; omega) (by decide) <|
        cw_iload_n (pc := 71) dX9_told_71 rfl rfl <|
        cw_bipush (v := 10) (pc := 72) dX9_told_72 (by decide) <|
        cw_isub (pc := 74) dX9_told_74 <|
        cw_insI (pc := 75) dX9_told_75 c_X9_isStep vX9_169 rfl rfl rfl (by decide) <|
        cw_if_eq_T (tgt := 96) (pc := 78) dX9_told_78 (by decide) (bI_0.mpr (fun h => h1 (s10.mp h))) <|
        cw_aload_n (pc := 96) dX9_told_96 rfl rfl <|
        cw_iload_n (pc := 97) dX9_told_97 rfl rfl <|
        cw_bipush (v := 30) (pc := 98) dX9_told_98 (by decide) <|
        cw_isub (pc := 100) dX9_told_100 <|
        cw_invI (q := 67) (pc := 101) dX9_told_101 (c_X9_isCase e33 hcs) rfl vX9_178 sh_67 (by decide) rfl rfl rfl (by decide) <|
        cw_if_eq_T (tgt := 118) (pc := 104) dX9_told_104 (by decide) (bI_0.mpr (fun h => h2 (h30.mp h))) <|
        cw_ldc (pc := 118) dX9_told_118 kX9_165 <|
        cw_iret (pc := 120) dX9_told_120 hR <|
        ⟨by rw [toldA, if_neg h1, if_neg h2]; simp [e0, e1, e2, e3, e4], Same.rf⟩
set_option maxHeartbeats 4000000 in
set_option maxRecDepth 100000 in
theorem c_X9_see {E : Ev} {μ : Mem} {s : Row} (hs : μ 68 = s) {n mk : Nat} {code : PCo} (hI : Inv s n code mk) {x t l : Int32} : AM E yX9_see cX9_see 4 (some .int) 2 [.ref 67, .int x, .int t, .int l] μ (fun r μ' => r = some (.int (seeA s x t l)) ∧ μ' 68 = seeR s x t l ∧ Same MM μ μ') := by
  refine am_of (own := RX9) (L := [.ref 67, .int x, .int t, .int l]) (by decide) rfl (Nat.le_of_ble_eq_true rfl) rfl (fun Γ hR => ?_)
  subst hs
  have hI0 := hI
  obtain ⟨hIL, hIP, hIC, hIS, hIW, hIB, hIT⟩ := hI
  have hn := hIL.1
  have h6 := hIL.2.1
  obtain ⟨k, hk, e34, -⟩ := hIS
  have hfl := full_iff (m := 5) e34 hk (by decide)
  have hnk : nN (μ 68 34) = k := by rw [e34]; exact nN_nI (by omega)
  by_cases h0 : x = -1
  · refine cw_iload_n (pc := 0) dX9_see_0 rfl rfl <|
      cw_iconst (v := -1) (pc := 1) dX9_see_1 (by decide) <|
      cw_icmp_ne_F (tgt := 15) (pc := 2) dX9_see_2 (by decide) h0 <|
      cw_aload_n (pc := 5) dX9_see_5 rfl rfl <|
      cw_getR (q := 67) (t := 68) (pc := 6) dX9_see_6 fX9_9 sh_67 (by decide) rfl <|
      cw_bipush (v := 34) (pc := 9) dX9_see_9 (by decide) <|
      cw_iconst (v := 0) (pc := 11) dX9_see_11 (by decide) <|
      cw_ias (q := 68) (jn := 34) (pc := 12) dX9_see_12 sh_68 rfl (by decide) (by decide) <|
      cw_iconst (v := 0) (pc := 13) dX9_see_13 (by decide) <|
      cw_iret (pc := 14) dX9_see_14 hR <|
      ⟨by rw [seeA, if_pos h0], by rw [seeR, if_pos h0]; exact st_row _ _ _ _, by first | exact Same.rf | (repeat (refine Same.s1 ?_ (by unfold MM; omega))); exact Same.rf⟩
  · by_cases hx : 0 ≤ x ∧ x < μ 68 31
    · by_cases ht : 0 ≤ t ∧ t ≤ 12
      · by_cases hl : 0 ≤ l ∧ l < 9
        · by_cases hf : μ 68 34 = 5
          · refine cw_iload_n (pc := 0) dX9_see_0 rfl rfl <|
              cw_iconst (v := -1) (pc := 1) dX9_see_1 (by decide) <|
              cw_icmp_ne_T (tgt := 15) (pc := 2) dX9_see_2 (by decide) h0 <|
              cw_aload_n (pc := 15) dX9_see_15 rfl rfl <|
              cw_iload_n (pc := 16) dX9_see_16 rfl rfl <|
              cw_invI (q := 67) (pc := 17) dX9_see_17 (c_X9_isMan hn h6) rfl vX9_162 sh_67 (by decide) rfl rfl rfl (by decide) <|
              cw_if_eq_F (tgt := 40) (pc := 20) dX9_see_20 (by decide) (bI_n0.mpr hx) <|
              cw_iload_n (pc := 23) dX9_see_23 rfl rfl <|
              cw_iconst (v := 0) (pc := 24) dX9_see_24 (by decide) <|
              cw_bipush (v := 12) (pc := 25) dX9_see_25 (by decide) <|
              cw_insI (pc := 27) dX9_see_27 c_X9_in vX9_44 rfl rfl rfl (by decide) <|
              cw_if_eq_F (tgt := 40) (pc := 30) dX9_see_30 (by decide) (bI_n0.mpr ht) <|
              cw_iload_n (pc := 33) dX9_see_33 rfl rfl <|
              cw_insI (pc := 34) dX9_see_34 c_X9_isLane vX9_158 rfl rfl rfl (by decide) <|
              cw_if_ne_T (tgt := 42) (pc := 37) dX9_see_37 (by decide) (bI_n0.mpr hl) <|
              cw_aload_n (pc := 42) dX9_see_42 rfl rfl <|
              cw_getR (q := 67) (t := 68) (pc := 43) dX9_see_43 fX9_9 sh_67 (by decide) rfl <|
              cw_bipush (v := 34) (pc := 46) dX9_see_46 (by decide) <|
              cw_ial (q := 68) (jn := 34) (pc := 48) dX9_see_48 sh_68 rfl (by decide) (by decide) <|
              cw_iconst (v := 5) (pc := 49) dX9_see_49 (by decide) <|
              cw_icmp_ne_F (tgt := 56) (pc := 50) dX9_see_50 (by decide) hf <|
              cw_bipush (v := -4) (pc := 53) dX9_see_53 (by decide) <|
              cw_iret (pc := 55) dX9_see_55 hR <|
              ⟨by rw [seeA, if_neg h0, if_pos ⟨hx, ht, hl⟩, if_pos hf], by rw [seeR, if_neg h0, if_neg (fun h => h.2 hf)], Same.rf⟩
          · have hk2 := hfl.mp hf
            have r1 : (st μ 68 (91 + k) x) 68 34 = nI k := (st_at.trans (if_neg (by omega))).trans e34
            have r2 : (st (st μ 68 (91 + k) x) 68 (96 + k) t) 68 34 = nI k := (st_at.trans (if_neg (by omega))).trans r1
            have r3 : (st (st (st μ 68 (91 + k) x) 68 (96 + k) t) 68 (101 + k) l) 68 34 = nI k := (st_at.trans (if_neg (by omega))).trans r2
            refine cw_iload_n (pc := 0) dX9_see_0 rfl rfl <|
              cw_iconst (v := -1) (pc := 1) dX9_see_1 (by decide) <|
              cw_icmp_ne_T (tgt := 15) (pc := 2) dX9_see_2 (by decide) h0 <|
              cw_aload_n (pc := 15) dX9_see_15 rfl rfl <|
              cw_iload_n (pc := 16) dX9_see_16 rfl rfl <|
              cw_invI (q := 67) (pc := 17) dX9_see_17 (c_X9_isMan hn h6) rfl vX9_162 sh_67 (by decide) rfl rfl rfl (by decide) <|
              cw_if_eq_F (tgt := 40) (pc := 20) dX9_see_20 (by decide) (bI_n0.mpr hx) <|
              cw_iload_n (pc := 23) dX9_see_23 rfl rfl <|
              cw_iconst (v := 0) (pc := 24) dX9_see_24 (by decide) <|
              cw_bipush (v := 12) (pc := 25) dX9_see_25 (by decide) <|
              cw_insI (pc := 27) dX9_see_27 c_X9_in vX9_44 rfl rfl rfl (by decide) <|
              cw_if_eq_F (tgt := 40) (pc := 30) dX9_see_30 (by decide) (bI_n0.mpr ht) <|
              cw_iload_n (pc := 33) dX9_see_33 rfl rfl <|
              cw_insI (pc := 34) dX9_see_34 c_X9_isLane vX9_158 rfl rfl rfl (by decide) <|
              cw_if_ne_T (tgt := 42) (pc := 37) dX9_see_37 (by decide) (bI_n0.mpr hl) <|
              cw_aload_n (pc := 42) dX9_see_42 rfl rfl <|
              cw_getR (q := 67) (t := 68) (pc := 43) dX9_see_43 fX9_9 sh_67 (by decide) rfl <|
              cw_bipush (v := 34) (pc := 46) dX9_see_46 (by decide) <|
              cw_ial (q := 68) (jn := 34) (pc := 48) dX9_see_48 sh_68 rfl (by decide) (by decide) <|
              cw_iconst (v := 5) (pc := 49) dX9_see_49 (by decide) <|
              cw_icmp_ne_T (tgt := 56) (pc := 50) dX9_see_50 (by decide) hf <|
              cw_aload_n (pc := 56) dX9_see_56 rfl rfl <|
              cw_getR (q := 67) (t := 68) (pc := 57) dX9_see_57 fX9_9 sh_67 (by decide) rfl <|
              cw_bipush (v := 91) (pc := 60) dX9_see_60 (by decide) <|
              cw_aload_n (pc := 62) dX9_see_62 rfl rfl <|
              cw_getR (q := 67) (t := 68) (pc := 63) dX9_see_63 fX9_9 sh_67 (by decide) rfl <|
              cw_bipush (v := 34) (pc := 66) dX9_see_66 (by decide) <|
              cw_ial (q := 68) (jn := 34) (pc := 68) dX9_see_68 sh_68 rfl (by decide) (by decide) <|
              ?_
            rw [e34]
            refine cw_iadd (pc := 69) dX9_see_69 <|
              cw_iload_n (pc := 70) dX9_see_70 rfl rfl <|
              cw_ias (q := 68) (jn := (91 + k)) (pc := 71) dX9_see_71 sh_68 (nx_add rfl rfl) (by omega) (by decide) <|
              cw_aload_n (pc := 72) dX9_see_72 rfl rfl <|
              cw_getR (q := 67) (t := 68) (pc := 73) dX9_see_73 fX9_9 sh_67 (by decide) rfl <|
              cw_bipush (v := 96) (pc := 76) dX9_see_76 (by decide) <|
              cw_aload_n (pc := 78) dX9_see_78 rfl rfl <|
              cw_getR (q := 67) (t := 68) (pc := 79) dX9_see_79 fX9_9 sh_67 (by decide) rfl <|
              cw_bipush (v := 34) (pc := 82) dX9_see_82 (by decide) <|
              cw_ial (q := 68) (jn := 34) (pc := 84) dX9_see_84 sh_68 rfl (by decide) (by decide) <|
              ?_
            rw [r1]
            refine cw_iadd (pc := 85) dX9_see_85 <|
              cw_iload_n (pc := 86) dX9_see_86 rfl rfl <|
              cw_ias (q := 68) (jn := (96 + k)) (pc := 87) dX9_see_87 sh_68 (nx_add rfl rfl) (by omega) (by decide) <|
              cw_aload_n (pc := 88) dX9_see_88 rfl rfl <|
              cw_getR (q := 67) (t := 68) (pc := 89) dX9_see_89 fX9_9 sh_67 (by decide) rfl <|
              cw_bipush (v := 101) (pc := 92) dX9_see_92 (by decide) <|
              cw_aload_n (pc := 94) dX9_see_94 rfl rfl <|
              cw_getR (q := 67) (t := 68) (pc := 95) dX9_see_95 fX9_9 sh_67 (by decide) rfl <|
              cw_bipush (v := 34) (pc := 98) dX9_see_98 (by decide) <|
              cw_ial (q := 68) (jn := 34) (pc := 100) dX9_see_100 sh_68 rfl (by decide) (by decide) <|
              ?_
            rw [r2]
            refine cw_iadd (pc := 101) dX9_see_101 <|
              cw_iload_n (pc := 102) dX9_see_102 rfl rfl <|
              cw_ias (q := 68) (jn := (101 + k)) (pc := 103) dX9_see_103 sh_68 (nx_add rfl rfl) (by omega) (by decide) <|
              cw_aload_n (pc := 104) dX9_see_104 rfl rfl <|
              cw_getR (q := 67) (t := 68) (pc := 105) dX9_see_105 fX9_9 sh_67 (by decide) rfl <|
              cw_bipush (v := 34) (pc := 108) dX9_see_108 (by decide) <|
              cw_dup2 (pc := 110) dX9_see_110 rfl rfl <|
              cw_ial (q := 68) (jn := 34) (pc := 111) dX9_see_111 sh_68 rfl (by decide) (by decide) <|
              ?_
            rw [r3]
            refine cw_iconst (v := 1) (pc := 112) dX9_see_112 (by decide) <|
              cw_iadd (pc := 113) dX9_see_113 <|
              cw_ias (q := 68) (jn := 34) (pc := 114) dX9_see_114 sh_68 rfl (by decide) (by decide) <|
              cw_aload_n (pc := 115) dX9_see_115 rfl rfl <|
              cw_getR (q := 67) (t := 68) (pc := 116) dX9_see_116 fX9_9 sh_67 (by decide) rfl <|
              cw_bipush (v := 34) (pc := 119) dX9_see_119 (by decide) <|
              cw_ial (q := 68) (jn := 34) (pc := 121) dX9_see_121 sh_68 rfl (by decide) (by decide) <|
              ?_
            rw [st_eq]
            refine cw_iret (pc := 122) dX9_see_122 hR <|
              ⟨by rw [seeA, if_neg h0, if_pos ⟨hx, ht, hl⟩, if_neg hf, e34], by rw [seeR, if_neg h0, if_pos ⟨⟨hx, ht, hl⟩, hf⟩, hnk, st_row, st_row, st_row, st_row, e34], by first | exact Same.rf | (repeat (refine Same.s1 ?_ (by unfold MM; omega))); exact Same.rf⟩
        · refine cw_iload_n (pc := 0) dX9_see_0 rfl rfl <|
            cw_iconst (v := -1) (pc := 1) dX9_see_1 (by decide) <|
            cw_icmp_ne_T (tgt := 15) (pc := 2) dX9_see_2 (by decide) h0 <|
            cw_aload_n (pc := 15) dX9_see_15 rfl rfl <|
            cw_iload_n (pc := 16) dX9_see_16 rfl rfl <|
            cw_invI (q := 67) (pc := 17) dX9_see_17 (c_X9_isMan hn h6) rfl vX9_162 sh_67 (by decide) rfl rfl rfl (by decide) <|
            cw_if_eq_F (tgt := 40) (pc := 20) dX9_see_20 (by decide) (bI_n0.mpr hx) <|
            cw_iload_n (pc := 23) dX9_see_23 rfl rfl <|
            cw_iconst (v := 0) (pc := 24) dX9_see_24 (by decide) <|
            cw_bipush (v := 12) (pc := 25) dX9_see_25 (by decide) <|
            cw_insI (pc := 27) dX9_see_27 c_X9_in vX9_44 rfl rfl rfl (by decide) <|
            cw_if_eq_F (tgt := 40) (pc := 30) dX9_see_30 (by decide) (bI_n0.mpr ht) <|
            cw_iload_n (pc := 33) dX9_see_33 rfl rfl <|
            cw_insI (pc := 34) dX9_see_34 c_X9_isLane vX9_158 rfl rfl rfl (by decide) <|
            cw_if_ne_F (tgt := 42) (pc := 37) dX9_see_37 (by decide) (bI_0.mpr hl) <|
            cw_iconst (v := -1) (pc := 40) dX9_see_40 (by decide) <|
            cw_iret (pc := 41) dX9_see_41 hR <|
            ⟨by rw [seeA, if_neg h0, if_neg (fun h => hl h.2.2)], by rw [seeR, if_neg h0, if_neg (fun h => hl h.1.2.2)], Same.rf⟩
      · refine cw_iload_n (pc := 0) dX9_see_0 rfl rfl <|
          cw_iconst (v := -1) (pc := 1) dX9_see_1 (by decide) <|
          cw_icmp_ne_T (tgt := 15) (pc := 2) dX9_see_2 (by decide) h0 <|
          cw_aload_n (pc := 15) dX9_see_15 rfl rfl <|
          cw_iload_n (pc := 16) dX9_see_16 rfl rfl <|
          cw_invI (q := 67) (pc := 17) dX9_see_17 (c_X9_isMan hn h6) rfl vX9_162 sh_67 (by decide) rfl rfl rfl (by decide) <|
          cw_if_eq_F (tgt := 40) (pc := 20) dX9_see_20 (by decide) (bI_n0.mpr hx) <|
          cw_iload_n (pc := 23) dX9_see_23 rfl rfl <|
          cw_iconst (v := 0) (pc := 24) dX9_see_24 (by decide) <|
          cw_bipush (v := 12) (pc := 25) dX9_see_25 (by decide) <|
          cw_insI (pc := 27) dX9_see_27 c_X9_in vX9_44 rfl rfl rfl (by decide) <|
          cw_if_eq_T (tgt := 40) (pc := 30) dX9_see_30 (by decide) (bI_0.mpr ht) <|
          cw_iconst (v := -1) (pc := 40) dX9_see_40 (by decide) <|
          cw_iret (pc := 41) dX9_see_41 hR <|
          ⟨by rw [seeA, if_neg h0, if_neg (fun h => ht h.2.1)], by rw [seeR, if_neg h0, if_neg (fun h => ht h.1.2.1)], Same.rf⟩
    · refine cw_iload_n (pc := 0) dX9_see_0 rfl rfl <|
        cw_iconst (v := -1) (pc := 1) dX9_see_1 (by decide) <|
        cw_icmp_ne_T (tgt := 15) (pc := 2) dX9_see_2 (by decide) h0 <|
        cw_aload_n (pc := 15) dX9_see_15 rfl rfl <|
        cw_iload_n (pc := 16) dX9_see_16 rfl rfl <|
        cw_invI (q := 67) (pc := 17) dX9_see_17 (c_X9_isMan hn h6) rfl vX9_162 sh_67 (by decide) rfl rfl rfl (by decide) <|
        cw_if_eq_T (tgt := 40) (pc := 20) dX9_see_20 (by decide) (bI_0.mpr hx) <|
        cw_iconst (v := -1) (pc := 40) dX9_see_40 (by decide) <|
        cw_iret (pc := 41) dX9_see_41 hR <|
        ⟨by rw [seeA, if_neg h0, if_neg (fun h => hx h.1)], by rw [seeR, if_neg h0, if_neg (fun h => hx h.1.1)], Same.rf⟩
def capS (r : Row) (i : Nat) : Row := fun j => if 13 ≤ j ∧ j < 13 + i then nI (min 9999 (nN (r j))) else r j
theorem capS_0 (r : Row) : capS r 0 = r := funext fun j => if_neg (by omega)
theorem capS_o {r : Row} {i j : Nat} (h : ¬ (13 ≤ j ∧ j < 13 + i)) : capS r i j = r j := if_neg h
theorem capS_s (r : Row) (i : Nat) : upd (capS r i) (13 + i) (nI (min 9999 (nN (r (13 + i))))) = capS r (i + 1) := by
  funext j
  by_cases e : j = 13 + i
  · subst e; rw [us]; unfold capS; rw [if_pos (by omega)]
  · rw [un e]
    unfold capS
    by_cases h : 13 ≤ j ∧ j < 13 + i
    · rw [if_pos h, if_pos (by omega)]
    · rw [if_neg h, if_neg (by omega)]
theorem capS_n {r : Row} {n Y M : Nat} (hi : InvL r n Y M) : capS r n = capR 9999 r := by
  funext j
  have h6 := hi.2.1
  unfold capS capR
  by_cases h : 13 ≤ j ∧ j < 13 + n
  · rw [if_pos h, if_pos (by omega)]
  · rw [if_neg h]
    by_cases h2 : 13 ≤ j ∧ j ≤ 18
    · rw [if_pos h2]
      have := (hi.2.2.2.2.1 (j - 13) (by omega) (by omega)).2.2.1
      rw [show 13 + (j - 13) = j by omega] at this
      rw [this]; rfl
    · rw [if_neg h2]
set_option maxHeartbeats 4000000 in
set_option maxRecDepth 100000 in
theorem c_X9_pass {E : Ev} {μ : Mem} {s : Row} (hs : μ 68 = s) {n mk : Nat} {code : PCo} (hI : Inv s n code mk) {x : Int32} : AM E yX9_pass cX9_pass 3 (some .int) 8 [.ref 67, .int x] μ (fun r μ' => r = some (.int (passA s x)) ∧ μ' 68 = passR s code mk n x ∧ Same MM μ μ') := by
  refine am_of (own := RX9) (L := [.ref 67, .int x, .null]) (by decide) rfl (Nat.le_of_ble_eq_true rfl) rfl (fun Γ hR => ?_)
  subst hs
  have hI0 := hI
  obtain ⟨hIL, hIP, hIC, hIS, hIW, hIB, hIT⟩ := hI
  have hn := hIL.1
  have h6 := hIL.2.1
  obtain ⟨y, hy, ey⟩ := hIL.2.2.1
  by_cases hx : 0 ≤ x ∧ x ≤ 60
  · obtain ⟨k, hk, rfl⟩ := ix_of (n := 61) (by decide) ⟨hx.1, Int32.lt_of_le_of_lt hx.2 (by decide)⟩
    by_cases hf : 9999 < μ 68 0 + nI k
    · refine cw_iload_n (pc := 0) dX9_pass_0 rfl rfl <|
        cw_iconst (v := 0) (pc := 1) dX9_pass_1 (by decide) <|
        cw_bipush (v := 60) (pc := 2) dX9_pass_2 (by decide) <|
        cw_insI (pc := 4) dX9_pass_4 c_X9_in vX9_44 rfl rfl rfl (by decide) <|
        cw_if_ne_T (tgt := 13) (pc := 7) dX9_pass_7 (by decide) (bI_n0.mpr hx) <|
        cw_aload_n (pc := 13) dX9_pass_13 rfl rfl <|
        cw_getR (q := 67) (t := 68) (pc := 14) dX9_pass_14 fX9_9 sh_67 (by decide) rfl <|
        cw_iconst (v := 0) (pc := 17) dX9_pass_17 (by decide) <|
        cw_ial (q := 68) (jn := 0) (pc := 18) dX9_pass_18 sh_68 rfl (by decide) (by decide) <|
        cw_iload_n (pc := 19) dX9_pass_19 rfl rfl <|
        cw_iadd (pc := 20) dX9_pass_20 <|
        cw_sipush (v := 9999) (pc := 21) dX9_pass_21 (by decide) <|
        cw_icmp_le_F (tgt := 30) (pc := 24) dX9_pass_24 (by decide) (Int32.not_le.mpr hf) <|
        cw_bipush (v := -3) (pc := 27) dX9_pass_27 (by decide) <|
        cw_iret (pc := 29) dX9_pass_29 hR <|
        ⟨by rw [passA, if_pos hx, if_pos hf], by rw [passR, if_neg (fun h => h.2 hf)], Same.rf⟩
    · have hk' : nN (nI k) = k := nN_nI (by omega)
      refine cw_iload_n (pc := 0) dX9_pass_0 rfl rfl <|
        cw_iconst (v := 0) (pc := 1) dX9_pass_1 (by decide) <|
        cw_bipush (v := 60) (pc := 2) dX9_pass_2 (by decide) <|
        cw_insI (pc := 4) dX9_pass_4 c_X9_in vX9_44 rfl rfl rfl (by decide) <|
        cw_if_ne_T (tgt := 13) (pc := 7) dX9_pass_7 (by decide) (bI_n0.mpr hx) <|
        cw_aload_n (pc := 13) dX9_pass_13 rfl rfl <|
        cw_getR (q := 67) (t := 68) (pc := 14) dX9_pass_14 fX9_9 sh_67 (by decide) rfl <|
        cw_iconst (v := 0) (pc := 17) dX9_pass_17 (by decide) <|
        cw_ial (q := 68) (jn := 0) (pc := 18) dX9_pass_18 sh_68 rfl (by decide) (by decide) <|
        cw_iload_n (pc := 19) dX9_pass_19 rfl rfl <|
        cw_iadd (pc := 20) dX9_pass_20 <|
        cw_sipush (v := 9999) (pc := 21) dX9_pass_21 (by decide) <|
        cw_icmp_le_T (tgt := 30) (pc := 24) dX9_pass_24 (by decide) (Int32.not_lt.mp hf) <|
        cw_aload_n (pc := 30) dX9_pass_30 rfl rfl <|
        cw_iload_n (pc := 31) dX9_pass_31 rfl rfl <|
        cw_invP (q := 67) (pc := 32) dX9_pass_32 (c_X9_goesOn rfl hIP hIL (k := k) (by omega) (by decide) (by decide)) rfl vX9_187 sh_67 (by decide) rfl rfl rfl (by decide) <|
        ?_
      rintro _ m1 ⟨rfl, e1, s1⟩
      have hi1 := hIL.evo (code := code) (mk := nI mk) k (by omega) (by omega)
      rw [← e1] at hi1
      refine cw_iconst (v := 0) (pc := 35) dX9_pass_35 (by decide) <|
        cw_istore_n (L' := [_, _, _]) (pc := 36) dX9_pass_36 rfl (by decide) rfl rfl <|
        ?_
      refine cw_for (σ := Unit) n (fun i _ m => m 68 = capS (m1 68) i ∧ Same MG m1 m) (fun i _ => [.ref 67, .int (nI k), .int (nI i)]) ?_ ?_ 0 () _ (Nat.zero_le _) ⟨(capS_0 _).symm, Same.rf⟩
      · rintro ⟨⟩ m ⟨hm, hS⟩
        have m31 : m 68 31 = nI n := by rw [hm, capS_o (by omega)]; exact hi1.1
        have m0 : m 68 0 = μ 68 0 + nI k := by rw [hm, capS_o (by omega), e1, evo_y, ey, nN_nI (by omega), nI_add]
        refine cw_iload_n (pc := 37) dX9_pass_37 rfl rfl <|
          cw_aload_n (pc := 38) dX9_pass_38 rfl rfl <|
          cw_getR (q := 67) (t := 68) (pc := 39) dX9_pass_39 fX9_9 sh_67 (by decide) rfl <|
          cw_bipush (v := 31) (pc := 42) dX9_pass_42 (by decide) <|
          cw_ial (q := 68) (jn := 31) (pc := 44) dX9_pass_44 sh_68 rfl (by decide) (by decide) <|
          ?_
        rw [m31]
        refine cw_icmp_ge_T (tgt := 93) (pc := 45) dX9_pass_45 (by decide) (Int32.le_refl _) <|
          cw_aload_n (pc := 93) dX9_pass_93 rfl rfl <|
          cw_getR (q := 67) (t := 68) (pc := 94) dX9_pass_94 fX9_9 sh_67 (by decide) rfl <|
          cw_iconst (v := 0) (pc := 97) dX9_pass_97 (by decide) <|
          cw_ial (q := 68) (jn := 0) (pc := 98) dX9_pass_98 sh_68 rfl (by decide) (by decide) <|
          ?_
        rw [m0]
        refine cw_iret (pc := 99) dX9_pass_99 hR <|
          ⟨by rw [passA, if_pos hx, if_neg hf], by rw [passR, if_pos ⟨hx, hf⟩, hk', hm, capS_n hi1, e1], MG_MM (s1.tr hS)⟩
      · rintro i ⟨⟩ m hin ⟨hm, hS⟩ ih
        have m31 : m 68 31 = nI n := by rw [hm, capS_o (by omega)]; exact hi1.1
        obtain ⟨w, hw, ew⟩ := hi1.2.2.2.2.2.1 i (by omega)
        have mw : m 68 (13 + i) = nI w := by rw [hm, capS_o (by omega)]; exact ew
        have nw : nN (m1 68 (13 + i)) = w := by rw [ew]; exact nN_nI (by omega)
        have nxt : ∀ v, v = nI (min 9999 w) → CW E Γ cX9_pass 3 RX9 8 37 [.ref 67, .int (nI k), .int (nI (i + 1))] [] (st m 68 (13 + i) v) := fun v e => ih () _ ⟨by rw [st_row, hm, e, ← nw, capS_s], hS.s1 (Or.inr (Or.inr rfl))⟩
        by_cases hc : w ≤ 9999
        · refine cw_iload_n (pc := 37) dX9_pass_37 rfl rfl <|
            cw_aload_n (pc := 38) dX9_pass_38 rfl rfl <|
            cw_getR (q := 67) (t := 68) (pc := 39) dX9_pass_39 fX9_9 sh_67 (by decide) rfl <|
            cw_bipush (v := 31) (pc := 42) dX9_pass_42 (by decide) <|
            cw_ial (q := 68) (jn := 31) (pc := 44) dX9_pass_44 sh_68 rfl (by decide) (by decide) <|
            ?_
          rw [m31]
          refine cw_icmp_ge_F (tgt := 93) (pc := 45) dX9_pass_45 (by decide) (nI_ge hin (by omega)) <|
            cw_aload_n (pc := 48) dX9_pass_48 rfl rfl <|
            cw_getR (q := 67) (t := 68) (pc := 49) dX9_pass_49 fX9_9 sh_67 (by decide) rfl <|
            cw_bipush (v := 13) (pc := 52) dX9_pass_52 (by decide) <|
            cw_iload_n (pc := 54) dX9_pass_54 rfl rfl <|
            cw_iadd (pc := 55) dX9_pass_55 <|
            cw_aload_n (pc := 56) dX9_pass_56 rfl rfl <|
            cw_getR (q := 67) (t := 68) (pc := 57) dX9_pass_57 fX9_9 sh_67 (by decide) rfl <|
            cw_bipush (v := 13) (pc := 60) dX9_pass_60 (by decide) <|
            cw_iload_n (pc := 62) dX9_pass_62 rfl rfl <|
            cw_iadd (pc := 63) dX9_pass_63 <|
            cw_ial (q := 68) (jn := (13 + i)) (pc := 64) dX9_pass_64 sh_68 (nx_add rfl rfl) (by omega) (by decide) <|
            ?_
          rw [mw]
          refine cw_sipush (v := 9999) (pc := 65) dX9_pass_65 (by decide) <|
            cw_icmp_le_T (tgt := 77) (pc := 68) dX9_pass_68 (by decide) (nI_le (b := 9999) hc (by decide)) <|
            cw_aload_n (pc := 77) dX9_pass_77 rfl rfl <|
            cw_getR (q := 67) (t := 68) (pc := 78) dX9_pass_78 fX9_9 sh_67 (by decide) rfl <|
            cw_bipush (v := 13) (pc := 81) dX9_pass_81 (by decide) <|
            cw_iload_n (pc := 83) dX9_pass_83 rfl rfl <|
            cw_iadd (pc := 84) dX9_pass_84 <|
            cw_ial (q := 68) (jn := (13 + i)) (pc := 85) dX9_pass_85 sh_68 (nx_add rfl rfl) (by omega) (by decide) <|
            ?_
          rw [mw]
          refine cw_ias (q := 68) (jn := (13 + i)) (pc := 86) dX9_pass_86 sh_68 (nx_add rfl rfl) (by omega) (by decide) <|
            cw_iincL (L' := [_, _, _]) (c := 1) (pc := 87) dX9_pass_87 rfl (by decide) (by decide) rfl rfl <|
            ?_
          rw [nI_1 i]
          refine cw_goto (tgt := 37) (pc := 90) dX9_pass_90 (by decide) <|
            ?_
          exact nxt _ (by rw [Nat.min_eq_right hc])
        · refine cw_iload_n (pc := 37) dX9_pass_37 rfl rfl <|
            cw_aload_n (pc := 38) dX9_pass_38 rfl rfl <|
            cw_getR (q := 67) (t := 68) (pc := 39) dX9_pass_39 fX9_9 sh_67 (by decide) rfl <|
            cw_bipush (v := 31) (pc := 42) dX9_pass_42 (by decide) <|
            cw_ial (q := 68) (jn := 31) (pc := 44) dX9_pass_44 sh_68 rfl (by decide) (by decide) <|
            ?_
          rw [m31]
          refine cw_icmp_ge_F (tgt := 93) (pc := 45) dX9_pass_45 (by decide) (nI_ge hin (by omega)) <|
            cw_aload_n (pc := 48) dX9_pass_48 rfl rfl <|
            cw_getR (q := 67) (t := 68) (pc := 49) dX9_pass_49 fX9_9 sh_67 (by decide) rfl <|
            cw_bipush (v := 13) (pc := 52) dX9_pass_52 (by decide) <|
            cw_iload_n (pc := 54) dX9_pass_54 rfl rfl <|
            cw_iadd (pc := 55) dX9_pass_55 <|
            cw_aload_n (pc := 56) dX9_pass_56 rfl rfl <|
            cw_getR (q := 67) (t := 68) (pc := 57) dX9_pass_57 fX9_9 sh_67 (by decide) rfl <|
            cw_bipush (v := 13) (pc := 60) dX9_pass_60 (by decide) <|
            cw_iload_n (pc := 62) dX9_pass_62 rfl rfl <|
            cw_iadd (pc := 63) dX9_pass_63 <|
            cw_ial (q := 68) (jn := (13 + i)) (pc := 64) dX9_pass_64 sh_68 (nx_add rfl rfl) (by omega) (by decide) <|
            ?_
          rw [mw]
          refine cw_sipush (v := 9999) (pc := 65) dX9_pass_65 (by decide) <|
            cw_icmp_le_F (tgt := 77) (pc := 68) dX9_pass_68 (by decide) (nI_ge (a := 9999) (by omega) (by omega)) <|
            cw_sipush (v := 9999) (pc := 71) dX9_pass_71 (by decide) <|
            cw_goto (tgt := 86) (pc := 74) dX9_pass_74 (by decide) <|
            cw_ias (q := 68) (jn := (13 + i)) (pc := 86) dX9_pass_86 sh_68 (nx_add rfl rfl) (by omega) (by decide) <|
            cw_iincL (L' := [_, _, _]) (c := 1) (pc := 87) dX9_pass_87 rfl (by decide) (by decide) rfl rfl <|
            ?_
          rw [nI_1 i]
          refine cw_goto (tgt := 37) (pc := 90) dX9_pass_90 (by decide) <|
            ?_
          exact nxt _ (by rw [Nat.min_eq_left (by omega)]; rfl)
  · refine cw_iload_n (pc := 0) dX9_pass_0 rfl rfl <|
      cw_iconst (v := 0) (pc := 1) dX9_pass_1 (by decide) <|
      cw_bipush (v := 60) (pc := 2) dX9_pass_2 (by decide) <|
      cw_insI (pc := 4) dX9_pass_4 c_X9_in vX9_44 rfl rfl rfl (by decide) <|
      cw_if_ne_F (tgt := 13) (pc := 7) dX9_pass_7 (by decide) (bI_0.mpr hx) <|
      cw_bipush (v := -2) (pc := 10) dX9_pass_10 (by decide) <|
      cw_iret (pc := 12) dX9_pass_12 hR <|
      ⟨by rw [passA, if_neg hx], by rw [passR, if_neg (fun h => hx h.1)], Same.rf⟩
