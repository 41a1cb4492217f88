def winA (s : Row) (code : PCo) (n : Nat) : Int32 := (bestF (naS s) (scP s code) (-999999) n).1
def decS (s : Row) (c : Nat) : Int32 := decI (beS s) (nN (s (81 + c))) (nN (s (86 + c)))
def ofA (s : Row) (code : PCo) (x w : Int32) : Int32 := if 0 ≤ x ∧ x < s 31 then (if w = 0 then s (39 + nN x) else if w = 1 then s (45 + nN x) else if w = 2 then s (51 + nN x) else if w = 3 then s (7 + nN x) else if w = 4 then s (13 + nN x) else if w = 5 then s (1 + nN x) else if w = 6 then scP s code (nN x) else -999999) else -999999
def toldA (s : Row) (code : PCo) (mk n : Nat) (w : Int32) : Int32 := if 10 ≤ w ∧ w < 22 then s (19 + (nN w - 10)) else if 30 ≤ w ∧ w < 30 + s 33 then decS s (nN w - 30) else if w = 0 then s 0 else if w = 1 then nI mk else if w = 2 then bitsI (beS s) 6 else if w = 3 then bitsI (fun p => !naS s p) 6 else if w = 4 then winA s code n else -999999
theorem rng {w : Int32} {A B : Nat} (hB : B < 2 ^ 31) (hA31 : A < 2 ^ 31) (h1 : nI A ≤ w) (h2 : w < nI B) : ∃ x, x < B - A ∧ w = nI (A + x) := by
  by_cases hA : A < B
  · obtain ⟨p, hp, rfl⟩ := ix_of hB ⟨Int32.le_trans (nI_pos' (by omega)) h1, h2⟩
    have := (nI_leI (by omega) (by omega)).mp h1
    exact ⟨p - A, by omega, by congr 1; omega⟩
  · exact absurd (Int32.lt_of_le_of_lt h1 h2) (nI_nlt (by omega) (by omega))
theorem winC {μ : Mem} {s : Row} {n Y M : Nat} {code : PCo} (h : RelL μ 2 s) (hi : InvL s n Y M) : (bestF (naB μ 2) (fun p => scY μ 2 code (μ 2 0) p) (-999999) n).1 = winA s code n := by
  have h6 := hi.2.1
  exact congrArg Prod.fst (bestF_congr (fun p hp => h.na (by omega)) (fun p hp _ => by rw [h.sy code _ (by omega), h.1]; rfl))
set_option maxHeartbeats 4000000 in
set_option maxRecDepth 100000 in
theorem c_X8_of {E : Ev} {μ : Mem} {s : Row} {n mk : Nat} {code : PCo} (hI : Inv s n code mk) (hR1 : Rel μ 1 s code mk) {x w : Int32} : AM E yX8_of cX8_of 3 (some .int) 5 [.ref 0, .int x, .int w] μ (fun r μ' => r = some (.int (ofA s code x w)) ∧ Same (fun q _ => 43 ≤ q ∧ q ≤ 64) μ μ') := by
  refine am_of (own := RX8) (L := [.ref 0, .int x, .int w]) (by decide) rfl (Nat.le_of_ble_eq_true rfl) rfl (fun Γ hR => ?_)
  have hR0 := hR1
  obtain ⟨hIL, hIP, hIC, hIS, hIW, hIB, hIT⟩ := hI
  obtain ⟨hL, ⟨hcd, hmk⟩, hT, hC, hS, hW, hB, hnp⟩ := hR1
  have hn := hIL.1
  have h6 := hIL.2.1
  have h31 : μ 2 1 = s 31 := hL.2.1
  by_cases hx : 0 ≤ x ∧ x < s 31
  · obtain ⟨p, hp, rfl⟩ := isM_of hn h6 hx
    have hp6 : p < 6 := by omega
    obtain ⟨k1, k2, k3, k4⟩ := hL.2.2.2.2.2.1 p hp6
    have kb := hL.bitbe hIL hp6
    have ka := hL.bitaw hIL hp6
    have hMen := hL.men hIL
    have np : nN (nI p) = p := nN_nI (by omega)
    have hpre : ∀ v, ofA s code (nI p) v = (if v = 0 then s (39 + p) else if v = 1 then s (45 + p) else if v = 2 then s (51 + p) else if v = 3 then s (7 + p) else if v = 4 then s (13 + p) else if v = 5 then s (1 + p) else if v = 6 then scP s code p else -999999) := fun v => by rw [ofA, if_pos hx, np]
    by_cases e0 : w = 0
    · subst e0
      refine cw_aload_n (pc := 0) dX8_of_0 rfl rfl <|
        cw_getR (q := 0) (t := 2) (pc := 1) dX8_of_1 fX8_25 sh_0 (by decide) rfl <|
        cw_iload_n (pc := 4) dX8_of_4 rfl rfl <|
        cw_invI (q := 2) (pc := 5) dX8_of_5 (c_has land_2 h31 hn h6) rfl vX8_112 sh_2 (by decide) rfl rfl rfl (by decide) <|
        cw_if_ne_T (tgt := 14) (pc := 8) dX8_of_8 (by decide) (bI_n0.mpr hx) <|
        cw_iload_n (pc := 14) dX8_of_14 rfl rfl <|
        cw_tabI (v := 0) (tgt := 56) (pc := 15) dX8_of_15 rfl (by decide) (by decide) rfl (by decide) <|
        cw_aload_n (pc := 56) dX8_of_56 rfl rfl <|
        cw_getR (q := 0) (t := 2) (pc := 57) dX8_of_57 fX8_25 sh_0 (by decide) rfl <|
        cw_getR (q := 2) (t := 4) (pc := 60) dX8_of_60 fX8_116 sh_2 (by decide) rfl <|
        cw_iload_n (pc := 63) dX8_of_63 rfl rfl <|
        cw_ial (q := 4) (jn := p) (pc := 64) dX8_of_64 sh_4 rfl (by omega) (by decide) <|
        ?_
      rw [k1]
      refine cw_iret (pc := 65) dX8_of_65 hR <|
        ⟨by rw [hpre]; simp, Same.rf⟩
    by_cases e1 : w = 1
    · subst e1
      refine cw_aload_n (pc := 0) dX8_of_0 rfl rfl <|
        cw_getR (q := 0) (t := 2) (pc := 1) dX8_of_1 fX8_25 sh_0 (by decide) rfl <|
        cw_iload_n (pc := 4) dX8_of_4 rfl rfl <|
        cw_invI (q := 2) (pc := 5) dX8_of_5 (c_has land_2 h31 hn h6) rfl vX8_112 sh_2 (by decide) rfl rfl rfl (by decide) <|
        cw_if_ne_T (tgt := 14) (pc := 8) dX8_of_8 (by decide) (bI_n0.mpr hx) <|
        cw_iload_n (pc := 14) dX8_of_14 rfl rfl <|
        cw_tabI (v := 1) (tgt := 66) (pc := 15) dX8_of_15 rfl (by decide) (by decide) rfl (by decide) <|
        cw_aload_n (pc := 66) dX8_of_66 rfl rfl <|
        cw_getR (q := 0) (t := 2) (pc := 67) dX8_of_67 fX8_25 sh_0 (by decide) rfl <|
        cw_getR (q := 2) (t := 5) (pc := 70) dX8_of_70 fX8_120 sh_2 (by decide) rfl <|
        cw_iload_n (pc := 73) dX8_of_73 rfl rfl <|
        cw_ial (q := 5) (jn := p) (pc := 74) dX8_of_74 sh_5 rfl (by omega) (by decide) <|
        ?_
      rw [k2]
      refine cw_iret (pc := 75) dX8_of_75 hR <|
        ⟨by rw [hpre]; simp, Same.rf⟩
    by_cases e2 : w = 2
    · subst e2
      refine cw_aload_n (pc := 0) dX8_of_0 rfl rfl <|
        cw_getR (q := 0) (t := 2) (pc := 1) dX8_of_1 fX8_25 sh_0 (by decide) rfl <|
        cw_iload_n (pc := 4) dX8_of_4 rfl rfl <|
        cw_invI (q := 2) (pc := 5) dX8_of_5 (c_has land_2 h31 hn h6) rfl vX8_112 sh_2 (by decide) rfl rfl rfl (by decide) <|
        cw_if_ne_T (tgt := 14) (pc := 8) dX8_of_8 (by decide) (bI_n0.mpr hx) <|
        cw_iload_n (pc := 14) dX8_of_14 rfl rfl <|
        cw_tabI (v := 2) (tgt := 76) (pc := 15) dX8_of_15 rfl (by decide) (by decide) rfl (by decide) <|
        cw_aload_n (pc := 76) dX8_of_76 rfl rfl <|
        cw_getR (q := 0) (t := 2) (pc := 77) dX8_of_77 fX8_25 sh_0 (by decide) rfl <|
        cw_getR (q := 2) (t := 6) (pc := 80) dX8_of_80 fX8_123 sh_2 (by decide) rfl <|
        cw_iload_n (pc := 83) dX8_of_83 rfl rfl <|
        cw_ial (q := 6) (jn := p) (pc := 84) dX8_of_84 sh_6 rfl (by omega) (by decide) <|
        ?_
      rw [k3]
      refine cw_iret (pc := 85) dX8_of_85 hR <|
        ⟨by rw [hpre]; simp, Same.rf⟩
    by_cases e3 : w = 3
    · subst e3
      refine cw_aload_n (pc := 0) dX8_of_0 rfl rfl <|
        cw_getR (q := 0) (t := 2) (pc := 1) dX8_of_1 fX8_25 sh_0 (by decide) rfl <|
        cw_iload_n (pc := 4) dX8_of_4 rfl rfl <|
        cw_invI (q := 2) (pc := 5) dX8_of_5 (c_has land_2 h31 hn h6) rfl vX8_112 sh_2 (by decide) rfl rfl rfl (by decide) <|
        cw_if_ne_T (tgt := 14) (pc := 8) dX8_of_8 (by decide) (bI_n0.mpr hx) <|
        cw_iload_n (pc := 14) dX8_of_14 rfl rfl <|
        cw_tabI (v := 3) (tgt := 86) (pc := 15) dX8_of_15 rfl (by decide) (by decide) rfl (by decide) <|
        cw_aload_n (pc := 86) dX8_of_86 rfl rfl <|
        cw_getR (q := 0) (t := 2) (pc := 87) dX8_of_87 fX8_25 sh_0 (by decide) rfl <|
        cw_getI (q := 2) (pc := 90) dX8_of_90 fX8_126 sh_2 (by decide) rfl <|
        cw_iload_n (pc := 93) dX8_of_93 rfl rfl <|
        cw_insI (pc := 94) dX8_of_94 c_X8_bit vX8_129 rfl rfl rfl (by decide) <|
        ?_
      rw [ka]
      refine cw_iret (pc := 97) dX8_of_97 hR <|
        ⟨by rw [hpre]; simp, Same.rf⟩
    by_cases e4 : w = 4
    · subst e4
      refine cw_aload_n (pc := 0) dX8_of_0 rfl rfl <|
        cw_getR (q := 0) (t := 2) (pc := 1) dX8_of_1 fX8_25 sh_0 (by decide) rfl <|
        cw_iload_n (pc := 4) dX8_of_4 rfl rfl <|
        cw_invI (q := 2) (pc := 5) dX8_of_5 (c_has land_2 h31 hn h6) rfl vX8_112 sh_2 (by decide) rfl rfl rfl (by decide) <|
        cw_if_ne_T (tgt := 14) (pc := 8) dX8_of_8 (by decide) (bI_n0.mpr hx) <|
        cw_iload_n (pc := 14) dX8_of_14 rfl rfl <|
        cw_tabI (v := 4) (tgt := 98) (pc := 15) dX8_of_15 rfl (by decide) (by decide) rfl (by decide) <|
        cw_aload_n (pc := 98) dX8_of_98 rfl rfl <|
        cw_getR (q := 0) (t := 2) (pc := 99) dX8_of_99 fX8_25 sh_0 (by decide) rfl <|
        cw_getR (q := 2) (t := 7) (pc := 102) dX8_of_102 fX8_133 sh_2 (by decide) rfl <|
        cw_iload_n (pc := 105) dX8_of_105 rfl rfl <|
        cw_ial (q := 7) (jn := p) (pc := 106) dX8_of_106 sh_7 rfl (by omega) (by decide) <|
        ?_
      rw [k4]
      refine cw_iret (pc := 107) dX8_of_107 hR <|
        ⟨by rw [hpre]; simp, Same.rf⟩
    by_cases e5 : w = 5
    · subst e5
      refine cw_aload_n (pc := 0) dX8_of_0 rfl rfl <|
        cw_getR (q := 0) (t := 2) (pc := 1) dX8_of_1 fX8_25 sh_0 (by decide) rfl <|
        cw_iload_n (pc := 4) dX8_of_4 rfl rfl <|
        cw_invI (q := 2) (pc := 5) dX8_of_5 (c_has land_2 h31 hn h6) rfl vX8_112 sh_2 (by decide) rfl rfl rfl (by decide) <|
        cw_if_ne_T (tgt := 14) (pc := 8) dX8_of_8 (by decide) (bI_n0.mpr hx) <|
        cw_iload_n (pc := 14) dX8_of_14 rfl rfl <|
        cw_tabI (v := 5) (tgt := 108) (pc := 15) dX8_of_15 rfl (by decide) (by decide) rfl (by decide) <|
        cw_aload_n (pc := 108) dX8_of_108 rfl rfl <|
        cw_getR (q := 0) (t := 2) (pc := 109) dX8_of_109 fX8_25 sh_0 (by decide) rfl <|
        cw_getI (q := 2) (pc := 112) dX8_of_112 fX8_136 sh_2 (by decide) rfl <|
        cw_iload_n (pc := 115) dX8_of_115 rfl rfl <|
        cw_insI (pc := 116) dX8_of_116 c_X8_bit vX8_129 rfl rfl rfl (by decide) <|
        ?_
      rw [kb]
      refine cw_iret (pc := 119) dX8_of_119 hR <|
        ⟨by rw [hpre]; simp, Same.rf⟩
    by_cases e6 : w = 6
    · subst e6
      refine cw_aload_n (pc := 0) dX8_of_0 rfl rfl <|
        cw_getR (q := 0) (t := 2) (pc := 1) dX8_of_1 fX8_25 sh_0 (by decide) rfl <|
        cw_iload_n (pc := 4) dX8_of_4 rfl rfl <|
        cw_invI (q := 2) (pc := 5) dX8_of_5 (c_has land_2 h31 hn h6) rfl vX8_112 sh_2 (by decide) rfl rfl rfl (by decide) <|
        cw_if_ne_T (tgt := 14) (pc := 8) dX8_of_8 (by decide) (bI_n0.mpr hx) <|
        cw_iload_n (pc := 14) dX8_of_14 rfl rfl <|
        cw_tabI (v := 6) (tgt := 120) (pc := 15) dX8_of_15 rfl (by decide) (by decide) rfl (by decide) <|
        cw_aload_n (pc := 120) dX8_of_120 rfl rfl <|
        cw_getR (q := 0) (t := 50) (pc := 121) dX8_of_121 fX8_35 sh_0 (by decide) rfl <|
        cw_iload_n (pc := 124) dX8_of_124 rfl rfl <|
        cw_invP (q := 50) (pc := 125) dX8_of_125 (c_X4_pegScore plo_50 land_2 par_9 hcd hIP.2.2.2 hMen hp) rfl vX8_139 sh_50 (by decide) rfl rfl rfl (by decide) <|
        ?_
      rintro _ m1 ⟨rfl, hS1⟩
      refine cw_iret (pc := 128) dX8_of_128 hR <|
        ⟨by rw [hpre, hL.sy code _ hp6, hL.1]; simp [scP], hS1.mo (fun q i h => by unfold PH at h; omega)⟩
    refine cw_aload_n (pc := 0) dX8_of_0 rfl rfl <|
      cw_getR (q := 0) (t := 2) (pc := 1) dX8_of_1 fX8_25 sh_0 (by decide) rfl <|
      cw_iload_n (pc := 4) dX8_of_4 rfl rfl <|
      cw_invI (q := 2) (pc := 5) dX8_of_5 (c_has land_2 h31 hn h6) rfl vX8_112 sh_2 (by decide) rfl rfl rfl (by decide) <|
      cw_if_ne_T (tgt := 14) (pc := 8) dX8_of_8 (by decide) (bI_n0.mpr hx) <|
      cw_iload_n (pc := 14) dX8_of_14 rfl rfl <|
      cw_tabD (tgt := 129) (pc := 15) dX8_of_15 (by have a0 := lv_neT (a := 0) e0 rfl; have a1 := lv_neT (a := 1) e1 rfl; have a2 := lv_neT (a := 2) e2 rfl; have a3 := lv_neT (a := 3) e3 rfl; have a4 := lv_neT (a := 4) e4 rfl; have a5 := lv_neT (a := 5) e5 rfl; have a6 := lv_neT (a := 6) e6 rfl; omega) (by decide) <|
      cw_ldc (pc := 129) dX8_of_129 kX8_115 <|
      cw_iret (pc := 131) dX8_of_131 hR <|
      ⟨by rw [hpre]; simp [e0, e1, e2, e3, e4, e5, e6], Same.rf⟩
  · refine cw_aload_n (pc := 0) dX8_of_0 rfl rfl <|
      cw_getR (q := 0) (t := 2) (pc := 1) dX8_of_1 fX8_25 sh_0 (by decide) rfl <|
      cw_iload_n (pc := 4) dX8_of_4 rfl rfl <|
      cw_invI (q := 2) (pc := 5) dX8_of_5 (c_has land_2 h31 hn h6) rfl vX8_112 sh_2 (by decide) rfl rfl rfl (by decide) <|
      cw_if_ne_F (tgt := 14) (pc := 8) dX8_of_8 (by decide) (bI_0.mpr hx) <|
      cw_ldc (pc := 11) dX8_of_11 kX8_115 <|
      cw_iret (pc := 13) dX8_of_13 hR <|
      ⟨by rw [ofA, if_neg hx], Same.rf⟩
set_option maxHeartbeats 4000000 in
set_option maxRecDepth 100000 in
theorem c_X8_told {E : Ev} {μ : Mem} {s : Row} {n mk : Nat} {code : PCo} (hI : Inv s n code mk) (hR1 : Rel μ 1 s code mk) {w : Int32} : AM E yX8_told cX8_told 2 (some .int) 6 [.ref 0, .int w] μ (fun r μ' => r = some (.int (toldA s code mk n w)) ∧ Same (fun q _ => 43 ≤ q ∧ q ≤ 64) μ μ') := by
  refine am_of (own := RX8) (L := [.ref 0, .int w]) (by decide) rfl (Nat.le_of_ble_eq_true rfl) rfl (fun Γ hR => ?_)
  have hR0 := hR1
  obtain ⟨hIL, hIP, hIC, hIS, hIW, hIB, hIT⟩ := hI
  obtain ⟨hL, ⟨hcd, hmk⟩, hT, hC, hS, hW, hB, hnp⟩ := hR1
  have hn := hIL.1
  have h6 := hIL.2.1
  have h31 : μ 2 1 = s 31 := hL.2.1
  obtain ⟨cs, hcs, e33, hcc⟩ := hIC
  have hMen := hL.men hIL
  by_cases h1 : 10 ≤ w ∧ w < 22
  · obtain ⟨x, hx, rfl⟩ := rng (A := 10) (B := 22) (by decide) (by decide) h1.1 h1.2
    have es : nI (10 + x) - 10 = nI x := by rw [show (10 : Int32) = nI 10 from rfl, pk_sub (by omega), Nat.add_sub_cancel_left]
    have ef := hL.2.2.2.2.1 x hx
    have en : nN (nI (10 + x)) - 10 = x := by rw [nN_nI (by omega)]; omega
    refine cw_iload_n (pc := 0) dX8_told_0 rfl rfl <|
      cw_bipush (v := 10) (pc := 1) dX8_told_1 (by decide) <|
      cw_icmp_lt_F (tgt := 25) (pc := 3) dX8_told_3 (by decide) (Int32.not_lt.mpr h1.1) <|
      cw_iload_n (pc := 6) dX8_told_6 rfl rfl <|
      cw_bipush (v := 22) (pc := 7) dX8_told_7 (by decide) <|
      cw_icmp_ge_F (tgt := 25) (pc := 9) dX8_told_9 (by decide) (Int32.not_le.mpr h1.2) <|
      cw_aload_n (pc := 12) dX8_told_12 rfl rfl <|
      cw_getR (q := 0) (t := 2) (pc := 13) dX8_told_13 fX8_25 sh_0 (by decide) rfl <|
      cw_getR (q := 2) (t := 3) (pc := 16) dX8_told_16 fX8_153 sh_2 (by decide) rfl <|
      cw_iload_n (pc := 19) dX8_told_19 rfl rfl <|
      cw_bipush (v := 10) (pc := 20) dX8_told_20 (by decide) <|
      cw_isub (pc := 22) dX8_told_22 <|
      ?_
    rw [es]
    refine cw_ial (q := 3) (jn := x) (pc := 23) dX8_told_23 sh_3 rfl (by omega) (by decide) <|
      ?_
    rw [ef]
    refine cw_iret (pc := 24) dX8_told_24 hR <|
      ⟨by rw [toldA, if_pos h1, en], Same.rf⟩
  · have pass : ∀ Q : Prop, (Q → Q) := fun _ q => q
    clear pass
    have key : CW E Γ cX8_told 2 RX8 6 25 [.ref 0, .int w] [] μ := by
      by_cases h2 : 30 ≤ w ∧ w < 30 + s 33
      · have h2' : w < nI (30 + cs) := by have := h2.2; rw [e33, show (30 : Int32) + nI cs = nI (30 + cs) from nI_add 30 cs] at this; exact this
        obtain ⟨y, hy, rfl⟩ := rng (A := 30) (B := 30 + cs) (by omega) (by decide) h2.1 h2'
        have hyc : y < cs := by omega
        have es : nI (30 + y) - 30 = nI y := by rw [show (30 : Int32) = nI 30 from rfl, pk_sub (by omega), Nat.add_sub_cancel_left]
        have en : nN (nI (30 + y)) - 30 = y := by rw [nN_nI (by omega)]; omega
        obtain ⟨⟨a, ha, ea⟩, b, hb, eb⟩ := hcc y hyc
        have r1 := (hC.2.2 y (by omega)).1.trans ea
        have r2 := (hC.2.2 y (by omega)).2.trans eb
        have hc2 : μ 14 2 = s 33 := hC.2.1
        refine cw_iload_n (pc := 25) dX8_told_25 rfl rfl <|
          cw_bipush (v := 30) (pc := 26) dX8_told_26 (by decide) <|
          cw_icmp_lt_F (tgt := 64) (pc := 28) dX8_told_28 (by decide) (Int32.not_lt.mpr h2.1) <|
          cw_iload_n (pc := 31) dX8_told_31 rfl rfl <|
          cw_bipush (v := 30) (pc := 32) dX8_told_32 (by decide) <|
          cw_aload_n (pc := 34) dX8_told_34 rfl rfl <|
          cw_getR (q := 0) (t := 1) (pc := 35) dX8_told_35 fX8_12 sh_0 (by decide) rfl <|
          cw_getR (q := 1) (t := 14) (pc := 38) dX8_told_38 fX8_156 sh_1 (by decide) rfl <|
          cw_getI (q := 14) (pc := 41) dX8_told_41 fX8_159 sh_14 (by decide) rfl <|
          cw_iadd (pc := 44) dX8_told_44 <|
          cw_icmp_ge_F (tgt := 64) (pc := 45) dX8_told_45 (by decide) (by rw [hc2]; exact Int32.not_le.mpr h2.2) <|
          cw_aload_n (pc := 48) dX8_told_48 rfl rfl <|
          cw_iload_n (pc := 49) dX8_told_49 rfl rfl <|
          cw_bipush (v := 30) (pc := 50) dX8_told_50 (by decide) <|
          cw_isub (pc := 52) dX8_told_52 <|
          ?_
        rw [es]
        refine cw_aload_n (pc := 53) dX8_told_53 rfl rfl <|
          cw_getR (q := 0) (t := 2) (pc := 54) dX8_told_54 fX8_25 sh_0 (by decide) rfl <|
          cw_getI (q := 2) (pc := 57) dX8_told_57 fX8_136 sh_2 (by decide) rfl <|
          ?_
        rw [hL.2.2.2.1]
        refine cw_invI (q := 0) (pc := 60) dX8_told_60 (c_X8_decided (f := beS s) hC.1 (hc2.trans e33) hcs hyc r1 r2 (by omega) (by omega)) rfl vX8_162 sh_0 (by decide) rfl rfl rfl (by decide) <|
          cw_iret (pc := 63) dX8_told_63 hR <|
          ⟨by rw [toldA, if_neg h1, if_pos h2, en, decS, ea, eb, nN_nI (by omega), nN_nI (by omega)], Same.rf⟩
      · have key2 : CW E Γ cX8_told 2 RX8 6 64 [.ref 0, .int w] [] μ := by
          have hpre : toldA s code mk n w = (if w = 0 then s 0 else if w = 1 then nI mk else if w = 2 then bitsI (beS s) 6 else if w = 3 then bitsI (fun p => !naS s p) 6 else if w = 4 then winA s code n else -999999) := by rw [toldA, if_neg h1, if_neg h2]
          by_cases e0 : w = 0
          · subst e0
            refine cw_iload_n (pc := 64) dX8_told_64 rfl rfl <|
              cw_tabI (v := 0) (tgt := 100) (pc := 65) dX8_told_65 rfl (by decide) (by decide) rfl (by decide) <|
              cw_aload_n (pc := 100) dX8_told_100 rfl rfl <|
              cw_getR (q := 0) (t := 2) (pc := 101) dX8_told_101 fX8_25 sh_0 (by decide) rfl <|
              cw_getI (q := 2) (pc := 104) dX8_told_104 fX8_165 sh_2 (by decide) rfl <|
              ?_
            rw [hL.1]
            refine cw_iret (pc := 107) dX8_told_107 hR <|
              ⟨by rw [hpre]; simp, Same.rf⟩
          by_cases e1 : w = 1
          · subst e1
            refine cw_iload_n (pc := 64) dX8_told_64 rfl rfl <|
              cw_tabI (v := 1) (tgt := 108) (pc := 65) dX8_told_65 rfl (by decide) (by decide) rfl (by decide) <|
              cw_aload_n (pc := 108) dX8_told_108 rfl rfl <|
              cw_getR (q := 0) (t := 1) (pc := 109) dX8_told_109 fX8_12 sh_0 (by decide) rfl <|
              cw_getR (q := 1) (t := 9) (pc := 112) dX8_told_112 fX8_28 sh_1 (by decide) rfl <|
              cw_getI (q := 9) (pc := 115) dX8_told_115 fX8_168 sh_9 (by decide) rfl <|
              ?_
            rw [hmk]
            refine cw_iret (pc := 118) dX8_told_118 hR <|
              ⟨by rw [hpre]; simp, Same.rf⟩
          by_cases e2 : w = 2
          · subst e2
            refine cw_iload_n (pc := 64) dX8_told_64 rfl rfl <|
              cw_tabI (v := 2) (tgt := 119) (pc := 65) dX8_told_65 rfl (by decide) (by decide) rfl (by decide) <|
              cw_aload_n (pc := 119) dX8_told_119 rfl rfl <|
              cw_getR (q := 0) (t := 2) (pc := 120) dX8_told_120 fX8_25 sh_0 (by decide) rfl <|
              cw_getI (q := 2) (pc := 123) dX8_told_123 fX8_136 sh_2 (by decide) rfl <|
              ?_
            rw [hL.2.2.2.1]
            refine cw_iret (pc := 126) dX8_told_126 hR <|
              ⟨by rw [hpre]; simp, Same.rf⟩
          by_cases e3 : w = 3
          · subst e3
            refine cw_iload_n (pc := 64) dX8_told_64 rfl rfl <|
              cw_tabI (v := 3) (tgt := 127) (pc := 65) dX8_told_65 rfl (by decide) (by decide) rfl (by decide) <|
              cw_aload_n (pc := 127) dX8_told_127 rfl rfl <|
              cw_getR (q := 0) (t := 2) (pc := 128) dX8_told_128 fX8_25 sh_0 (by decide) rfl <|
              cw_getI (q := 2) (pc := 131) dX8_told_131 fX8_126 sh_2 (by decide) rfl <|
              ?_
            rw [hL.2.2.1]
            refine cw_iret (pc := 134) dX8_told_134 hR <|
              ⟨by rw [hpre]; simp, Same.rf⟩
          by_cases e4 : w = 4
          · subst e4
            refine cw_iload_n (pc := 64) dX8_told_64 rfl rfl <|
              cw_tabI (v := 4) (tgt := 135) (pc := 65) dX8_told_65 rfl (by decide) (by decide) rfl (by decide) <|
              cw_aload_n (pc := 135) dX8_told_135 rfl rfl <|
              cw_invP (q := 0) (pc := 136) dX8_told_136 (c_X8_winner hcd hIP.2.2.2 hMen) rfl vX8_171 sh_0 (by decide) rfl rfl rfl (by decide) <|
              ?_
            rintro _ m1 ⟨rfl, hS1⟩
            refine cw_iret (pc := 139) dX8_told_139 hR <|
              ⟨by rw [hpre, winC hL hIL]; simp, hS1.mo (fun q i h => by unfold PS at h; omega)⟩
          refine cw_iload_n (pc := 64) dX8_told_64 rfl rfl <|
            cw_tabD (tgt := 140) (pc := 65) dX8_told_65 (by have a0 := lv_neT (a := 0) e0 rfl; have a1 := lv_neT (a := 1) e1 rfl; have a2 := lv_neT (a := 2) e2 rfl; have a3 := lv_neT (a := 3) e3 rfl; have a4 := lv_neT (a := 4) e4 rfl; omega) (by decide) <|
            cw_ldc (pc := 140) dX8_told_140 kX8_115 <|
            cw_iret (pc := 142) dX8_told_142 hR <|
            ⟨by rw [hpre]; simp [e0, e1, e2, e3, e4], Same.rf⟩
        have hc2 : μ 14 2 = s 33 := hC.2.1
        by_cases h3 : w < 30
        · refine cw_iload_n (pc := 25) dX8_told_25 rfl rfl <|
            cw_bipush (v := 30) (pc := 26) dX8_told_26 (by decide) <|
            cw_icmp_lt_T (tgt := 64) (pc := 28) dX8_told_28 (by decide) h3 <|
            ?_
          exact key2
        · refine cw_iload_n (pc := 25) dX8_told_25 rfl rfl <|
            cw_bipush (v := 30) (pc := 26) dX8_told_26 (by decide) <|
            cw_icmp_lt_F (tgt := 64) (pc := 28) dX8_told_28 (by decide) h3 <|
            cw_iload_n (pc := 31) dX8_told_31 rfl rfl <|
            cw_bipush (v := 30) (pc := 32) dX8_told_32 (by decide) <|
            cw_aload_n (pc := 34) dX8_told_34 rfl rfl <|
            cw_getR (q := 0) (t := 1) (pc := 35) dX8_told_35 fX8_12 sh_0 (by decide) rfl <|
            cw_getR (q := 1) (t := 14) (pc := 38) dX8_told_38 fX8_156 sh_1 (by decide) rfl <|
            cw_getI (q := 14) (pc := 41) dX8_told_41 fX8_159 sh_14 (by decide) rfl <|
            cw_iadd (pc := 44) dX8_told_44 <|
            cw_icmp_ge_T (tgt := 64) (pc := 45) dX8_told_45 (by decide) (by rw [hc2]; exact Int32.not_lt.mp (fun z => h2 ⟨Int32.not_lt.mp h3, z⟩)) <|
            ?_
          exact key2
    by_cases h4 : w < 10
    · refine cw_iload_n (pc := 0) dX8_told_0 rfl rfl <|
        cw_bipush (v := 10) (pc := 1) dX8_told_1 (by decide) <|
        cw_icmp_lt_T (tgt := 25) (pc := 3) dX8_told_3 (by decide) h4 <|
        ?_
      exact key
    · refine cw_iload_n (pc := 0) dX8_told_0 rfl rfl <|
        cw_bipush (v := 10) (pc := 1) dX8_told_1 (by decide) <|
        cw_icmp_lt_F (tgt := 25) (pc := 3) dX8_told_3 (by decide) h4 <|
        cw_iload_n (pc := 6) dX8_told_6 rfl rfl <|
        cw_bipush (v := 22) (pc := 7) dX8_told_7 (by decide) <|
        cw_icmp_ge_T (tgt := 25) (pc := 9) dX8_told_9 (by decide) (Int32.not_lt.mp (fun z => h1 ⟨Int32.not_lt.mp h4, z⟩)) <|
        ?_
      exact key
def countA (s : Row) (ran : Int32) (w : Int32) : Int32 := if w = 7 then ran else if w = 0 then s 31 else if w = 1 then s 32 else if w = 2 then s 33 else if w = 3 then s 34 else if w = 4 then s 35 else if w = 5 then s 36 else if w = 6 then s 37 else -1
set_option maxHeartbeats 4000000 in
set_option maxRecDepth 100000 in
theorem c_X8_count {E : Ev} {μ : Mem} {s : Row} {n mk : Nat} {code : PCo} (hI : Inv s n code mk) (hR1 : Rel μ 1 s code mk) {w : Int32} : AM E yX8_count cX8_count 2 (some .int) 0 [.ref 0, .int w] μ (fun r μ' => r = some (.int (countA s (μ 65 1) w)) ∧ μ' = μ) := by
  refine am_of (own := RX8) (L := [.ref 0, .int w]) (by decide) rfl (Nat.le_of_ble_eq_true rfl) rfl (fun Γ hR => ?_)
  have hR0 := hR1
  obtain ⟨hIL, hIP, hIC, hIS, hIW, hIB, hIT⟩ := hI
  obtain ⟨hL, ⟨hcd, hmk⟩, hT, hC, hS, hW, hB, hnp⟩ := hR1
  have hn := hIL.1
  have h6 := hIL.2.1
  have h31 : μ 2 1 = s 31 := hL.2.1
  have hc2 : μ 14 2 = s 33 := hC.2.1
  have hs2 : μ 16 2 = s 34 := hS.2.1
  have hw2 : μ 18 2 = s 35 := hW.2.1
  have hb2 : μ 20 2 = s 36 := hB.2.1
  have ht2 : μ 12 2 = s 37 := hT.2.1
  by_cases e0 : w = 0
  · subst e0
    refine cw_iload_n (pc := 0) dX8_count_0 rfl rfl <|
      cw_tabI (v := 0) (tgt := 48) (pc := 1) dX8_count_1 rfl (by decide) (by decide) rfl (by decide) <|
      cw_aload_n (pc := 48) dX8_count_48 rfl rfl <|
      cw_getR (q := 0) (t := 2) (pc := 49) dX8_count_49 fX8_25 sh_0 (by decide) rfl <|
      cw_getI (q := 2) (pc := 52) dX8_count_52 fX8_199 sh_2 (by decide) rfl <|
      ?_
    rw [h31]
    refine cw_iret (pc := 55) dX8_count_55 hR <|
      ⟨by simp [countA], rfl⟩
  by_cases e1 : w = 1
  · subst e1
    refine cw_iload_n (pc := 0) dX8_count_0 rfl rfl <|
      cw_tabI (v := 1) (tgt := 56) (pc := 1) dX8_count_1 rfl (by decide) (by decide) rfl (by decide) <|
      cw_aload_n (pc := 56) dX8_count_56 rfl rfl <|
      cw_getR (q := 0) (t := 1) (pc := 57) dX8_count_57 fX8_12 sh_0 (by decide) rfl <|
      cw_getI (q := 1) (pc := 60) dX8_count_60 fX8_81 sh_1 (by decide) rfl <|
      ?_
    rw [hnp]
    refine cw_iret (pc := 63) dX8_count_63 hR <|
      ⟨by simp [countA], rfl⟩
  by_cases e2 : w = 2
  · subst e2
    refine cw_iload_n (pc := 0) dX8_count_0 rfl rfl <|
      cw_tabI (v := 2) (tgt := 64) (pc := 1) dX8_count_1 rfl (by decide) (by decide) rfl (by decide) <|
      cw_aload_n (pc := 64) dX8_count_64 rfl rfl <|
      cw_getR (q := 0) (t := 1) (pc := 65) dX8_count_65 fX8_12 sh_0 (by decide) rfl <|
      cw_getR (q := 1) (t := 14) (pc := 68) dX8_count_68 fX8_156 sh_1 (by decide) rfl <|
      cw_getI (q := 14) (pc := 71) dX8_count_71 fX8_159 sh_14 (by decide) rfl <|
      ?_
    rw [hc2]
    refine cw_iret (pc := 74) dX8_count_74 hR <|
      ⟨by simp [countA], rfl⟩
  by_cases e3 : w = 3
  · subst e3
    refine cw_iload_n (pc := 0) dX8_count_0 rfl rfl <|
      cw_tabI (v := 3) (tgt := 75) (pc := 1) dX8_count_1 rfl (by decide) (by decide) rfl (by decide) <|
      cw_aload_n (pc := 75) dX8_count_75 rfl rfl <|
      cw_getR (q := 0) (t := 1) (pc := 76) dX8_count_76 fX8_12 sh_0 (by decide) rfl <|
      cw_getR (q := 1) (t := 16) (pc := 79) dX8_count_79 fX8_236 sh_1 (by decide) rfl <|
      cw_getI (q := 16) (pc := 82) dX8_count_82 fX8_159 sh_16 (by decide) rfl <|
      ?_
    rw [hs2]
    refine cw_iret (pc := 85) dX8_count_85 hR <|
      ⟨by simp [countA], rfl⟩
  by_cases e4 : w = 4
  · subst e4
    refine cw_iload_n (pc := 0) dX8_count_0 rfl rfl <|
      cw_tabI (v := 4) (tgt := 86) (pc := 1) dX8_count_1 rfl (by decide) (by decide) rfl (by decide) <|
      cw_aload_n (pc := 86) dX8_count_86 rfl rfl <|
      cw_getR (q := 0) (t := 1) (pc := 87) dX8_count_87 fX8_12 sh_0 (by decide) rfl <|
      cw_getR (q := 1) (t := 18) (pc := 90) dX8_count_90 fX8_252 sh_1 (by decide) rfl <|
      cw_getI (q := 18) (pc := 93) dX8_count_93 fX8_159 sh_18 (by decide) rfl <|
      ?_
    rw [hw2]
    refine cw_iret (pc := 96) dX8_count_96 hR <|
      ⟨by simp [countA], rfl⟩
  by_cases e5 : w = 5
  · subst e5
    refine cw_iload_n (pc := 0) dX8_count_0 rfl rfl <|
      cw_tabI (v := 5) (tgt := 97) (pc := 1) dX8_count_1 rfl (by decide) (by decide) rfl (by decide) <|
      cw_aload_n (pc := 97) dX8_count_97 rfl rfl <|
      cw_getR (q := 0) (t := 1) (pc := 98) dX8_count_98 fX8_12 sh_0 (by decide) rfl <|
      cw_getR (q := 1) (t := 20) (pc := 101) dX8_count_101 fX8_258 sh_1 (by decide) rfl <|
      cw_getI (q := 20) (pc := 104) dX8_count_104 fX8_159 sh_20 (by decide) rfl <|
      ?_
    rw [hb2]
    refine cw_iret (pc := 107) dX8_count_107 hR <|
      ⟨by simp [countA], rfl⟩
  by_cases e6 : w = 6
  · subst e6
    refine cw_iload_n (pc := 0) dX8_count_0 rfl rfl <|
      cw_tabI (v := 6) (tgt := 108) (pc := 1) dX8_count_1 rfl (by decide) (by decide) rfl (by decide) <|
      cw_aload_n (pc := 108) dX8_count_108 rfl rfl <|
      cw_getR (q := 0) (t := 1) (pc := 109) dX8_count_109 fX8_12 sh_0 (by decide) rfl <|
      cw_getR (q := 1) (t := 12) (pc := 112) dX8_count_112 fX8_57 sh_1 (by decide) rfl <|
      cw_getI (q := 12) (pc := 115) dX8_count_115 fX8_159 sh_12 (by decide) rfl <|
      ?_
    rw [ht2]
    refine cw_iret (pc := 118) dX8_count_118 hR <|
      ⟨by simp [countA], rfl⟩
  by_cases e7 : w = 7
  · subst e7
    refine cw_iload_n (pc := 0) dX8_count_0 rfl rfl <|
      cw_tabI (v := 7) (tgt := 119) (pc := 1) dX8_count_1 rfl (by decide) (by decide) rfl (by decide) <|
      cw_aload_n (pc := 119) dX8_count_119 rfl rfl <|
      cw_getR (q := 0) (t := 65) (pc := 120) dX8_count_120 fX8_71 sh_0 (by decide) rfl <|
      cw_getI (q := 65) (pc := 123) dX8_count_123 fX8_282 sh_65 (by decide) rfl <|
      cw_iret (pc := 126) dX8_count_126 hR <|
      ⟨by simp [countA], rfl⟩
  refine cw_iload_n (pc := 0) dX8_count_0 rfl rfl <|
    cw_tabD (tgt := 127) (pc := 1) dX8_count_1 (by have a0 := lv_neT (a := 0) e0 rfl; have a1 := lv_neT (a := 1) e1 rfl; have a2 := lv_neT (a := 2) e2 rfl; have a3 := lv_neT (a := 3) e3 rfl; have a4 := lv_neT (a := 4) e4 rfl; have a5 := lv_neT (a := 5) e5 rfl; have a6 := lv_neT (a := 6) e6 rfl; have a7 := lv_neT (a := 7) e7 rfl; omega) (by decide) <|
    cw_iconst (v := -1) (pc := 127) dX8_count_127 (by decide) <|
    cw_iret (pc := 128) dX8_count_128 hR <|
    ⟨by simp [countA, e0, e1, e2, e3, e4, e5, e6, e7], rfl⟩
/-- the first i of n with P, from i on -/
def fstI (Pd : Nat → Bool) : Nat → Nat → Int32
  | _, 0 => -5
  | i, f + 1 => if Pd i then nI i else fstI Pd (i + 1) f
theorem fstI_s {Pd : Nat → Bool} {i n : Nat} (h : i < n) : fstI Pd i (n - i) = if Pd i then nI i else fstI Pd (i + 1) (n - (i + 1)) := by
  obtain ⟨f, hf⟩ : ∃ f, n - i = f + 1 := ⟨n - i - 1, by omega⟩
  rw [hf, show n - (i + 1) = f by omega]; rfl
def lookA (s : Row) : Int32 := fstI (fun i => !decide (s (51 + nN (s (122 + i))) = s (130 + i))) 0 (nN (s 36))
set_option maxHeartbeats 4000000 in
set_option maxRecDepth 100000 in
theorem c_X8_looked {E : Ev} {μ : Mem} {s : Row} {n mk : Nat} {code : PCo} (hI : Inv s n code mk) (hR1 : Rel μ 1 s code mk) : AM E yX8_looked cX8_looked 3 (some .int) 1 [.ref 0] μ (fun r μ' => r = some (.int (lookA s)) ∧ μ' = μ) := by
  refine am_of (own := RX8) (L := [.ref 0, .null, .null]) (by decide) rfl (Nat.le_of_ble_eq_true rfl) rfl (fun Γ hR => ?_)
  have hR0 := hR1
  obtain ⟨hIL, hIP, hIC, hIS, hIW, hIB, hIT⟩ := hI
  obtain ⟨hL, ⟨hcd, hmk⟩, hT, hC, hS, hW, hB, hnp⟩ := hR1
  have hn := hIL.1
  have h6 := hIL.2.1
  have h31 : μ 2 1 = s 31 := hL.2.1
  obtain ⟨k, hk, e36, hbb⟩ := hIB
  have hb2 : μ 20 2 = nI k := hB.2.1.trans e36
  have ebk : lookA s = fstI (fun i => !decide (s (51 + nN (s (122 + i))) = s (130 + i))) 0 k := by unfold lookA; rw [e36, nN_nI (by omega)]
  refine cw_iconst (v := 0) (pc := 0) dX8_looked_0 (by decide) <|
    cw_istore_n (L' := [_, _, _]) (pc := 1) dX8_looked_1 rfl (by decide) rfl rfl <|
    ?_
  refine cw_for (σ := Int32 × Value) k (fun i a m => m = μ ∧ a.1 = nI i ∧ lookA s = fstI (fun i => !decide (s (51 + nN (s (122 + i))) = s (130 + i))) i (k - i)) (fun _ a => [.ref 0, .int a.1, a.2]) ?_ ?_ 0 (0, .null) μ (Nat.zero_le _) ⟨rfl, rfl, ebk⟩
  · rintro ⟨x, z⟩ m ⟨hm, hx, hf⟩
    dsimp only at hx ⊢
    subst hm; subst hx
    refine cw_iload_n (pc := 2) dX8_looked_2 rfl rfl <|
      cw_aload_n (pc := 3) dX8_looked_3 rfl rfl <|
      cw_getR (q := 0) (t := 1) (pc := 4) dX8_looked_4 fX8_12 sh_0 (by decide) rfl <|
      cw_getR (q := 1) (t := 20) (pc := 7) dX8_looked_7 fX8_258 sh_1 (by decide) rfl <|
      cw_getI (q := 20) (pc := 10) dX8_looked_10 fX8_159 sh_20 (by decide) rfl <|
      cw_icmp_ge_T (tgt := 72) (pc := 13) dX8_looked_13 (by decide) (by rw [hb2]; exact nI_le (Nat.le_refl _) (by omega)) <|
      cw_bipush (v := -5) (pc := 72) dX8_looked_72 (by decide) <|
      cw_iret (pc := 74) dX8_looked_74 hR <|
      ⟨by rw [hf, Nat.sub_self]; rfl, rfl⟩
  · rintro i ⟨x, z⟩ m hi ⟨hm, hx, hf⟩ ih
    dsimp only at hx ⊢
    subst hm; subst hx
    rw [fstI_s hi] at hf
    obtain ⟨⟨a, ha, ea⟩, l, hl, el⟩ := hbb i hi
    have r1 : m 21 (i * 2 + 0) = nI a := (hB.2.2 i (by omega)).1.trans ea
    have r2 : m 21 (i * 2 + 1) = s (130 + i) := (hB.2.2 i (by omega)).2
    have ep := (hL.2.2.2.2.2.1 a (by omega)).2.2.1
    have hm1 : 0 ≤ nI a ∧ nI a < s 31 := by rw [hn]; exact ix_in ha (by omega)
    rw [ea, nN_nI (by omega)] at hf
    refine cw_iload_n (pc := 2) dX8_looked_2 rfl rfl <|
      cw_aload_n (pc := 3) dX8_looked_3 rfl rfl <|
      cw_getR (q := 0) (t := 1) (pc := 4) dX8_looked_4 fX8_12 sh_0 (by decide) rfl <|
      cw_getR (q := 1) (t := 20) (pc := 7) dX8_looked_7 fX8_258 sh_1 (by decide) rfl <|
      cw_getI (q := 20) (pc := 10) dX8_looked_10 fX8_159 sh_20 (by decide) rfl <|
      cw_icmp_ge_F (tgt := 72) (pc := 13) dX8_looked_13 (by decide) (by rw [hb2]; exact nI_ge hi (by omega)) <|
      cw_aload_n (pc := 16) dX8_looked_16 rfl rfl <|
      cw_getR (q := 0) (t := 1) (pc := 17) dX8_looked_17 fX8_12 sh_0 (by decide) rfl <|
      cw_getR (q := 1) (t := 20) (pc := 20) dX8_looked_20 fX8_258 sh_1 (by decide) rfl <|
      cw_iload_n (pc := 23) dX8_looked_23 rfl rfl <|
      cw_iconst (v := 0) (pc := 24) dX8_looked_24 (by decide) <|
      cw_invI (q := 20) (pc := 25) dX8_looked_25 (c_X6_at row_20 (w := 2) (sz := k) (row := i) (col := 0) hB.1 (by decide) hb2 (by omega) (by omega) hi (by decide)) rfl vX8_206 sh_20 (by decide) rfl rfl rfl (by decide) <|
      ?_
    rw [r1]
    refine cw_istore_n (L' := [_, _, _]) (pc := 28) dX8_looked_28 rfl (by decide) rfl rfl <|
      cw_aload_n (pc := 29) dX8_looked_29 rfl rfl <|
      cw_getR (q := 0) (t := 2) (pc := 30) dX8_looked_30 fX8_25 sh_0 (by decide) rfl <|
      cw_iload_n (pc := 33) dX8_looked_33 rfl rfl <|
      cw_invI (q := 2) (pc := 34) dX8_looked_34 (c_has land_2 h31 hn h6) rfl vX8_112 sh_2 (by decide) rfl rfl rfl (by decide) <|
      cw_if_eq_F (tgt := 66) (pc := 37) dX8_looked_37 (by decide) (bI_n0.mpr hm1) <|
      cw_aload_n (pc := 40) dX8_looked_40 rfl rfl <|
      cw_getR (q := 0) (t := 2) (pc := 41) dX8_looked_41 fX8_25 sh_0 (by decide) rfl <|
      cw_getR (q := 2) (t := 6) (pc := 44) dX8_looked_44 fX8_123 sh_2 (by decide) rfl <|
      cw_iload_n (pc := 47) dX8_looked_47 rfl rfl <|
      cw_ial (q := 6) (jn := a) (pc := 48) dX8_looked_48 sh_6 rfl (by omega) (by decide) <|
      ?_
    rw [ep]
    refine cw_aload_n (pc := 49) dX8_looked_49 rfl rfl <|
      cw_getR (q := 0) (t := 1) (pc := 50) dX8_looked_50 fX8_12 sh_0 (by decide) rfl <|
      cw_getR (q := 1) (t := 20) (pc := 53) dX8_looked_53 fX8_258 sh_1 (by decide) rfl <|
      cw_iload_n (pc := 56) dX8_looked_56 rfl rfl <|
      cw_iconst (v := 1) (pc := 57) dX8_looked_57 (by decide) <|
      cw_invI (q := 20) (pc := 58) dX8_looked_58 (c_X6_at row_20 (w := 2) (sz := k) (row := i) (col := 1) hB.1 (by decide) hb2 (by omega) (by omega) hi (by decide)) rfl vX8_206 sh_20 (by decide) rfl rfl rfl (by decide) <|
      ?_
    rw [r2]
    refine cw_icmp_eq (tgt := 66) (pc := 61) dX8_looked_61 (by decide) (fun c61 => ?_) (fun c61 => ?_)
    · refine cw_iincL (L' := [_, _, _]) (c := 1) (pc := 66) dX8_looked_66 rfl (by decide) (by decide) rfl rfl <|
        cw_goto (tgt := 2) (pc := 69) dX8_looked_69 (by decide) <|
        ?_
      exact ih (_, _) _ ⟨rfl, nI_1 i, by rw [hf, if_neg (by simp [c61])]⟩
    · refine cw_iload_n (pc := 64) dX8_looked_64 rfl rfl <|
        cw_iret (pc := 65) dX8_looked_65 hR <|
        ⟨by rw [hf, if_pos (by simp [c61])], rfl⟩
