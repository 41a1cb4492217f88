def lineA (s : Row) (code : PCo) (x l w : Int32) : Int32 := if (0 ≤ x ∧ x < s 31) ∧ (0 ≤ l ∧ l < 9) then (if 10 ≤ w ∧ w ≤ 22 then nI (lnS s code (nN x) (nN l) (nN w - 10)) else if w = 0 then nI (stat (lnS s code (nN x) (nN l)) 12).1 else if w = 1 then nI (stat (lnS s code (nN x) (nN l)) 12).2.1 else if w = 2 then nI (spanN (lnS s code (nN x) (nN l))) else if w = 3 then scoreN (lnS s code (nN x) (nN l)) else -999999) else -999999
theorem lnS_le {s : Row} {code : PCo} {p l : Nat} (h : l ≤ 8) (x : Nat) : lnS s code p l x ≤ 8 := line_le h x
set_option maxHeartbeats 4000000 in
set_option maxRecDepth 100000 in
theorem c_X8_line {E : Ev} {μ : Mem} {s : Row} {n mk : Nat} {code : PCo} (hI : Inv s n code mk) (hR1 : Rel μ 1 s code mk) {x l w : Int32} : AM E yX8_line cX8_line 5 (some .int) 4 [.ref 0, .int x, .int l, .int w] μ (fun r μ' => r = some (.int (lineA s code x l w)) ∧ Same (fun q _ => 43 ≤ q ∧ q ≤ 64) μ μ') := by
  refine am_of (own := RX8) (L := [.ref 0, .int x, .int l, .int w, .null]) (by decide) rfl (Nat.le_of_ble_eq_true rfl) rfl (fun Γ hR => ?_)
  have hR0 := hR1
  obtain ⟨hIL, hIP, hIC, hIS, hIW, hIB, hIT⟩ := hI
  obtain ⟨hL, ⟨hcd, hmk⟩, hT, hC, hS, hW, hB, hnp⟩ := hR1
  have hn := hIL.1
  have h6 := hIL.2.1
  have h31 : μ 2 1 = s 31 := hL.2.1
  have k19 : CW E Γ cX8_line 5 RX8 4 19 [.ref 0, .int x, .int l, .int w, .int (bI (10 ≤ w ∧ w ≤ 22))] [] μ := by
    by_cases hx : 0 ≤ x ∧ x < s 31
    · by_cases hl : 0 ≤ l ∧ l < 9
      · by_cases hw : (10 ≤ w ∧ w ≤ 22) ∨ (0 ≤ w ∧ w ≤ 3)
        · obtain ⟨p, hp, rfl⟩ := isM_of hn h6 hx
          obtain ⟨q, hq, rfl⟩ := isLn_of hl
          have hp6 : p < 6 := by omega
          have np : nN (nI p) = p := nN_nI (by omega)
          have nq : nN (nI q) = q := nN_nI (by omega)
          have hpre : ∀ v, lineA s code (nI p) (nI q) v = (if 10 ≤ v ∧ v ≤ 22 then nI (lnS s code p q (nN v - 10)) else if v = 0 then nI (stat (lnS s code p q) 12).1 else if v = 1 then nI (stat (lnS s code p q) 12).2.1 else if v = 2 then nI (spanN (lnS s code p q)) else if v = 3 then scoreN (lnS s code p q) else -999999) := fun v => by rw [lineA, if_pos ⟨hx, hl⟩, np, nq]
          have k54 : CW E Γ cX8_line 5 RX8 4 54 [.ref 0, .int (nI p), .int (nI q), .int w, .int (bI (10 ≤ w ∧ w ≤ 22))] [] μ := by
            refine cw_aload_n (pc := 54) dX8_line_54 rfl rfl <|
              cw_getR (q := 0) (t := 50) (pc := 55) dX8_line_55 fX8_35 sh_0 (by decide) rfl <|
              cw_iload_n (pc := 58) dX8_line_58 rfl rfl <|
              cw_iload_n (pc := 59) dX8_line_59 rfl rfl <|
              cw_invP (q := 50) (pc := 60) dX8_line_60 (c_X4_goes plo_50 land_2 par_9 hcd hIP.2.2.2 hp6 (by rw [h31]; exact hx.2) hq) rfl vX8_178 sh_50 (by decide) rfl rfl rfl (by decide) <|
              ?_
            rintro _ m ⟨rfl, s1, sl, so, sb⟩
            have el := hL.line code (l := q) hp6
            have est := stat_congr el 12 (Nat.le_refl _)
            rw [est] at so sb
            have sl2 : ∀ x, x ≤ 12 → m 53 x = nI (lnS s code p q x) := fun x hx => (sl x hx).trans (by rw [el x hx])
            have hS1 : Same (fun q _ => 43 ≤ q ∧ q ≤ 64) μ m := s1.mo (fun q i h => by unfold PH at h; omega)
            refine cw_pop (pc := 63) dX8_line_63 rfl <|
              ?_
            by_cases hpl : 10 ≤ w ∧ w ≤ 22
            · obtain ⟨y, hy, rfl⟩ := rng (A := 10) (B := 23) (by decide) (by decide) hpl.1 (Int32.lt_of_le_of_lt hpl.2 (by decide))
              have es : nI (10 + y) - 10 = nI y := by rw [show (10 : Int32) = nI 10 from rfl, pk_sub (by omega), Nat.add_sub_cancel_left]
              have en : nN (nI (10 + y)) - 10 = y := by rw [nN_nI (by omega)]; omega
              have ey := sl2 y (by omega)
              refine cw_iload (pc := 64) dX8_line_64 rfl <|
                cw_if_eq_F (tgt := 82) (pc := 66) dX8_line_66 (by decide) (bI_n0.mpr hpl) <|
                cw_aload_n (pc := 69) dX8_line_69 rfl rfl <|
                cw_getR (q := 0) (t := 50) (pc := 70) dX8_line_70 fX8_35 sh_0 (by decide) rfl <|
                cw_getR (q := 50) (t := 53) (pc := 73) dX8_line_73 fX8_181 sh_50 (by decide) rfl <|
                cw_iload_n (pc := 76) dX8_line_76 rfl rfl <|
                cw_bipush (v := 10) (pc := 77) dX8_line_77 (by decide) <|
                cw_isub (pc := 79) dX8_line_79 <|
                ?_
              rw [es]
              refine cw_ial (q := 53) (jn := y) (pc := 80) dX8_line_80 sh_53 rfl (by omega) (by decide) <|
                ?_
              rw [ey]
              refine cw_iret (pc := 81) dX8_line_81 hR <|
                ⟨by rw [hpre, if_pos hpl, en], hS1⟩
            · have hw3 := hw.resolve_left hpl
              by_cases e0 : w = 0
              · subst e0
                refine cw_iload (pc := 64) dX8_line_64 rfl <|
                  cw_if_eq_T (tgt := 82) (pc := 66) dX8_line_66 (by decide) (bI_0.mpr hpl) <|
                  cw_iload_n (pc := 82) dX8_line_82 rfl rfl <|
                  cw_tabI (v := 0) (tgt := 108) (pc := 83) dX8_line_83 rfl (by decide) (by decide) rfl (by decide) <|
                  cw_aload_n (pc := 108) dX8_line_108 rfl rfl <|
                  cw_getR (q := 0) (t := 50) (pc := 109) dX8_line_109 fX8_35 sh_0 (by decide) rfl <|
                  cw_getI (q := 50) (pc := 112) dX8_line_112 fX8_184 sh_50 (by decide) rfl <|
                  ?_
                rw [so]
                refine cw_iret (pc := 115) dX8_line_115 hR <|
                  ⟨by rw [hpre]; simp, hS1⟩
              by_cases e1 : w = 1
              · subst e1
                refine cw_iload (pc := 64) dX8_line_64 rfl <|
                  cw_if_eq_T (tgt := 82) (pc := 66) dX8_line_66 (by decide) (bI_0.mpr hpl) <|
                  cw_iload_n (pc := 82) dX8_line_82 rfl rfl <|
                  cw_tabI (v := 1) (tgt := 116) (pc := 83) dX8_line_83 rfl (by decide) (by decide) rfl (by decide) <|
                  cw_aload_n (pc := 116) dX8_line_116 rfl rfl <|
                  cw_getR (q := 0) (t := 50) (pc := 117) dX8_line_117 fX8_35 sh_0 (by decide) rfl <|
                  cw_getI (q := 50) (pc := 120) dX8_line_120 fX8_187 sh_50 (by decide) rfl <|
                  ?_
                rw [sb]
                refine cw_iret (pc := 123) dX8_line_123 hR <|
                  ⟨by rw [hpre]; simp, hS1⟩
              by_cases e2 : w = 2
              · subst e2
                refine cw_iload (pc := 64) dX8_line_64 rfl <|
                  cw_if_eq_T (tgt := 82) (pc := 66) dX8_line_66 (by decide) (bI_0.mpr hpl) <|
                  cw_iload_n (pc := 82) dX8_line_82 rfl rfl <|
                  cw_tabI (v := 2) (tgt := 124) (pc := 83) dX8_line_83 rfl (by decide) (by decide) rfl (by decide) <|
                  cw_aload_n (pc := 124) dX8_line_124 rfl rfl <|
                  cw_getR (q := 0) (t := 50) (pc := 125) dX8_line_125 fX8_35 sh_0 (by decide) rfl <|
                  cw_invI (q := 50) (pc := 128) dX8_line_128 (c_X4_span plo_50 (lnS_le hq 12) (lnS_le hq 0) (sl2 12 (Nat.le_refl _)) (sl2 0 (by omega))) rfl vX8_190 sh_50 (by decide) rfl rfl rfl (by decide) <|
                  cw_iret (pc := 131) dX8_line_131 hR <|
                  ⟨by rw [hpre]; rfl, hS1⟩
              have e3 : w = 3 := by
                obtain ⟨y, hy, rfl⟩ := ix_of (n := 4) (by decide) ⟨hw3.1, Int32.lt_of_le_of_lt hw3.2 (by decide)⟩
                rcases (show y = 0 ∨ y = 1 ∨ y = 2 ∨ y = 3 by omega) with rfl | rfl | rfl | rfl
                · exact absurd rfl e0
                · exact absurd rfl e1
                · exact absurd rfl e2
                · rfl
              subst e3
              refine cw_iload (pc := 64) dX8_line_64 rfl <|
                cw_if_eq_T (tgt := 82) (pc := 66) dX8_line_66 (by decide) (bI_0.mpr hpl) <|
                cw_iload_n (pc := 82) dX8_line_82 rfl rfl <|
                cw_tabD (tgt := 132) (pc := 83) dX8_line_83 (by decide) (by decide) <|
                cw_aload_n (pc := 132) dX8_line_132 rfl rfl <|
                cw_getR (q := 0) (t := 50) (pc := 133) dX8_line_133 fX8_35 sh_0 (by decide) rfl <|
                cw_invI (q := 50) (pc := 136) dX8_line_136 (c_X4_score plo_50 (lnS_le hq 12) (lnS_le hq 0) (sl2 12 (Nat.le_refl _)) (sl2 0 (by omega))) rfl vX8_193 sh_50 (by decide) rfl rfl rfl (by decide) <|
                cw_iret (pc := 139) dX8_line_139 hR <|
                ⟨by rw [hpre, so, sb, scoreN_eq (lnS s code p q) rfl rfl rfl rfl]; simp, hS1⟩
          by_cases hpl : 10 ≤ w ∧ w ≤ 22
          · refine cw_aload_n (pc := 19) dX8_line_19 rfl rfl <|
              cw_getR (q := 0) (t := 2) (pc := 20) dX8_line_20 fX8_25 sh_0 (by decide) rfl <|
              cw_iload_n (pc := 23) dX8_line_23 rfl rfl <|
              cw_invI (q := 2) (pc := 24) dX8_line_24 (c_has land_2 h31 hn h6) rfl vX8_112 sh_2 (by decide) rfl rfl rfl (by decide) <|
              cw_if_eq_F (tgt := 51) (pc := 27) dX8_line_27 (by decide) (bI_n0.mpr hx) <|
              cw_iload_n (pc := 30) dX8_line_30 rfl rfl <|
              cw_insI (pc := 31) dX8_line_31 c_X8_isLane vX8_105 rfl rfl rfl (by decide) <|
              cw_if_eq_F (tgt := 51) (pc := 34) dX8_line_34 (by decide) (bI_n0.mpr hl) <|
              cw_iload (pc := 37) dX8_line_37 rfl <|
              cw_if_ne_T (tgt := 54) (pc := 39) dX8_line_39 (by decide) (bI_n0.mpr hpl) <|
              ?_
            exact k54
          · refine cw_aload_n (pc := 19) dX8_line_19 rfl rfl <|
              cw_getR (q := 0) (t := 2) (pc := 20) dX8_line_20 fX8_25 sh_0 (by decide) rfl <|
              cw_iload_n (pc := 23) dX8_line_23 rfl rfl <|
              cw_invI (q := 2) (pc := 24) dX8_line_24 (c_has land_2 h31 hn h6) rfl vX8_112 sh_2 (by decide) rfl rfl rfl (by decide) <|
              cw_if_eq_F (tgt := 51) (pc := 27) dX8_line_27 (by decide) (bI_n0.mpr hx) <|
              cw_iload_n (pc := 30) dX8_line_30 rfl rfl <|
              cw_insI (pc := 31) dX8_line_31 c_X8_isLane vX8_105 rfl rfl rfl (by decide) <|
              cw_if_eq_F (tgt := 51) (pc := 34) dX8_line_34 (by decide) (bI_n0.mpr hl) <|
              cw_iload (pc := 37) dX8_line_37 rfl <|
              cw_if_ne_F (tgt := 54) (pc := 39) dX8_line_39 (by decide) (bI_0.mpr hpl) <|
              cw_iload_n (pc := 42) dX8_line_42 rfl rfl <|
              cw_if_lt_F (tgt := 51) (pc := 43) dX8_line_43 (by decide) (Int32.not_lt.mpr (hw.resolve_left hpl).1) <|
              cw_iload_n (pc := 46) dX8_line_46 rfl rfl <|
              cw_iconst (v := 3) (pc := 47) dX8_line_47 (by decide) <|
              cw_icmp_le_T (tgt := 54) (pc := 48) dX8_line_48 (by decide) (hw.resolve_left hpl).2 <|
              ?_
            exact k54
        · refine cw_aload_n (pc := 19) dX8_line_19 rfl rfl <|
            cw_getR (q := 0) (t := 2) (pc := 20) dX8_line_20 fX8_25 sh_0 (by decide) rfl <|
            cw_iload_n (pc := 23) dX8_line_23 rfl rfl <|
            cw_invI (q := 2) (pc := 24) dX8_line_24 (c_has land_2 h31 hn h6) rfl vX8_112 sh_2 (by decide) rfl rfl rfl (by decide) <|
            cw_if_eq_F (tgt := 51) (pc := 27) dX8_line_27 (by decide) (bI_n0.mpr hx) <|
            cw_iload_n (pc := 30) dX8_line_30 rfl rfl <|
            cw_insI (pc := 31) dX8_line_31 c_X8_isLane vX8_105 rfl rfl rfl (by decide) <|
            cw_if_eq_F (tgt := 51) (pc := 34) dX8_line_34 (by decide) (bI_n0.mpr hl) <|
            cw_iload (pc := 37) dX8_line_37 rfl <|
            cw_if_ne_F (tgt := 54) (pc := 39) dX8_line_39 (by decide) (bI_0.mpr (fun h => hw (Or.inl h))) <|
            cw_iload_n (pc := 42) dX8_line_42 rfl rfl <|
            cw_if_lt (tgt := 51) (pc := 43) dX8_line_43 (by decide) (fun c43 => ?_) (fun c43 => ?_)
          · refine cw_ldc (pc := 51) dX8_line_51 kX8_115 <|
              cw_iret (pc := 53) dX8_line_53 hR <|
              ⟨by rw [lineA, if_pos ⟨hx, hl⟩, if_neg (fun h => hw (Or.inl h)), if_neg (fun h => hw (Or.inr (by rw [h]; decide))), if_neg (fun h => hw (Or.inr (by rw [h]; decide))), if_neg (fun h => hw (Or.inr (by rw [h]; decide))), if_neg (fun h => hw (Or.inr (by rw [h]; decide)))], Same.rf⟩
          · refine cw_iload_n (pc := 46) dX8_line_46 rfl rfl <|
              cw_iconst (v := 3) (pc := 47) dX8_line_47 (by decide) <|
              cw_icmp_le (tgt := 54) (pc := 48) dX8_line_48 (by decide) (fun c48 => ?_) (fun c48 => ?_)
            · exact absurd (Or.inr ⟨Int32.not_lt.mp c43, c48⟩) hw
            · refine cw_ldc (pc := 51) dX8_line_51 kX8_115 <|
                cw_iret (pc := 53) dX8_line_53 hR <|
                ⟨by rw [lineA, if_pos ⟨hx, hl⟩, if_neg (fun h => hw (Or.inl h)), if_neg (fun h => hw (Or.inr (by rw [h]; decide))), if_neg (fun h => hw (Or.inr (by rw [h]; decide))), if_neg (fun h => hw (Or.inr (by rw [h]; decide))), if_neg (fun h => hw (Or.inr (by rw [h]; decide)))], Same.rf⟩
      · refine cw_aload_n (pc := 19) dX8_line_19 rfl rfl <|
          cw_getR (q := 0) (t := 2) (pc := 20) dX8_line_20 fX8_25 sh_0 (by decide) rfl <|
          cw_iload_n (pc := 23) dX8_line_23 rfl rfl <|
          cw_invI (q := 2) (pc := 24) dX8_line_24 (c_has land_2 h31 hn h6) rfl vX8_112 sh_2 (by decide) rfl rfl rfl (by decide) <|
          cw_if_eq_F (tgt := 51) (pc := 27) dX8_line_27 (by decide) (bI_n0.mpr hx) <|
          cw_iload_n (pc := 30) dX8_line_30 rfl rfl <|
          cw_insI (pc := 31) dX8_line_31 c_X8_isLane vX8_105 rfl rfl rfl (by decide) <|
          cw_if_eq_T (tgt := 51) (pc := 34) dX8_line_34 (by decide) (bI_0.mpr hl) <|
          cw_ldc (pc := 51) dX8_line_51 kX8_115 <|
          cw_iret (pc := 53) dX8_line_53 hR <|
          ⟨by rw [lineA, if_neg (fun h => hl h.2)], Same.rf⟩
    · refine cw_aload_n (pc := 19) dX8_line_19 rfl rfl <|
        cw_getR (q := 0) (t := 2) (pc := 20) dX8_line_20 fX8_25 sh_0 (by decide) rfl <|
        cw_iload_n (pc := 23) dX8_line_23 rfl rfl <|
        cw_invI (q := 2) (pc := 24) dX8_line_24 (c_has land_2 h31 hn h6) rfl vX8_112 sh_2 (by decide) rfl rfl rfl (by decide) <|
        cw_if_eq_T (tgt := 51) (pc := 27) dX8_line_27 (by decide) (bI_0.mpr hx) <|
        cw_ldc (pc := 51) dX8_line_51 kX8_115 <|
        cw_iret (pc := 53) dX8_line_53 hR <|
        ⟨by rw [lineA, if_neg (fun h => hx h.1)], Same.rf⟩
  by_cases ha : w < 10
  · refine cw_iload_n (pc := 0) dX8_line_0 rfl rfl <|
      cw_bipush (v := 10) (pc := 1) dX8_line_1 (by decide) <|
      cw_icmp_lt_T (tgt := 16) (pc := 3) dX8_line_3 (by decide) ha <|
      cw_iconst (v := 0) (pc := 16) dX8_line_16 (by decide) <|
      cw_istore (L' := [_, _, _, _, _]) (pc := 17) dX8_line_17 (by decide) rfl rfl <|
      ?_
    have e3 : bI (10 ≤ w ∧ w ≤ 22) = 0 := bI_f (fun h => absurd ha (Int32.not_lt.mpr h.1))
    rw [e3] at k19
    exact k19
  · by_cases hb : w ≤ 22
    · refine cw_iload_n (pc := 0) dX8_line_0 rfl rfl <|
        cw_bipush (v := 10) (pc := 1) dX8_line_1 (by decide) <|
        cw_icmp_lt_F (tgt := 16) (pc := 3) dX8_line_3 (by decide) ha <|
        cw_iload_n (pc := 6) dX8_line_6 rfl rfl <|
        cw_bipush (v := 22) (pc := 7) dX8_line_7 (by decide) <|
        cw_icmp_gt_F (tgt := 16) (pc := 9) dX8_line_9 (by decide) (Int32.not_lt.mpr hb) <|
        cw_iconst (v := 1) (pc := 12) dX8_line_12 (by decide) <|
        cw_goto (tgt := 17) (pc := 13) dX8_line_13 (by decide) <|
        cw_istore (L' := [_, _, _, _, _]) (pc := 17) dX8_line_17 (by decide) rfl rfl <|
        ?_
      have e3 : bI (10 ≤ w ∧ w ≤ 22) = 1 := bI_t ⟨Int32.not_lt.mp ha, hb⟩
      rw [e3] at k19
      exact k19
    · refine cw_iload_n (pc := 0) dX8_line_0 rfl rfl <|
        cw_bipush (v := 10) (pc := 1) dX8_line_1 (by decide) <|
        cw_icmp_lt_F (tgt := 16) (pc := 3) dX8_line_3 (by decide) ha <|
        cw_iload_n (pc := 6) dX8_line_6 rfl rfl <|
        cw_bipush (v := 22) (pc := 7) dX8_line_7 (by decide) <|
        cw_icmp_gt_T (tgt := 16) (pc := 9) dX8_line_9 (by decide) (Int32.not_le.mp hb) <|
        cw_iconst (v := 0) (pc := 16) dX8_line_16 (by decide) <|
        cw_istore (L' := [_, _, _, _, _]) (pc := 17) dX8_line_17 (by decide) rfl rfl <|
        ?_
      have e3 : bI (10 ≤ w ∧ w ≤ 22) = 0 := bI_f (fun h => hb h.2)
      rw [e3] at k19
      exact k19
