theorem RelL.eq {μ μ' : Mem} {k o : Nat} {s : Row} (e : LandEq μ' k μ o) (h : RelL μ o s) : RelL μ' k s := by
  obtain ⟨e1, e2, e3, e4, e5, e6, e7⟩ := e
  obtain ⟨a1, a2, a3, a4, a5, a6, a7⟩ := h
  exact ⟨(e1 0 (by omega)).trans a1, (e1 1 (by omega)).trans a2, (e1 2 (by omega)).trans a3, (e1 3 (by omega)).trans a4, fun x hx => (e2 x hx).trans (a5 x hx), fun p hp => ⟨(e3 p hp).trans (a6 p hp).1, (e4 p hp).trans (a6 p hp).2.1, (e5 p hp).trans (a6 p hp).2.2.1, (e6 p hp).trans (a6 p hp).2.2.2⟩, fun j hj => (e7 j hj).trans (a7 j hj)⟩
theorem RelL.uncap {μ : Mem} {k : Nat} {r : Row} {n Y M C : Nat} (h : RelL μ k (capR C r)) (hi : InvL r n Y M) (hMC : M ≤ C) (hM : M < 2 ^ 31) : RelL μ k r := by
  refine ⟨h.1.trans (capR_o (by omega)), h.2.1.trans (capR_o (by omega)), ?_, ?_, fun x hx => (h.2.2.2.2.1 x hx).trans (capR_o (by omega)), fun p hp => ?_, fun j hj => (h.2.2.2.2.2.2 j hj).trans (capR_o (by omega))⟩
  · rw [h.2.2.1]; exact bitsI_congr (fun p hp => by unfold naS; rw [capR_o (by omega)])
  · rw [h.2.2.2.1]; exact bitsI_congr (fun p hp => by unfold beS; rw [capR_o (by omega)])
  · obtain ⟨b1, b2, b3, b4⟩ := h.2.2.2.2.2.1 p hp
    refine ⟨b1.trans (capR_o (by omega)), b2.trans (capR_o (by omega)), b3.trans (capR_o (by omega)), ?_⟩
    obtain ⟨w, hw, ew⟩ := hi.2.2.2.2.2.1 p hp
    rw [b4]; unfold capR; rw [if_pos (by omega), ew, nN_nI (by omega), Nat.min_eq_right (by omega)]
/-- the second land: a copy, and years that go there -/
theorem c_copy {E : Ev} {μ : Mem} {s : Row} (h : RelL μ 2 s) : AM E yX2_takes cX2_takes 2 none 1 [.ref 43, .ref 2] μ (fun r μ' => r = none ∧ RelL μ' 43 s ∧ Same (fun q _ => 43 ≤ q ∧ q ≤ 49) μ μ') :=
  (c_X2_takes land_43 land_2 (by decide)).mono (fun r μ' q => ⟨q.1, RelL.eq q.2.1 h, q.2.2⟩)
theorem c_ifsYears {E : Ev} {μ : Mem} {code : PCo} (hc : CodeAt μ 9 code) (hw : WFc 0 code) {s : Row} {n Y M mk k : Nat} (hL : RelL μ 43 s) (hi : InvL s n Y M) (hY : Y ≤ 20000) (hM : M + k ≤ 1000000) (hk60 : k ≤ 60) (hmk : μ 9 3 = nI mk) : AM E yX4_yearsGo cX4_yearsGo 7 none 5 [.ref 54, .int (nI k), .int 1000000] μ (fun r μ' => r = none ∧ RelL μ' 43 (evo s code (nI mk) n k) ∧ Same (fun q _ => 43 ≤ q ∧ q ≤ 57) μ μ') :=
  (c_years plo_54 land_43 par_9 hc hw (by decide) (C := 1000000) hL hi hY (by omega) (by decide) hk60 hmk).mono (fun r μ' q => ⟨q.1, q.2.1.uncap (hi.evo k (by omega) (by omega)) hM (by omega), q.2.2.mo (fun q i h => by unfold FY PS at h; omega)⟩)
def onA (s : Row) (code : PCo) (mk n : Nat) (x w : Int32) : Int32 := if w = 0 ∨ (10 ≤ w ∧ w < 10 + s 31) ∨ (20 ≤ w ∧ w < 20 + s 33) then (if 0 ≤ x ∧ x ≤ 60 then (if 10 ≤ w ∧ w < 10 + s 31 then evo s code (nI mk) n (nN x) (13 + (nN w - 10)) else if 20 ≤ w ∧ w < 20 + s 33 then decS (evo s code (nI mk) n (nN x)) (nN w - 20) else bitsI (beS (evo s code (nI mk) n (nN x))) 6) else -2) else -1
theorem decS_evo {s : Row} {code : PCo} {mk : Int32} {n k c : Nat} : decS (evo s code mk n k) c = decI (beS (evo s code mk n k)) (nN (s (81 + c))) (nN (s (86 + c))) := by unfold decS; rw [evo_o (by omega), evo_o (by omega)]
set_option maxHeartbeats 4000000 in
set_option maxRecDepth 100000 in
theorem c_X8_on {E : Ev} {μ : Mem} {s : Row} {n mk : Nat} {code : PCo} (hI : Inv s n code mk) (hR1 : Rel μ 1 s code mk) {x w : Int32} : AM E yX8_on cX8_on 5 (some .int) 6 [.ref 0, .int x, .int w] μ (fun r μ' => r = some (.int (onA s code mk n x w)) ∧ Same (fun q _ => 43 ≤ q ∧ q ≤ 64) μ μ') := by
  refine am_of (own := RX8) (L := [.ref 0, .int x, .int w, .null, .null]) (by decide) rfl (Nat.le_of_ble_eq_true rfl) rfl (fun Γ hR => ?_)
  have hR0 := hR1
  obtain ⟨hIL, hIP, hIC, hIS, hIW, hIB, hIT⟩ := hI
  obtain ⟨hL, ⟨hcd, hmk⟩, hT, hC, hS, hW, hB, hnp⟩ := hR1
  have hn := hIL.1
  have h6 := hIL.2.1
  have h31 : μ 2 1 = s 31 := hL.2.1
  obtain ⟨cs, hcs, e33, hcc⟩ := hIC
  have hc2 : μ 14 2 = s 33 := hC.2.1
  have k71 : (w = 0 ∨ (10 ≤ w ∧ w < 10 + s 31) ∨ (20 ≤ w ∧ w < 20 + s 33)) → CW E Γ cX8_on 5 RX8 6 71 [.ref 0, .int x, .int w, .int (bI (10 ≤ w ∧ w < 10 + s 31)), .int (bI (20 ≤ w ∧ w < 20 + s 33))] [] μ := by
    intro hw
    by_cases hx : 0 ≤ x ∧ x ≤ 60
    · obtain ⟨k, hk, rfl⟩ := ix_of (n := 61) (by decide) ⟨hx.1, Int32.lt_of_le_of_lt hx.2 (by decide)⟩
      have nk : nN (nI k) = k := nN_nI (by omega)
      refine cw_iload_n (pc := 71) dX8_on_71 rfl rfl <|
        cw_if_lt_F (tgt := 81) (pc := 72) dX8_on_72 (by decide) (Int32.not_lt.mpr hx.1) <|
        cw_iload_n (pc := 75) dX8_on_75 rfl rfl <|
        cw_bipush (v := 60) (pc := 76) dX8_on_76 (by decide) <|
        cw_icmp_le_T (tgt := 84) (pc := 78) dX8_on_78 (by decide) hx.2 <|
        cw_aload_n (pc := 84) dX8_on_84 rfl rfl <|
        cw_getR (q := 0) (t := 43) (pc := 85) dX8_on_85 fX8_42 sh_0 (by decide) rfl <|
        cw_aload_n (pc := 88) dX8_on_88 rfl rfl <|
        cw_getR (q := 0) (t := 2) (pc := 89) dX8_on_89 fX8_25 sh_0 (by decide) rfl <|
        cw_invP (q := 43) (pc := 92) dX8_on_92 (c_copy hL) rfl vX8_202 sh_43 (by decide) rfl rfl rfl (by decide) <|
        ?_
      rintro _ m1 ⟨rfl, l1, s1⟩
      refine cw_aload_n (pc := 95) dX8_on_95 rfl rfl <|
        cw_getR (q := 0) (t := 54) (pc := 96) dX8_on_96 fX8_45 sh_0 (by decide) rfl <|
        cw_iload_n (pc := 99) dX8_on_99 rfl rfl <|
        cw_ldc (pc := 100) dX8_on_100 kX8_205 <|
        cw_invP (q := 54) (pc := 102) dX8_on_102 (c_ifsYears (hcd.mo (funext fun i => s1 _ _ (by omega)) (funext fun i => s1 _ _ (by omega)) (funext fun i => s1 _ _ (by omega))) hIP.2.2.2 l1 hIL (by decide) (by omega) (by omega) (by rw [s1 _ _ (by omega)]; exact hmk)) rfl vX8_174 sh_54 (by decide) rfl rfl rfl (by decide) <|
        ?_
      rintro _ m2 ⟨rfl, l2, s2⟩
      have sS : Same (fun q _ => 43 ≤ q ∧ q ≤ 64) μ m2 := (s1.mo (fun q i h => by omega)).tr (s2.mo (fun q i h => by omega))
      by_cases hm : 10 ≤ w ∧ w < 10 + s 31
      · have hm' : w < nI (10 + n) := by have := hm.2; rw [hn, show (10 : Int32) + nI n = nI (10 + n) from nI_add 10 n] at this; exact this
        obtain ⟨p, hp, rfl⟩ := rng (A := 10) (B := 10 + n) (by omega) (by decide) hm.1 hm'
        have hp6 : p < 6 := by omega
        have es : nI (10 + p) - 10 = nI p := by rw [show (10 : Int32) = nI 10 from rfl, pk_sub (by omega), Nat.add_sub_cancel_left]
        have en : nN (nI (10 + p)) - 10 = p := by rw [nN_nI (by omega)]; omega
        have ew := (l2.2.2.2.2.2.1 p hp6).2.2.2
        refine cw_iload_n (pc := 105) dX8_on_105 rfl rfl <|
          cw_if_eq_F (tgt := 122) (pc := 106) dX8_on_106 (by decide) (bI_n0.mpr hm) <|
          cw_aload_n (pc := 109) dX8_on_109 rfl rfl <|
          cw_getR (q := 0) (t := 43) (pc := 110) dX8_on_110 fX8_42 sh_0 (by decide) rfl <|
          cw_getR (q := 43) (t := 48) (pc := 113) dX8_on_113 fX8_133 sh_43 (by decide) rfl <|
          cw_iload_n (pc := 116) dX8_on_116 rfl rfl <|
          cw_bipush (v := 10) (pc := 117) dX8_on_117 (by decide) <|
          cw_isub (pc := 119) dX8_on_119 <|
          ?_
        rw [es]
        refine cw_ial (q := 48) (jn := p) (pc := 120) dX8_on_120 sh_48 rfl (by omega) (by decide) <|
          ?_
        rw [ew]
        refine cw_iret (pc := 121) dX8_on_121 hR <|
          ⟨by rw [onA, if_pos hw, if_pos hx, if_pos hm, nk, en], sS⟩
      · by_cases hcw : 20 ≤ w ∧ w < 20 + s 33
        · have hc' : w < nI (20 + cs) := by have := hcw.2; rw [e33, show (20 : Int32) + nI cs = nI (20 + cs) from nI_add 20 cs] at this; exact this
          obtain ⟨y, hy, rfl⟩ := rng (A := 20) (B := 20 + cs) (by omega) (by decide) hcw.1 hc'
          have hyc : y < cs := by omega
          have es : nI (20 + y) - 20 = nI y := by rw [show (20 : Int32) = nI 20 from rfl, pk_sub (by omega), Nat.add_sub_cancel_left]
          have en : nN (nI (20 + y)) - 20 = y := by rw [nN_nI (by omega)]; omega
          obtain ⟨⟨a, ha, ea⟩, b, hb, eb⟩ := hcc y hyc
          have r1 := (hC.2.2 y (by omega)).1.trans ea
          have r2 := (hC.2.2 y (by omega)).2.trans eb
          refine cw_iload_n (pc := 105) dX8_on_105 rfl rfl <|
            cw_if_eq_T (tgt := 122) (pc := 106) dX8_on_106 (by decide) (bI_0.mpr hm) <|
            cw_iload (pc := 122) dX8_on_122 rfl <|
            cw_if_eq_F (tgt := 145) (pc := 124) dX8_on_124 (by decide) (bI_n0.mpr hcw) <|
            cw_aload_n (pc := 127) dX8_on_127 rfl rfl <|
            cw_iload_n (pc := 128) dX8_on_128 rfl rfl <|
            cw_bipush (v := 20) (pc := 129) dX8_on_129 (by decide) <|
            cw_isub (pc := 131) dX8_on_131 <|
            ?_
          rw [es]
          refine cw_aload_n (pc := 132) dX8_on_132 rfl rfl <|
            cw_getR (q := 0) (t := 43) (pc := 133) dX8_on_133 fX8_42 sh_0 (by decide) rfl <|
            cw_getI (q := 43) (pc := 136) dX8_on_136 fX8_136 sh_43 (by decide) rfl <|
            ?_
          rw [l2.2.2.2.1]
          refine cw_invI (q := 0) (pc := 139) dX8_on_139 (c_X8_decided (f := beS (evo s code (nI mk) n k)) ((sS _ _ (by omega)).trans hC.1) ((sS _ _ (by omega)).trans (hc2.trans e33)) hcs hyc ((sS _ _ (by omega)).trans r1) ((sS _ _ (by omega)).trans r2) (by omega) (by omega)) rfl vX8_162 sh_0 (by decide) rfl rfl rfl (by decide) <|
            cw_goto (tgt := 152) (pc := 142) dX8_on_142 (by decide) <|
            cw_iret (pc := 152) dX8_on_152 hR <|
            ⟨by rw [onA, if_pos hw, if_pos hx, if_neg hm, if_pos hcw, nk, en, decS_evo, ea, eb, nN_nI (by omega), nN_nI (by omega)], sS⟩
        · refine cw_iload_n (pc := 105) dX8_on_105 rfl rfl <|
            cw_if_eq_T (tgt := 122) (pc := 106) dX8_on_106 (by decide) (bI_0.mpr hm) <|
            cw_iload (pc := 122) dX8_on_122 rfl <|
            cw_if_eq_T (tgt := 145) (pc := 124) dX8_on_124 (by decide) (bI_0.mpr hcw) <|
            cw_aload_n (pc := 145) dX8_on_145 rfl rfl <|
            cw_getR (q := 0) (t := 43) (pc := 146) dX8_on_146 fX8_42 sh_0 (by decide) rfl <|
            cw_getI (q := 43) (pc := 149) dX8_on_149 fX8_136 sh_43 (by decide) rfl <|
            ?_
          rw [l2.2.2.2.1]
          refine cw_iret (pc := 152) dX8_on_152 hR <|
            ⟨by rw [onA, if_pos hw, if_pos hx, if_neg hm, if_neg hcw, nk], sS⟩
    · refine cw_iload_n (pc := 71) dX8_on_71 rfl rfl <|
        cw_if_lt (tgt := 81) (pc := 72) dX8_on_72 (by decide) (fun c72 => ?_) (fun c72 => ?_)
      · refine cw_bipush (v := -2) (pc := 81) dX8_on_81 (by decide) <|
          cw_iret (pc := 83) dX8_on_83 hR <|
          ⟨by rw [onA, if_pos hw, if_neg hx], Same.rf⟩
      · refine cw_iload_n (pc := 75) dX8_on_75 rfl rfl <|
          cw_bipush (v := 60) (pc := 76) dX8_on_76 (by decide) <|
          cw_icmp_le (tgt := 84) (pc := 78) dX8_on_78 (by decide) (fun c78 => ?_) (fun c78 => ?_)
        · exact absurd ⟨Int32.not_lt.mp c72, c78⟩ hx
        · refine cw_bipush (v := -2) (pc := 81) dX8_on_81 (by decide) <|
            cw_iret (pc := 83) dX8_on_83 hR <|
            ⟨by rw [onA, if_pos hw, if_neg hx], Same.rf⟩
  have k56 : CW E Γ cX8_on 5 RX8 6 56 [.ref 0, .int x, .int w, .int (bI (10 ≤ w ∧ w < 10 + s 31)), .int (bI (20 ≤ w ∧ w < 20 + s 33))] [] μ := by
    by_cases h0 : w = 0
    · refine cw_iload_n (pc := 56) dX8_on_56 rfl rfl <|
        cw_if_eq_T (tgt := 71) (pc := 57) dX8_on_57 (by decide) h0 <|
        ?_
      exact k71 (Or.inl h0)
    · by_cases hm : 10 ≤ w ∧ w < 10 + s 31
      · refine cw_iload_n (pc := 56) dX8_on_56 rfl rfl <|
          cw_if_eq_F (tgt := 71) (pc := 57) dX8_on_57 (by decide) h0 <|
          cw_iload_n (pc := 60) dX8_on_60 rfl rfl <|
          cw_if_ne_T (tgt := 71) (pc := 61) dX8_on_61 (by decide) (bI_n0.mpr hm) <|
          ?_
        exact k71 (Or.inr (Or.inl hm))
      · by_cases hcw : 20 ≤ w ∧ w < 20 + s 33
        · refine cw_iload_n (pc := 56) dX8_on_56 rfl rfl <|
            cw_if_eq_F (tgt := 71) (pc := 57) dX8_on_57 (by decide) h0 <|
            cw_iload_n (pc := 60) dX8_on_60 rfl rfl <|
            cw_if_ne_F (tgt := 71) (pc := 61) dX8_on_61 (by decide) (bI_0.mpr hm) <|
            cw_iload (pc := 64) dX8_on_64 rfl <|
            cw_if_ne_T (tgt := 71) (pc := 66) dX8_on_66 (by decide) (bI_n0.mpr hcw) <|
            ?_
          exact k71 (Or.inr (Or.inr hcw))
        · refine cw_iload_n (pc := 56) dX8_on_56 rfl rfl <|
            cw_if_eq_F (tgt := 71) (pc := 57) dX8_on_57 (by decide) h0 <|
            cw_iload_n (pc := 60) dX8_on_60 rfl rfl <|
            cw_if_ne_F (tgt := 71) (pc := 61) dX8_on_61 (by decide) (bI_0.mpr hm) <|
            cw_iload (pc := 64) dX8_on_64 rfl <|
            cw_if_ne_F (tgt := 71) (pc := 66) dX8_on_66 (by decide) (bI_0.mpr hcw) <|
            cw_iconst (v := -1) (pc := 69) dX8_on_69 (by decide) <|
            cw_iret (pc := 70) dX8_on_70 hR <|
            ⟨by rw [onA, if_neg (fun h => h.elim h0 (fun h => h.elim hm hcw))], Same.rf⟩
  have k26 : CW E Γ cX8_on 5 RX8 6 26 [.ref 0, .int x, .int w, .int (bI (10 ≤ w ∧ w < 10 + s 31)), .null] [] μ := by
    by_cases ha : w < 20
    · refine cw_iload_n (pc := 26) dX8_on_26 rfl rfl <|
        cw_bipush (v := 20) (pc := 27) dX8_on_27 (by decide) <|
        cw_icmp_lt_T (tgt := 53) (pc := 29) dX8_on_29 (by decide) ha <|
        cw_iconst (v := 0) (pc := 53) dX8_on_53 (by decide) <|
        cw_istore (L' := [_, _, _, _, _]) (pc := 54) dX8_on_54 (by decide) rfl rfl <|
        ?_
      have e4 : bI (20 ≤ w ∧ w < 20 + s 33) = 0 := bI_f (fun h => absurd ha (Int32.not_lt.mpr h.1))
      rw [e4] at k56
      exact k56
    · by_cases hb : w < 20 + s 33
      · refine cw_iload_n (pc := 26) dX8_on_26 rfl rfl <|
          cw_bipush (v := 20) (pc := 27) dX8_on_27 (by decide) <|
          cw_icmp_lt_F (tgt := 53) (pc := 29) dX8_on_29 (by decide) ha <|
          cw_iload_n (pc := 32) dX8_on_32 rfl rfl <|
          cw_bipush (v := 20) (pc := 33) dX8_on_33 (by decide) <|
          cw_aload_n (pc := 35) dX8_on_35 rfl rfl <|
          cw_getR (q := 0) (t := 1) (pc := 36) dX8_on_36 fX8_12 sh_0 (by decide) rfl <|
          cw_getR (q := 1) (t := 14) (pc := 39) dX8_on_39 fX8_156 sh_1 (by decide) rfl <|
          cw_getI (q := 14) (pc := 42) dX8_on_42 fX8_159 sh_14 (by decide) rfl <|
          cw_iadd (pc := 45) dX8_on_45 <|
          cw_icmp_ge_F (tgt := 53) (pc := 46) dX8_on_46 (by decide) (by rw [hc2]; exact Int32.not_le.mpr hb) <|
          cw_iconst (v := 1) (pc := 49) dX8_on_49 (by decide) <|
          cw_goto (tgt := 54) (pc := 50) dX8_on_50 (by decide) <|
          cw_istore (L' := [_, _, _, _, _]) (pc := 54) dX8_on_54 (by decide) rfl rfl <|
          ?_
        have e4 : bI (20 ≤ w ∧ w < 20 + s 33) = 1 := bI_t ⟨Int32.not_lt.mp ha, hb⟩
        rw [e4] at k56
        exact k56
      · refine cw_iload_n (pc := 26) dX8_on_26 rfl rfl <|
          cw_bipush (v := 20) (pc := 27) dX8_on_27 (by decide) <|
          cw_icmp_lt_F (tgt := 53) (pc := 29) dX8_on_29 (by decide) ha <|
          cw_iload_n (pc := 32) dX8_on_32 rfl rfl <|
          cw_bipush (v := 20) (pc := 33) dX8_on_33 (by decide) <|
          cw_aload_n (pc := 35) dX8_on_35 rfl rfl <|
          cw_getR (q := 0) (t := 1) (pc := 36) dX8_on_36 fX8_12 sh_0 (by decide) rfl <|
          cw_getR (q := 1) (t := 14) (pc := 39) dX8_on_39 fX8_156 sh_1 (by decide) rfl <|
          cw_getI (q := 14) (pc := 42) dX8_on_42 fX8_159 sh_14 (by decide) rfl <|
          cw_iadd (pc := 45) dX8_on_45 <|
          cw_icmp_ge_T (tgt := 53) (pc := 46) dX8_on_46 (by decide) (by rw [hc2]; exact Int32.not_lt.mp hb) <|
          cw_iconst (v := 0) (pc := 53) dX8_on_53 (by decide) <|
          cw_istore (L' := [_, _, _, _, _]) (pc := 54) dX8_on_54 (by decide) rfl rfl <|
          ?_
        have e4 : bI (20 ≤ w ∧ w < 20 + s 33) = 0 := bI_f (fun h => hb h.2)
        rw [e4] at k56
        exact k56
  by_cases ha : w < 10
  · refine cw_iload_n (pc := 0) dX8_on_0 rfl rfl <|
      cw_bipush (v := 10) (pc := 1) dX8_on_1 (by decide) <|
      cw_icmp_lt_T (tgt := 24) (pc := 3) dX8_on_3 (by decide) ha <|
      cw_iconst (v := 0) (pc := 24) dX8_on_24 (by decide) <|
      cw_istore_n (L' := [_, _, _, _, _]) (pc := 25) dX8_on_25 rfl (by decide) rfl rfl <|
      ?_
    have e3 : bI (10 ≤ w ∧ w < 10 + s 31) = 0 := bI_f (fun h => absurd ha (Int32.not_lt.mpr h.1))
    rw [e3] at k26
    exact k26
  · by_cases hb : w < 10 + s 31
    · refine cw_iload_n (pc := 0) dX8_on_0 rfl rfl <|
        cw_bipush (v := 10) (pc := 1) dX8_on_1 (by decide) <|
        cw_icmp_lt_F (tgt := 24) (pc := 3) dX8_on_3 (by decide) ha <|
        cw_iload_n (pc := 6) dX8_on_6 rfl rfl <|
        cw_bipush (v := 10) (pc := 7) dX8_on_7 (by decide) <|
        cw_aload_n (pc := 9) dX8_on_9 rfl rfl <|
        cw_getR (q := 0) (t := 2) (pc := 10) dX8_on_10 fX8_25 sh_0 (by decide) rfl <|
        cw_getI (q := 2) (pc := 13) dX8_on_13 fX8_199 sh_2 (by decide) rfl <|
        cw_iadd (pc := 16) dX8_on_16 <|
        cw_icmp_ge_F (tgt := 24) (pc := 17) dX8_on_17 (by decide) (by rw [h31]; exact Int32.not_le.mpr hb) <|
        cw_iconst (v := 1) (pc := 20) dX8_on_20 (by decide) <|
        cw_goto (tgt := 25) (pc := 21) dX8_on_21 (by decide) <|
        cw_istore_n (L' := [_, _, _, _, _]) (pc := 25) dX8_on_25 rfl (by decide) rfl rfl <|
        ?_
      have e3 : bI (10 ≤ w ∧ w < 10 + s 31) = 1 := bI_t ⟨Int32.not_lt.mp ha, hb⟩
      rw [e3] at k26
      exact k26
    · refine cw_iload_n (pc := 0) dX8_on_0 rfl rfl <|
        cw_bipush (v := 10) (pc := 1) dX8_on_1 (by decide) <|
        cw_icmp_lt_F (tgt := 24) (pc := 3) dX8_on_3 (by decide) ha <|
        cw_iload_n (pc := 6) dX8_on_6 rfl rfl <|
        cw_bipush (v := 10) (pc := 7) dX8_on_7 (by decide) <|
        cw_aload_n (pc := 9) dX8_on_9 rfl rfl <|
        cw_getR (q := 0) (t := 2) (pc := 10) dX8_on_10 fX8_25 sh_0 (by decide) rfl <|
        cw_getI (q := 2) (pc := 13) dX8_on_13 fX8_199 sh_2 (by decide) rfl <|
        cw_iadd (pc := 16) dX8_on_16 <|
        cw_icmp_ge_T (tgt := 24) (pc := 17) dX8_on_17 (by decide) (by rw [h31]; exact Int32.not_lt.mp hb) <|
        cw_iconst (v := 0) (pc := 24) dX8_on_24 (by decide) <|
        cw_istore_n (L' := [_, _, _, _, _]) (pc := 25) dX8_on_25 rfl (by decide) rfl rfl <|
        ?_
      have e3 : bI (10 ≤ w ∧ w < 10 + s 31) = 0 := bI_f (fun h => hb h.2)
      rw [e3] at k26
      exact k26
