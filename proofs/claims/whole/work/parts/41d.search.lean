/-! ===== the component's search ===== -/
set_option maxHeartbeats 4000000 in
set_option maxRecDepth 100000 in
theorem c_X0_latestOf {E : Ev} {μ : Mem} {a b : Int32} : AM E yX0_latestOf cX0_latestOf 2 (some .int) 0 [.int a, .int b] μ (fun r μ' => r = some (.int (latF a b)) ∧ μ' = μ) := by
  refine am_of (own := RX0) (L := [.int a, .int b]) (by decide) rfl (Nat.le_of_ble_eq_true rfl) rfl (fun Γ hR => ?_)
  by_cases h : a = 0
  · refine cw_iload_n (pc := 0) dX0_latestOf_0 rfl rfl <|
      cw_if_ne_F (tgt := 8) (pc := 1) dX0_latestOf_1 (by decide) h <|
      cw_iload_n (pc := 4) dX0_latestOf_4 rfl rfl <|
      cw_goto (tgt := 9) (pc := 5) dX0_latestOf_5 (by decide) <|
      cw_iret (pc := 9) dX0_latestOf_9 hR <|
      ⟨by rw [latF, if_pos h], rfl⟩
  · refine cw_iload_n (pc := 0) dX0_latestOf_0 rfl rfl <|
      cw_if_ne_T (tgt := 8) (pc := 1) dX0_latestOf_1 (by decide) h <|
      cw_iload_n (pc := 8) dX0_latestOf_8 rfl rfl <|
      cw_iret (pc := 9) dX0_latestOf_9 hR <|
      ⟨by rw [latF, if_neg h], rfl⟩
set_option maxHeartbeats 4000000 in
set_option maxRecDepth 100000 in
theorem c_X0_lossOf {E : Ev} {μ : Mem} {a b : Int32} : AM E yX0_lossOf cX0_lossOf 2 (some .int) 0 [.int a, .int b] μ (fun r μ' => r = some (.int (losF a b)) ∧ μ' = μ) := by
  refine am_of (own := RX0) (L := [.int a, .int b]) (by decide) rfl (Nat.le_of_ble_eq_true rfl) rfl (fun Γ hR => ?_)
  by_cases h : a = 0
  · refine cw_iload_n (pc := 0) dX0_lossOf_0 rfl rfl <|
      cw_if_ne_F (tgt := 6) (pc := 1) dX0_lossOf_1 (by decide) h <|
      cw_iconst (v := 0) (pc := 4) dX0_lossOf_4 (by decide) <|
      cw_iret (pc := 5) dX0_lossOf_5 hR <|
      ⟨by rw [losF, if_pos h], rfl⟩
  · by_cases h1 : a + b = 0
    · refine cw_iload_n (pc := 0) dX0_lossOf_0 rfl rfl <|
        cw_if_ne_T (tgt := 6) (pc := 1) dX0_lossOf_1 (by decide) h <|
        cw_iload_n (pc := 6) dX0_lossOf_6 rfl rfl <|
        cw_iload_n (pc := 7) dX0_lossOf_7 rfl rfl <|
        cw_iadd (pc := 8) dX0_lossOf_8 <|
        cw_if_ne_F (tgt := 16) (pc := 9) dX0_lossOf_9 (by decide) h1 <|
        cw_iconst (v := 3) (pc := 12) dX0_lossOf_12 (by decide) <|
        cw_goto (tgt := 17) (pc := 13) dX0_lossOf_13 (by decide) <|
        cw_iret (pc := 17) dX0_lossOf_17 hR <|
        ⟨by rw [losF, if_neg h, if_pos h1], rfl⟩
    · refine cw_iload_n (pc := 0) dX0_lossOf_0 rfl rfl <|
        cw_if_ne_T (tgt := 6) (pc := 1) dX0_lossOf_1 (by decide) h <|
        cw_iload_n (pc := 6) dX0_lossOf_6 rfl rfl <|
        cw_iload_n (pc := 7) dX0_lossOf_7 rfl rfl <|
        cw_iadd (pc := 8) dX0_lossOf_8 <|
        cw_if_ne_T (tgt := 16) (pc := 9) dX0_lossOf_9 (by decide) h1 <|
        cw_iconst (v := 1) (pc := 16) dX0_lossOf_16 (by decide) <|
        cw_iret (pc := 17) dX0_lossOf_17 hR <|
        ⟨by rw [losF, if_neg h, if_neg h1], rfl⟩
set_option maxHeartbeats 4000000 in
set_option maxRecDepth 100000 in
theorem c_X0_keeps {E : Ev} {μ : Mem} {ok : Nat → Bool} {o : Option Nat} {w m mk : Nat} (hw : w < 2 ^ 20) (hm : m < 4096) (hmk : mk ≤ 99) (h4 : μ 58 4 = 40 - nI mk) (hb : BO μ o) (hok : ok m = decide (w + mk ≤ 40)) : AM E yX0_keeps cX0_keeps 5 none 1 [.ref 58, .int (nI w), .int (nI m)] μ (fun r μ' => r = none ∧ BO μ' (upB ok o m) ∧ Same FS μ μ') := by
  refine am_of (own := RX0) (L := [.ref 58, .int (nI w), .int (nI m), .null, .null]) (by decide) rfl (Nat.le_of_ble_eq_true rfl) rfl (fun Γ hR => ?_)
  obtain ⟨b5, b6, hso⟩ := hb
  have hcm := cnt_le12 m 12
  by_cases hk : w + mk ≤ 40
  · have hv : ok m = true := by rw [hok]; exact decide_eq_true hk
    cases o with
    | none =>
      have e : upB ok none m = some m := by simp [upB, hv]
      refine cw_iload_n (pc := 0) dX0_keeps_0 rfl rfl <|
        cw_insI (pc := 1) dX0_keeps_1 (c_J6_bitCount_0f7a4 (x := nI m)) vX0_69 rfl rfl rfl (by decide) <|
        ?_
      rw [bc_cn2 hm]
      refine cw_istore_n (L' := [_, _, _, _, _]) (pc := 4) dX0_keeps_4 rfl (by decide) rfl rfl <|
        cw_iload_n (pc := 5) dX0_keeps_5 rfl rfl <|
        cw_aload_n (pc := 6) dX0_keeps_6 rfl rfl <|
        cw_getI (q := 58) (pc := 7) dX0_keeps_7 fX0_62 sh_58 (by decide) rfl <|
        ?_
      rw [b6]
      refine cw_icmp_lt_T (tgt := 29) (pc := 10) dX0_keeps_10 (by decide) (nI_lt (show cntN2 m 12 < 13 by omega) (by decide)) <|
        cw_iconst (v := 1) (pc := 29) dX0_keeps_29 (by decide) <|
        cw_goto (tgt := 34) (pc := 30) dX0_keeps_30 (by decide) <|
        cw_istore (L' := [_, _, _, _, _]) (pc := 34) dX0_keeps_34 (by decide) rfl rfl <|
        cw_iload_n (pc := 36) dX0_keeps_36 rfl rfl <|
        cw_aload_n (pc := 37) dX0_keeps_37 rfl rfl <|
        cw_getI (q := 58) (pc := 38) dX0_keeps_38 fX0_46 sh_58 (by decide) rfl <|
        ?_
      rw [h4]
      refine cw_icmp_gt_F (tgt := 59) (pc := 41) dX0_keeps_41 (by decide) (Int32.not_lt.mpr ((may_le hw hmk).mpr hk)) <|
        cw_iload (pc := 44) dX0_keeps_44 rfl <|
        cw_if_eq_F (tgt := 59) (pc := 46) dX0_keeps_46 (by decide) (by decide) <|
        cw_aload_n (pc := 49) dX0_keeps_49 rfl rfl <|
        cw_iload_n (pc := 50) dX0_keeps_50 rfl rfl <|
        cw_putI (q := 58) (pc := 51) dX0_keeps_51 pX0_59 sh_58 (by decide) rfl <|
        cw_aload_n (pc := 54) dX0_keeps_54 rfl rfl <|
        cw_iload_n (pc := 55) dX0_keeps_55 rfl rfl <|
        cw_putI (q := 58) (pc := 56) dX0_keeps_56 pX0_62 sh_58 (by decide) rfl <|
        cw_vret (pc := 59) dX0_keeps_59 hR <|
        ⟨rfl, ⟨by rw [e]; simp [st_at]; rfl, by rw [e]; simp [st_at]; rfl, up_small hso hm⟩, (Same.rf.s1 (F := FS) ⟨rfl, Or.inl rfl⟩).s1 ⟨rfl, Or.inr rfl⟩⟩
    | some b =>
      have hb := hso b rfl
      have hcb := cnt_le12 b 12
      have hfb : few (some b) = cntN2 b 12 := rfl
      by_cases h1 : cntN2 m 12 < cntN2 b 12
      · have e : upB ok (some b) m = some m := by simp [upB, hv, h1]
        refine cw_iload_n (pc := 0) dX0_keeps_0 rfl rfl <|
          cw_insI (pc := 1) dX0_keeps_1 (c_J6_bitCount_0f7a4 (x := nI m)) vX0_69 rfl rfl rfl (by decide) <|
          ?_
        rw [bc_cn2 hm]
        refine cw_istore_n (L' := [_, _, _, _, _]) (pc := 4) dX0_keeps_4 rfl (by decide) rfl rfl <|
          cw_iload_n (pc := 5) dX0_keeps_5 rfl rfl <|
          cw_aload_n (pc := 6) dX0_keeps_6 rfl rfl <|
          cw_getI (q := 58) (pc := 7) dX0_keeps_7 fX0_62 sh_58 (by decide) rfl <|
          ?_
        rw [b6]
        refine cw_icmp_lt_T (tgt := 29) (pc := 10) dX0_keeps_10 (by decide) (nI_lt (show cntN2 m 12 < cntN2 b 12 from h1) (by omega)) <|
          cw_iconst (v := 1) (pc := 29) dX0_keeps_29 (by decide) <|
          cw_goto (tgt := 34) (pc := 30) dX0_keeps_30 (by decide) <|
          cw_istore (L' := [_, _, _, _, _]) (pc := 34) dX0_keeps_34 (by decide) rfl rfl <|
          cw_iload_n (pc := 36) dX0_keeps_36 rfl rfl <|
          cw_aload_n (pc := 37) dX0_keeps_37 rfl rfl <|
          cw_getI (q := 58) (pc := 38) dX0_keeps_38 fX0_46 sh_58 (by decide) rfl <|
          ?_
        rw [h4]
        refine cw_icmp_gt_F (tgt := 59) (pc := 41) dX0_keeps_41 (by decide) (Int32.not_lt.mpr ((may_le hw hmk).mpr hk)) <|
          cw_iload (pc := 44) dX0_keeps_44 rfl <|
          cw_if_eq_F (tgt := 59) (pc := 46) dX0_keeps_46 (by decide) (by decide) <|
          cw_aload_n (pc := 49) dX0_keeps_49 rfl rfl <|
          cw_iload_n (pc := 50) dX0_keeps_50 rfl rfl <|
          cw_putI (q := 58) (pc := 51) dX0_keeps_51 pX0_59 sh_58 (by decide) rfl <|
          cw_aload_n (pc := 54) dX0_keeps_54 rfl rfl <|
          cw_iload_n (pc := 55) dX0_keeps_55 rfl rfl <|
          cw_putI (q := 58) (pc := 56) dX0_keeps_56 pX0_62 sh_58 (by decide) rfl <|
          cw_vret (pc := 59) dX0_keeps_59 hR <|
          ⟨rfl, ⟨by rw [e]; simp [st_at]; rfl, by rw [e]; simp [st_at]; rfl, up_small hso hm⟩, (Same.rf.s1 (F := FS) ⟨rfl, Or.inl rfl⟩).s1 ⟨rfl, Or.inr rfl⟩⟩
      · by_cases h2 : cntN2 m 12 = cntN2 b 12
        · by_cases h3 : m < b
          · have e : upB ok (some b) m = some m := by simp [upB, hv, h1, h2, h3]
            refine cw_iload_n (pc := 0) dX0_keeps_0 rfl rfl <|
              cw_insI (pc := 1) dX0_keeps_1 (c_J6_bitCount_0f7a4 (x := nI m)) vX0_69 rfl rfl rfl (by decide) <|
              ?_
            rw [bc_cn2 hm]
            refine cw_istore_n (L' := [_, _, _, _, _]) (pc := 4) dX0_keeps_4 rfl (by decide) rfl rfl <|
              cw_iload_n (pc := 5) dX0_keeps_5 rfl rfl <|
              cw_aload_n (pc := 6) dX0_keeps_6 rfl rfl <|
              cw_getI (q := 58) (pc := 7) dX0_keeps_7 fX0_62 sh_58 (by decide) rfl <|
              ?_
            rw [b6]
            refine cw_icmp_lt_F (tgt := 29) (pc := 10) dX0_keeps_10 (by decide) (nI_nlt (Nat.not_lt.mp h1) (by omega)) <|
              cw_iload_n (pc := 13) dX0_keeps_13 rfl rfl <|
              cw_aload_n (pc := 14) dX0_keeps_14 rfl rfl <|
              cw_getI (q := 58) (pc := 15) dX0_keeps_15 fX0_62 sh_58 (by decide) rfl <|
              ?_
            rw [b6]
            refine cw_icmp_ne_F (tgt := 33) (pc := 18) dX0_keeps_18 (by decide) (congrArg nI h2) <|
              cw_iload_n (pc := 21) dX0_keeps_21 rfl rfl <|
              cw_aload_n (pc := 22) dX0_keeps_22 rfl rfl <|
              cw_getI (q := 58) (pc := 23) dX0_keeps_23 fX0_59 sh_58 (by decide) rfl <|
              ?_
            rw [b5]
            refine cw_icmp_ge_F (tgt := 33) (pc := 26) dX0_keeps_26 (by decide) (nI_ge h3 (by omega)) <|
              cw_iconst (v := 1) (pc := 29) dX0_keeps_29 (by decide) <|
              cw_goto (tgt := 34) (pc := 30) dX0_keeps_30 (by decide) <|
              cw_istore (L' := [_, _, _, _, _]) (pc := 34) dX0_keeps_34 (by decide) rfl rfl <|
              cw_iload_n (pc := 36) dX0_keeps_36 rfl rfl <|
              cw_aload_n (pc := 37) dX0_keeps_37 rfl rfl <|
              cw_getI (q := 58) (pc := 38) dX0_keeps_38 fX0_46 sh_58 (by decide) rfl <|
              ?_
            rw [h4]
            refine cw_icmp_gt_F (tgt := 59) (pc := 41) dX0_keeps_41 (by decide) (Int32.not_lt.mpr ((may_le hw hmk).mpr hk)) <|
              cw_iload (pc := 44) dX0_keeps_44 rfl <|
              cw_if_eq_F (tgt := 59) (pc := 46) dX0_keeps_46 (by decide) (by decide) <|
              cw_aload_n (pc := 49) dX0_keeps_49 rfl rfl <|
              cw_iload_n (pc := 50) dX0_keeps_50 rfl rfl <|
              cw_putI (q := 58) (pc := 51) dX0_keeps_51 pX0_59 sh_58 (by decide) rfl <|
              cw_aload_n (pc := 54) dX0_keeps_54 rfl rfl <|
              cw_iload_n (pc := 55) dX0_keeps_55 rfl rfl <|
              cw_putI (q := 58) (pc := 56) dX0_keeps_56 pX0_62 sh_58 (by decide) rfl <|
              cw_vret (pc := 59) dX0_keeps_59 hR <|
              ⟨rfl, ⟨by rw [e]; simp [st_at]; rfl, by rw [e]; simp [st_at]; rfl, up_small hso hm⟩, (Same.rf.s1 (F := FS) ⟨rfl, Or.inl rfl⟩).s1 ⟨rfl, Or.inr rfl⟩⟩
          · have e : upB ok (some b) m = some b := by simp [upB, hv, h1, h2, h3]
            refine cw_iload_n (pc := 0) dX0_keeps_0 rfl rfl <|
              cw_insI (pc := 1) dX0_keeps_1 (c_J6_bitCount_0f7a4 (x := nI m)) vX0_69 rfl rfl rfl (by decide) <|
              ?_
            rw [bc_cn2 hm]
            refine cw_istore_n (L' := [_, _, _, _, _]) (pc := 4) dX0_keeps_4 rfl (by decide) rfl rfl <|
              cw_iload_n (pc := 5) dX0_keeps_5 rfl rfl <|
              cw_aload_n (pc := 6) dX0_keeps_6 rfl rfl <|
              cw_getI (q := 58) (pc := 7) dX0_keeps_7 fX0_62 sh_58 (by decide) rfl <|
              ?_
            rw [b6]
            refine cw_icmp_lt_F (tgt := 29) (pc := 10) dX0_keeps_10 (by decide) (nI_nlt (Nat.not_lt.mp h1) (by omega)) <|
              cw_iload_n (pc := 13) dX0_keeps_13 rfl rfl <|
              cw_aload_n (pc := 14) dX0_keeps_14 rfl rfl <|
              cw_getI (q := 58) (pc := 15) dX0_keeps_15 fX0_62 sh_58 (by decide) rfl <|
              ?_
            rw [b6]
            refine cw_icmp_ne_F (tgt := 33) (pc := 18) dX0_keeps_18 (by decide) (congrArg nI h2) <|
              cw_iload_n (pc := 21) dX0_keeps_21 rfl rfl <|
              cw_aload_n (pc := 22) dX0_keeps_22 rfl rfl <|
              cw_getI (q := 58) (pc := 23) dX0_keeps_23 fX0_59 sh_58 (by decide) rfl <|
              ?_
            rw [b5]
            refine cw_icmp_ge_T (tgt := 33) (pc := 26) dX0_keeps_26 (by decide) (nI_le (Nat.not_lt.mp h3) (by omega)) <|
              cw_iconst (v := 0) (pc := 33) dX0_keeps_33 (by decide) <|
              cw_istore (L' := [_, _, _, _, _]) (pc := 34) dX0_keeps_34 (by decide) rfl rfl <|
              cw_iload_n (pc := 36) dX0_keeps_36 rfl rfl <|
              cw_aload_n (pc := 37) dX0_keeps_37 rfl rfl <|
              cw_getI (q := 58) (pc := 38) dX0_keeps_38 fX0_46 sh_58 (by decide) rfl <|
              ?_
            rw [h4]
            refine cw_icmp_gt_F (tgt := 59) (pc := 41) dX0_keeps_41 (by decide) (Int32.not_lt.mpr ((may_le hw hmk).mpr hk)) <|
              cw_iload (pc := 44) dX0_keeps_44 rfl <|
              cw_if_eq_T (tgt := 59) (pc := 46) dX0_keeps_46 (by decide) rfl <|
              cw_vret (pc := 59) dX0_keeps_59 hR <|
              ⟨rfl, ⟨by rw [e]; exact b5, by rw [e]; exact b6, up_small hso hm⟩, Same.rf⟩
        · have e : upB ok (some b) m = some b := by simp [upB, hv, h1, h2]
          refine cw_iload_n (pc := 0) dX0_keeps_0 rfl rfl <|
            cw_insI (pc := 1) dX0_keeps_1 (c_J6_bitCount_0f7a4 (x := nI m)) vX0_69 rfl rfl rfl (by decide) <|
            ?_
          rw [bc_cn2 hm]
          refine cw_istore_n (L' := [_, _, _, _, _]) (pc := 4) dX0_keeps_4 rfl (by decide) rfl rfl <|
            cw_iload_n (pc := 5) dX0_keeps_5 rfl rfl <|
            cw_aload_n (pc := 6) dX0_keeps_6 rfl rfl <|
            cw_getI (q := 58) (pc := 7) dX0_keeps_7 fX0_62 sh_58 (by decide) rfl <|
            ?_
          rw [b6]
          refine cw_icmp_lt_F (tgt := 29) (pc := 10) dX0_keeps_10 (by decide) (nI_nlt (Nat.not_lt.mp h1) (by omega)) <|
            cw_iload_n (pc := 13) dX0_keeps_13 rfl rfl <|
            cw_aload_n (pc := 14) dX0_keeps_14 rfl rfl <|
            cw_getI (q := 58) (pc := 15) dX0_keeps_15 fX0_62 sh_58 (by decide) rfl <|
            ?_
          rw [b6]
          refine cw_icmp_ne_T (tgt := 33) (pc := 18) dX0_keeps_18 (by decide) (fun h => h2 ((nI_eq (by omega) (by omega)).mp h)) <|
            cw_iconst (v := 0) (pc := 33) dX0_keeps_33 (by decide) <|
            cw_istore (L' := [_, _, _, _, _]) (pc := 34) dX0_keeps_34 (by decide) rfl rfl <|
            cw_iload_n (pc := 36) dX0_keeps_36 rfl rfl <|
            cw_aload_n (pc := 37) dX0_keeps_37 rfl rfl <|
            cw_getI (q := 58) (pc := 38) dX0_keeps_38 fX0_46 sh_58 (by decide) rfl <|
            ?_
          rw [h4]
          refine cw_icmp_gt_F (tgt := 59) (pc := 41) dX0_keeps_41 (by decide) (Int32.not_lt.mpr ((may_le hw hmk).mpr hk)) <|
            cw_iload (pc := 44) dX0_keeps_44 rfl <|
            cw_if_eq_T (tgt := 59) (pc := 46) dX0_keeps_46 (by decide) rfl <|
            cw_vret (pc := 59) dX0_keeps_59 hR <|
            ⟨rfl, ⟨by rw [e]; exact b5, by rw [e]; exact b6, up_small hso hm⟩, Same.rf⟩
  · have hv : ok m = false := by rw [hok]; exact decide_eq_false hk
    cases o with
    | none =>
      have e : upB ok none m = none := by simp [upB, hv]
      refine cw_iload_n (pc := 0) dX0_keeps_0 rfl rfl <|
        cw_insI (pc := 1) dX0_keeps_1 (c_J6_bitCount_0f7a4 (x := nI m)) vX0_69 rfl rfl rfl (by decide) <|
        ?_
      rw [bc_cn2 hm]
      refine cw_istore_n (L' := [_, _, _, _, _]) (pc := 4) dX0_keeps_4 rfl (by decide) rfl rfl <|
        cw_iload_n (pc := 5) dX0_keeps_5 rfl rfl <|
        cw_aload_n (pc := 6) dX0_keeps_6 rfl rfl <|
        cw_getI (q := 58) (pc := 7) dX0_keeps_7 fX0_62 sh_58 (by decide) rfl <|
        ?_
      rw [b6]
      refine cw_icmp_lt_T (tgt := 29) (pc := 10) dX0_keeps_10 (by decide) (nI_lt (show cntN2 m 12 < 13 by omega) (by decide)) <|
        cw_iconst (v := 1) (pc := 29) dX0_keeps_29 (by decide) <|
        cw_goto (tgt := 34) (pc := 30) dX0_keeps_30 (by decide) <|
        cw_istore (L' := [_, _, _, _, _]) (pc := 34) dX0_keeps_34 (by decide) rfl rfl <|
        cw_iload_n (pc := 36) dX0_keeps_36 rfl rfl <|
        cw_aload_n (pc := 37) dX0_keeps_37 rfl rfl <|
        cw_getI (q := 58) (pc := 38) dX0_keeps_38 fX0_46 sh_58 (by decide) rfl <|
        ?_
      rw [h4]
      refine cw_icmp_gt_T (tgt := 59) (pc := 41) dX0_keeps_41 (by decide) (Int32.not_le.mp (fun h => hk ((may_le hw hmk).mp h))) <|
        cw_vret (pc := 59) dX0_keeps_59 hR <|
        ⟨rfl, ⟨by rw [e]; exact b5, by rw [e]; exact b6, up_small hso hm⟩, Same.rf⟩
    | some b =>
      have hb := hso b rfl
      have hcb := cnt_le12 b 12
      have hfb : few (some b) = cntN2 b 12 := rfl
      by_cases h1 : cntN2 m 12 < cntN2 b 12
      · have e : upB ok (some b) m = some b := by simp [upB, hv]
        refine cw_iload_n (pc := 0) dX0_keeps_0 rfl rfl <|
          cw_insI (pc := 1) dX0_keeps_1 (c_J6_bitCount_0f7a4 (x := nI m)) vX0_69 rfl rfl rfl (by decide) <|
          ?_
        rw [bc_cn2 hm]
        refine cw_istore_n (L' := [_, _, _, _, _]) (pc := 4) dX0_keeps_4 rfl (by decide) rfl rfl <|
          cw_iload_n (pc := 5) dX0_keeps_5 rfl rfl <|
          cw_aload_n (pc := 6) dX0_keeps_6 rfl rfl <|
          cw_getI (q := 58) (pc := 7) dX0_keeps_7 fX0_62 sh_58 (by decide) rfl <|
          ?_
        rw [b6]
        refine cw_icmp_lt_T (tgt := 29) (pc := 10) dX0_keeps_10 (by decide) (nI_lt (show cntN2 m 12 < cntN2 b 12 from h1) (by omega)) <|
          cw_iconst (v := 1) (pc := 29) dX0_keeps_29 (by decide) <|
          cw_goto (tgt := 34) (pc := 30) dX0_keeps_30 (by decide) <|
          cw_istore (L' := [_, _, _, _, _]) (pc := 34) dX0_keeps_34 (by decide) rfl rfl <|
          cw_iload_n (pc := 36) dX0_keeps_36 rfl rfl <|
          cw_aload_n (pc := 37) dX0_keeps_37 rfl rfl <|
          cw_getI (q := 58) (pc := 38) dX0_keeps_38 fX0_46 sh_58 (by decide) rfl <|
          ?_
        rw [h4]
        refine cw_icmp_gt_T (tgt := 59) (pc := 41) dX0_keeps_41 (by decide) (Int32.not_le.mp (fun h => hk ((may_le hw hmk).mp h))) <|
          cw_vret (pc := 59) dX0_keeps_59 hR <|
          ⟨rfl, ⟨by rw [e]; exact b5, by rw [e]; exact b6, up_small hso hm⟩, Same.rf⟩
      · by_cases h2 : cntN2 m 12 = cntN2 b 12
        · by_cases h3 : m < b
          · have e : upB ok (some b) m = some b := by simp [upB, hv]
            refine cw_iload_n (pc := 0) dX0_keeps_0 rfl rfl <|
              cw_insI (pc := 1) dX0_keeps_1 (c_J6_bitCount_0f7a4 (x := nI m)) vX0_69 rfl rfl rfl (by decide) <|
              ?_
            rw [bc_cn2 hm]
            refine cw_istore_n (L' := [_, _, _, _, _]) (pc := 4) dX0_keeps_4 rfl (by decide) rfl rfl <|
              cw_iload_n (pc := 5) dX0_keeps_5 rfl rfl <|
              cw_aload_n (pc := 6) dX0_keeps_6 rfl rfl <|
              cw_getI (q := 58) (pc := 7) dX0_keeps_7 fX0_62 sh_58 (by decide) rfl <|
              ?_
            rw [b6]
            refine cw_icmp_lt_F (tgt := 29) (pc := 10) dX0_keeps_10 (by decide) (nI_nlt (Nat.not_lt.mp h1) (by omega)) <|
              cw_iload_n (pc := 13) dX0_keeps_13 rfl rfl <|
              cw_aload_n (pc := 14) dX0_keeps_14 rfl rfl <|
              cw_getI (q := 58) (pc := 15) dX0_keeps_15 fX0_62 sh_58 (by decide) rfl <|
              ?_
            rw [b6]
            refine cw_icmp_ne_F (tgt := 33) (pc := 18) dX0_keeps_18 (by decide) (congrArg nI h2) <|
              cw_iload_n (pc := 21) dX0_keeps_21 rfl rfl <|
              cw_aload_n (pc := 22) dX0_keeps_22 rfl rfl <|
              cw_getI (q := 58) (pc := 23) dX0_keeps_23 fX0_59 sh_58 (by decide) rfl <|
              ?_
            rw [b5]
            refine cw_icmp_ge_F (tgt := 33) (pc := 26) dX0_keeps_26 (by decide) (nI_ge h3 (by omega)) <|
              cw_iconst (v := 1) (pc := 29) dX0_keeps_29 (by decide) <|
              cw_goto (tgt := 34) (pc := 30) dX0_keeps_30 (by decide) <|
              cw_istore (L' := [_, _, _, _, _]) (pc := 34) dX0_keeps_34 (by decide) rfl rfl <|
              cw_iload_n (pc := 36) dX0_keeps_36 rfl rfl <|
              cw_aload_n (pc := 37) dX0_keeps_37 rfl rfl <|
              cw_getI (q := 58) (pc := 38) dX0_keeps_38 fX0_46 sh_58 (by decide) rfl <|
              ?_
            rw [h4]
            refine cw_icmp_gt_T (tgt := 59) (pc := 41) dX0_keeps_41 (by decide) (Int32.not_le.mp (fun h => hk ((may_le hw hmk).mp h))) <|
              cw_vret (pc := 59) dX0_keeps_59 hR <|
              ⟨rfl, ⟨by rw [e]; exact b5, by rw [e]; exact b6, up_small hso hm⟩, Same.rf⟩
          · have e : upB ok (some b) m = some b := by simp [upB, hv]
            refine cw_iload_n (pc := 0) dX0_keeps_0 rfl rfl <|
              cw_insI (pc := 1) dX0_keeps_1 (c_J6_bitCount_0f7a4 (x := nI m)) vX0_69 rfl rfl rfl (by decide) <|
              ?_
            rw [bc_cn2 hm]
            refine cw_istore_n (L' := [_, _, _, _, _]) (pc := 4) dX0_keeps_4 rfl (by decide) rfl rfl <|
              cw_iload_n (pc := 5) dX0_keeps_5 rfl rfl <|
              cw_aload_n (pc := 6) dX0_keeps_6 rfl rfl <|
              cw_getI (q := 58) (pc := 7) dX0_keeps_7 fX0_62 sh_58 (by decide) rfl <|
              ?_
            rw [b6]
            refine cw_icmp_lt_F (tgt := 29) (pc := 10) dX0_keeps_10 (by decide) (nI_nlt (Nat.not_lt.mp h1) (by omega)) <|
              cw_iload_n (pc := 13) dX0_keeps_13 rfl rfl <|
              cw_aload_n (pc := 14) dX0_keeps_14 rfl rfl <|
              cw_getI (q := 58) (pc := 15) dX0_keeps_15 fX0_62 sh_58 (by decide) rfl <|
              ?_
            rw [b6]
            refine cw_icmp_ne_F (tgt := 33) (pc := 18) dX0_keeps_18 (by decide) (congrArg nI h2) <|
              cw_iload_n (pc := 21) dX0_keeps_21 rfl rfl <|
              cw_aload_n (pc := 22) dX0_keeps_22 rfl rfl <|
              cw_getI (q := 58) (pc := 23) dX0_keeps_23 fX0_59 sh_58 (by decide) rfl <|
              ?_
            rw [b5]
            refine cw_icmp_ge_T (tgt := 33) (pc := 26) dX0_keeps_26 (by decide) (nI_le (Nat.not_lt.mp h3) (by omega)) <|
              cw_iconst (v := 0) (pc := 33) dX0_keeps_33 (by decide) <|
              cw_istore (L' := [_, _, _, _, _]) (pc := 34) dX0_keeps_34 (by decide) rfl rfl <|
              cw_iload_n (pc := 36) dX0_keeps_36 rfl rfl <|
              cw_aload_n (pc := 37) dX0_keeps_37 rfl rfl <|
              cw_getI (q := 58) (pc := 38) dX0_keeps_38 fX0_46 sh_58 (by decide) rfl <|
              ?_
            rw [h4]
            refine cw_icmp_gt_T (tgt := 59) (pc := 41) dX0_keeps_41 (by decide) (Int32.not_le.mp (fun h => hk ((may_le hw hmk).mp h))) <|
              cw_vret (pc := 59) dX0_keeps_59 hR <|
              ⟨rfl, ⟨by rw [e]; exact b5, by rw [e]; exact b6, up_small hso hm⟩, Same.rf⟩
        · have e : upB ok (some b) m = some b := by simp [upB, hv]
          refine cw_iload_n (pc := 0) dX0_keeps_0 rfl rfl <|
            cw_insI (pc := 1) dX0_keeps_1 (c_J6_bitCount_0f7a4 (x := nI m)) vX0_69 rfl rfl rfl (by decide) <|
            ?_
          rw [bc_cn2 hm]
          refine cw_istore_n (L' := [_, _, _, _, _]) (pc := 4) dX0_keeps_4 rfl (by decide) rfl rfl <|
            cw_iload_n (pc := 5) dX0_keeps_5 rfl rfl <|
            cw_aload_n (pc := 6) dX0_keeps_6 rfl rfl <|
            cw_getI (q := 58) (pc := 7) dX0_keeps_7 fX0_62 sh_58 (by decide) rfl <|
            ?_
          rw [b6]
          refine cw_icmp_lt_F (tgt := 29) (pc := 10) dX0_keeps_10 (by decide) (nI_nlt (Nat.not_lt.mp h1) (by omega)) <|
            cw_iload_n (pc := 13) dX0_keeps_13 rfl rfl <|
            cw_aload_n (pc := 14) dX0_keeps_14 rfl rfl <|
            cw_getI (q := 58) (pc := 15) dX0_keeps_15 fX0_62 sh_58 (by decide) rfl <|
            ?_
          rw [b6]
          refine cw_icmp_ne_T (tgt := 33) (pc := 18) dX0_keeps_18 (by decide) (fun h => h2 ((nI_eq (by omega) (by omega)).mp h)) <|
            cw_iconst (v := 0) (pc := 33) dX0_keeps_33 (by decide) <|
            cw_istore (L' := [_, _, _, _, _]) (pc := 34) dX0_keeps_34 (by decide) rfl rfl <|
            cw_iload_n (pc := 36) dX0_keeps_36 rfl rfl <|
            cw_aload_n (pc := 37) dX0_keeps_37 rfl rfl <|
            cw_getI (q := 58) (pc := 38) dX0_keeps_38 fX0_46 sh_58 (by decide) rfl <|
            ?_
          rw [h4]
          refine cw_icmp_gt_T (tgt := 59) (pc := 41) dX0_keeps_41 (by decide) (Int32.not_le.mp (fun h => hk ((may_le hw hmk).mp h))) <|
            cw_vret (pc := 59) dX0_keeps_59 hR <|
            ⟨rfl, ⟨by rw [e]; exact b5, by rw [e]; exact b6, up_small hso hm⟩, Same.rf⟩
set_option maxHeartbeats 4000000 in
set_option maxRecDepth 100000 in
theorem c_X0_search_0 {E : Ev} {μ : Mem} {s : Row} {code : PCo} {mk p : Nat} (hpg : pgS s p ≤ 8) (hmk : mk ≤ 99) { m d : Nat} {o : Option Nat} {lt : Int32} (hd : 2 ≤ d) (hm : m < 2 ^ 12) (hsub : subB s m = true) (hq : SQ μ s code mk p) (hb : BO μ o) (hlt : lt.toInt = (stat (lnK s code p m) 12).2.2) : AM E yX0_search cX0_search 7 none d [.ref 58, .int (nI 12), .int (nI (lnK s code p m 12)), .int lt, .int (nI (losN (lnK s code p m) 12)), .int (nI m)] μ (fun r μ' => r = none ∧ BO μ' (srch (upB (clrB s code mk p)) (lyB s) 0 12 m o) ∧ Same FS μ μ') := by
  refine am_of (own := RX0) (L := [.ref 58, .int (nI 12), .int (nI (lnK s code p m 12)), .int lt, .int (nI (losN (lnK s code p m) 12)), .int (nI m), .null]) (by decide) rfl (Nat.le_of_ble_eq_true rfl) rfl (fun Γ hR => ?_)
  obtain ⟨h4, h3, h2, htab⟩ := hq
  have hq : SQ μ s code mk p := ⟨h4, h3, h2, htab⟩
  have hBO := hb
  obtain ⟨b5, b6, hso⟩ := hb
  have hm12 : m < 4096 := Nat.lt_of_lt_of_le hm (show 2 ^ 12 ≤ 2 ^ 12 from Nat.pow_le_pow_right (by decide) (by omega))
  have hl8 := lnK_le (code := code) (m := m) hpg 12
  have hfew := few_le o
  have hcm := cnt_le12 m 12
  have hlos := los_le (lnK s code p m) 12
  by_cases hk : losN (lnK s code p m) 12 + mk ≤ 40
  · by_cases hc : cntN2 m 12 ≤ few o
    · refine cw_iload (pc := 0) dX0_search_0 rfl <|
        cw_aload_n (pc := 2) dX0_search_2 rfl rfl <|
        cw_getI (q := 58) (pc := 3) dX0_search_3 fX0_46 sh_58 (by decide) rfl <|
        ?_
      rw [h4]
      refine cw_icmp_gt_F (tgt := 28) (pc := 6) dX0_search_6 (by decide) (Int32.not_lt.mpr ((may_le (by omega) hmk).mpr hk)) <|
        cw_iload (pc := 9) dX0_search_9 rfl <|
        cw_insI (pc := 11) dX0_search_11 (c_J6_bitCount_0f7a4 (x := nI m)) vX0_69 rfl rfl rfl (by omega) <|
        ?_
      rw [bc_cn2 hm12]
      refine cw_aload_n (pc := 14) dX0_search_14 rfl rfl <|
        cw_getI (q := 58) (pc := 15) dX0_search_15 fX0_62 sh_58 (by decide) rfl <|
        ?_
      rw [b6]
      refine cw_icmp_gt_F (tgt := 28) (pc := 18) dX0_search_18 (by decide) (Int32.not_lt.mpr (nI_le hc (by omega))) <|
        cw_iload_n (pc := 21) dX0_search_21 rfl rfl <|
        cw_insNI (pc := 22) dX0_search_22 c_X8_isLane vX0_75 rfl rfl rfl (by omega) <|
        cw_if_ne_T (tgt := 29) (pc := 25) dX0_search_25 (by decide) (bI_n0.mpr ⟨nI_pos' (by omega), nI_lt (b := 9) (by omega) (by decide)⟩) <|
        cw_iload_n (pc := 29) dX0_search_29 rfl rfl <|
        cw_bipush (v := 12) (pc := 30) dX0_search_30 (by decide) <|
        cw_icmp_lt_F (tgt := 54) (pc := 32) dX0_search_32 (by decide) (by decide) <|
        cw_aload_n (pc := 35) dX0_search_35 rfl rfl <|
        cw_iload (pc := 36) dX0_search_36 rfl <|
        cw_iload_n (pc := 38) dX0_search_38 rfl rfl <|
        cw_aload_n (pc := 39) dX0_search_39 rfl rfl <|
        cw_getI (q := 58) (pc := 40) dX0_search_40 fX0_33 sh_58 (by decide) rfl <|
        ?_
      rw [h3]
      refine cw_isub (pc := 43) dX0_search_43 <|
        cw_insI (pc := 44) dX0_search_44 c_J9_abs_0f7a4 vX0_78 rfl rfl rfl (by omega) <|
        ?_
      rw [abs_l hl8 hpg]
      refine cw_iadd (pc := 47) dX0_search_47 <|
        ?_
      rw [nI_add]
      refine cw_iload (pc := 48) dX0_search_48 rfl <|
        cw_invP (q := 58) (pc := 50) dX0_search_50 (c_X0_keeps (ok := clrB s code mk p) (by have : spanN (lnK s code p m) ≤ 8 := (by unfold spanN; have := lnK_le (code := code) (m := m) hpg 12; have := lnK_le (code := code) (m := m) hpg 0; split <;> omega); show losN (lnK s code p m) 12 + spanN (lnK s code p m) < 2 ^ 20; omega) hm12 hmk h4 hBO (ok_eq hpg hmk hsub)) rfl vX0_83 sh_58 (by decide) rfl rfl rfl (by omega) <|
        ?_
      rintro _ m1 ⟨rfl, kb, ks⟩
      refine cw_vret (pc := 53) dX0_search_53 hR <|
        ⟨rfl, kb, ks⟩
    · refine cw_iload (pc := 0) dX0_search_0 rfl <|
        cw_aload_n (pc := 2) dX0_search_2 rfl rfl <|
        cw_getI (q := 58) (pc := 3) dX0_search_3 fX0_46 sh_58 (by decide) rfl <|
        ?_
      rw [h4]
      refine cw_icmp_gt_F (tgt := 28) (pc := 6) dX0_search_6 (by decide) (Int32.not_lt.mpr ((may_le (by omega) hmk).mpr hk)) <|
        cw_iload (pc := 9) dX0_search_9 rfl <|
        cw_insI (pc := 11) dX0_search_11 (c_J6_bitCount_0f7a4 (x := nI m)) vX0_69 rfl rfl rfl (by omega) <|
        ?_
      rw [bc_cn2 hm12]
      refine cw_aload_n (pc := 14) dX0_search_14 rfl rfl <|
        cw_getI (q := 58) (pc := 15) dX0_search_15 fX0_62 sh_58 (by decide) rfl <|
        ?_
      rw [b6]
      refine cw_icmp_gt_T (tgt := 28) (pc := 18) dX0_search_18 (by decide) (nI_lt (Nat.not_le.mp hc) (by omega)) <|
        cw_vret (pc := 28) dX0_search_28 hR <|
        ⟨rfl, by rw [kill_cnt hm (Nat.not_le.mp hc)]; exact hBO, Same.rf⟩
  · refine cw_iload (pc := 0) dX0_search_0 rfl <|
      cw_aload_n (pc := 2) dX0_search_2 rfl rfl <|
      cw_getI (q := 58) (pc := 3) dX0_search_3 fX0_46 sh_58 (by decide) rfl <|
      ?_
    rw [h4]
    refine cw_icmp_gt_T (tgt := 28) (pc := 6) dX0_search_6 (by decide) (Int32.not_le.mp (fun h => hk ((may_le (by omega) hmk).mp h))) <|
      cw_vret (pc := 28) dX0_search_28 hR <|
      ⟨rfl, by rw [kill_lost hpg hmk (by omega) hm hk]; exact hBO, Same.rf⟩
set_option maxHeartbeats 4000000 in
set_option maxRecDepth 100000 in
theorem c_X0_search_s {E : Ev} {μ : Mem} {s : Row} {code : PCo} {mk p : Nat} (hpg : pgS s p ≤ 8) (hmk : mk ≤ 99) {x f m d : Nat} {o : Option Nat} {lt : Int32} (hx : x < 12) (hxf : x + (f + 1) = 12) (hd : 2 ≤ d) (hm : m < 2 ^ x) (hsub : subB s m = true) (hq : SQ μ s code mk p) (hb : BO μ o) (hlt : lt.toInt = (stat (lnK s code p m) x).2.2) (ih : ∀ (μ : Mem) (m : Nat) (o : Option Nat) (lt : Int32), m < 2 ^ (x + 1) → subB s m = true → SQ μ s code mk p → BO μ o → lt.toInt = (stat (lnK s code p m) (x + 1)).2.2 → AM E yX0_search cX0_search 7 none (d - 1) [.ref 58, .int (nI (x + 1)), .int (nI (lnK s code p m (x + 1))), .int lt, .int (nI (losN (lnK s code p m) (x + 1))), .int (nI m)] μ (fun r μ' => r = none ∧ BO μ' (srch (upB (clrB s code mk p)) (lyB s) f (x + 1) m o) ∧ Same FS μ μ')) : AM E yX0_search cX0_search 7 none d [.ref 58, .int (nI x), .int (nI (lnK s code p m x)), .int lt, .int (nI (losN (lnK s code p m) x)), .int (nI m)] μ (fun r μ' => r = none ∧ BO μ' (srch (upB (clrB s code mk p)) (lyB s) (f + 1) x m o) ∧ Same FS μ μ') := by
  refine am_of (own := RX0) (L := [.ref 58, .int (nI x), .int (nI (lnK s code p m x)), .int lt, .int (nI (losN (lnK s code p m) x)), .int (nI m), .null]) (by decide) rfl (Nat.le_of_ble_eq_true rfl) rfl (fun Γ hR => ?_)
  obtain ⟨h4, h3, h2, htab⟩ := hq
  have hq : SQ μ s code mk p := ⟨h4, h3, h2, htab⟩
  have hBO := hb
  obtain ⟨b5, b6, hso⟩ := hb
  have hm12 : m < 4096 := Nat.lt_of_lt_of_le hm (show 2 ^ x ≤ 2 ^ 12 from Nat.pow_le_pow_right (by decide) (by omega))
  have hl8 := lnK_le (code := code) (m := m) hpg x
  have hfew := few_le o
  have hcm := cnt_le12 m 12
  have hlos := los_le (lnK s code p m) x
  by_cases hk : losN (lnK s code p m) x + mk ≤ 40
  · by_cases hc : cntN2 m 12 ≤ few o
    · have hm2 : m < 2 ^ (x + 1) := by rw [Nat.pow_succ]; omega
      have hm3 : m + 2 ^ x < 2 ^ (x + 1) := by rw [Nat.pow_succ]; omega
      obtain ⟨s1, s2, s3⟩ := step_ln hl8 (go_0 (code := code) (p := p) hm) hlt (lat3 hlt)
      have ex := ext_pw hm
      have el := lnK_ext (s := s) (code := code) (p := p) ex x (Nat.le_refl _)
      have eo := los_ext (s := s) (code := code) (p := p) ex
      have es : stat (lnK s code p (m + 2 ^ x)) x = stat (lnK s code p m) x := stat_cgx x (fun y hy => lnK_ext ex y hy)
      obtain ⟨t1, t2, t3⟩ := step_ln (ln := lnK s code p (m + 2 ^ x)) (x := x) (by rw [el]; exact hl8) (go_1 hm) (by rw [es]; exact hlt) (lat3 hlt)
      rw [el] at t1 t2 t3
      rw [eo] at t3
      have hA := (htab x _ hx hl8).1
      by_cases hly : lyB s x = true
      · refine cw_iload (pc := 0) dX0_search_0 rfl <|
          cw_aload_n (pc := 2) dX0_search_2 rfl rfl <|
          cw_getI (q := 58) (pc := 3) dX0_search_3 fX0_46 sh_58 (by decide) rfl <|
          ?_
        rw [h4]
        refine cw_icmp_gt_F (tgt := 28) (pc := 6) dX0_search_6 (by decide) (Int32.not_lt.mpr ((may_le (by omega) hmk).mpr hk)) <|
          cw_iload (pc := 9) dX0_search_9 rfl <|
          cw_insI (pc := 11) dX0_search_11 (c_J6_bitCount_0f7a4 (x := nI m)) vX0_69 rfl rfl rfl (by omega) <|
          ?_
        rw [bc_cn2 hm12]
        refine cw_aload_n (pc := 14) dX0_search_14 rfl rfl <|
          cw_getI (q := 58) (pc := 15) dX0_search_15 fX0_62 sh_58 (by decide) rfl <|
          ?_
        rw [b6]
        refine cw_icmp_gt_F (tgt := 28) (pc := 18) dX0_search_18 (by decide) (Int32.not_lt.mpr (nI_le hc (by omega))) <|
          cw_iload_n (pc := 21) dX0_search_21 rfl rfl <|
          cw_insNI (pc := 22) dX0_search_22 c_X8_isLane vX0_75 rfl rfl rfl (by omega) <|
          cw_if_ne_T (tgt := 29) (pc := 25) dX0_search_25 (by decide) (bI_n0.mpr ⟨nI_pos' (by omega), nI_lt (b := 9) (by omega) (by decide)⟩) <|
          cw_iload_n (pc := 29) dX0_search_29 rfl rfl <|
          cw_bipush (v := 12) (pc := 30) dX0_search_30 (by decide) <|
          cw_icmp_lt_T (tgt := 54) (pc := 32) dX0_search_32 (by decide) (nI_lt (b := 12) hx (by decide)) <|
          cw_aload_n (pc := 54) dX0_search_54 rfl rfl <|
          cw_getR (q := 58) (t := 59) (pc := 55) dX0_search_55 fX0_9 sh_58 (by decide) rfl <|
          cw_iload_n (pc := 58) dX0_search_58 rfl rfl <|
          cw_bipush (v := 9) (pc := 59) dX0_search_59 (by decide) <|
          cw_imul (pc := 61) dX0_search_61 <|
          cw_iload_n (pc := 62) dX0_search_62 rfl rfl <|
          cw_iadd (pc := 63) dX0_search_63 <|
          cw_ial (q := 59) (jn := ((x * 9) + (lnK s code p m x))) (pc := 64) dX0_search_64 sh_59 (nx_add (nx_mul rfl rfl) rfl) (by omega) (by decide) <|
          ?_
        rw [hA]
        refine cw_istore (L' := [_, _, _, _, _, _, _]) (pc := 65) dX0_search_65 (by decide) rfl rfl <|
          cw_aload_n (pc := 67) dX0_search_67 rfl rfl <|
          cw_iload_n (pc := 68) dX0_search_68 rfl rfl <|
          cw_iconst (v := 1) (pc := 69) dX0_search_69 (by decide) <|
          cw_iadd (pc := 70) dX0_search_70 <|
          ?_
        rw [nI_1 x]
        refine cw_iload_n (pc := 71) dX0_search_71 rfl rfl <|
          cw_iload (pc := 72) dX0_search_72 rfl <|
          cw_iadd (pc := 74) dX0_search_74 <|
          ?_
        rw [s1]
        refine cw_iload (pc := 75) dX0_search_75 rfl <|
          cw_iload_n (pc := 77) dX0_search_77 rfl rfl <|
          cw_insI (pc := 78) dX0_search_78 c_X0_latestOf vX0_87 rfl rfl rfl (by omega) <|
          cw_iload (pc := 81) dX0_search_81 rfl <|
          cw_iload (pc := 83) dX0_search_83 rfl <|
          cw_iload_n (pc := 85) dX0_search_85 rfl rfl <|
          cw_insI (pc := 86) dX0_search_86 c_X0_lossOf vX0_91 rfl rfl rfl (by omega) <|
          cw_iadd (pc := 89) dX0_search_89 <|
          ?_
        rw [s3]
        refine cw_iload (pc := 90) dX0_search_90 rfl <|
          cw_invP (q := 58) (pc := 92) dX0_search_92 (ih μ m o _ hm2 hsub hq hBO s2) rfl vX0_65 sh_58 (by decide) rfl rfl rfl (by omega) <|
          ?_
        rintro _ m1 ⟨rfl, kb1, ks1⟩
        have hq1 := hq.mo ks1
        have hB := (hq1.2.2.2 x _ hx hl8).2
        refine cw_aload_n (pc := 95) dX0_search_95 rfl rfl <|
          cw_getI (q := 58) (pc := 96) dX0_search_96 fX0_49 sh_58 (by decide) rfl <|
          ?_
        rw [hq1.2.2.1]
        refine cw_iload_n (pc := 99) dX0_search_99 rfl rfl <|
          cw_insNI (pc := 100) dX0_search_100 c_X8_bit vX0_94 rfl rfl rfl (by omega) <|
          ?_
        rw [m_bit (Nat.lt_trans (ly_lt s 12) (by decide)) hx]
        refine cw_iconst (v := 1) (pc := 103) dX0_search_103 (by decide) <|
          cw_icmp_ne_F (tgt := 152) (pc := 104) dX0_search_104 (by decide) (congrArg nI ((ly_one hx).mpr hly)) <|
          cw_aload_n (pc := 107) dX0_search_107 rfl rfl <|
          cw_getR (q := 58) (t := 60) (pc := 108) dX0_search_108 fX0_15 sh_58 (by decide) rfl <|
          cw_iload_n (pc := 111) dX0_search_111 rfl rfl <|
          cw_bipush (v := 9) (pc := 112) dX0_search_112 (by decide) <|
          cw_imul (pc := 114) dX0_search_114 <|
          cw_iload_n (pc := 115) dX0_search_115 rfl rfl <|
          cw_iadd (pc := 116) dX0_search_116 <|
          cw_ial (q := 60) (jn := ((x * 9) + (lnK s code p m x))) (pc := 117) dX0_search_117 sh_60 (nx_add (nx_mul rfl rfl) rfl) (by omega) (by decide) <|
          ?_
        rw [hB]
        refine cw_istore (L' := [_, _, _, _, _, _, _]) (pc := 118) dX0_search_118 (by decide) rfl rfl <|
          cw_aload_n (pc := 120) dX0_search_120 rfl rfl <|
          cw_iload_n (pc := 121) dX0_search_121 rfl rfl <|
          cw_iconst (v := 1) (pc := 122) dX0_search_122 (by decide) <|
          cw_iadd (pc := 123) dX0_search_123 <|
          ?_
        rw [nI_1 x]
        refine cw_iload_n (pc := 124) dX0_search_124 rfl rfl <|
          cw_iload (pc := 125) dX0_search_125 rfl <|
          cw_iadd (pc := 127) dX0_search_127 <|
          ?_
        rw [t1]
        refine cw_iload (pc := 128) dX0_search_128 rfl <|
          cw_iload_n (pc := 130) dX0_search_130 rfl rfl <|
          cw_insI (pc := 131) dX0_search_131 c_X0_latestOf vX0_87 rfl rfl rfl (by omega) <|
          cw_iload (pc := 134) dX0_search_134 rfl <|
          cw_iload (pc := 136) dX0_search_136 rfl <|
          cw_iload_n (pc := 138) dX0_search_138 rfl rfl <|
          cw_insI (pc := 139) dX0_search_139 c_X0_lossOf vX0_91 rfl rfl rfl (by omega) <|
          cw_iadd (pc := 142) dX0_search_142 <|
          ?_
        rw [t3]
        refine cw_iload (pc := 143) dX0_search_143 rfl <|
          cw_iconst (v := 1) (pc := 145) dX0_search_145 (by decide) <|
          cw_iload_n (pc := 146) dX0_search_146 rfl rfl <|
          cw_ishl (pc := 147) dX0_search_147 <|
          ?_
        rw [shl2 x hx]
        refine cw_ior (pc := 148) dX0_search_148 <|
          ?_
        rw [nI_or, or_pw hm]
        refine cw_invP (q := 58) (pc := 149) dX0_search_149 (ih m1 (m + 2 ^ x) _ _ hm3 (sub_pw hm hsub (of_decide_eq_true hly)) hq1 kb1 t2) rfl vX0_65 sh_58 (by decide) rfl rfl rfl (by omega) <|
          ?_
        rintro _ m2 ⟨rfl, kb2, ks2⟩
        refine cw_vret (pc := 152) dX0_search_152 hR <|
          ⟨rfl, by rw [srch_y hly]; exact kb2, ks1.tr ks2⟩
      · refine cw_iload (pc := 0) dX0_search_0 rfl <|
          cw_aload_n (pc := 2) dX0_search_2 rfl rfl <|
          cw_getI (q := 58) (pc := 3) dX0_search_3 fX0_46 sh_58 (by decide) rfl <|
          ?_
        rw [h4]
        refine cw_icmp_gt_F (tgt := 28) (pc := 6) dX0_search_6 (by decide) (Int32.not_lt.mpr ((may_le (by omega) hmk).mpr hk)) <|
          cw_iload (pc := 9) dX0_search_9 rfl <|
          cw_insI (pc := 11) dX0_search_11 (c_J6_bitCount_0f7a4 (x := nI m)) vX0_69 rfl rfl rfl (by omega) <|
          ?_
        rw [bc_cn2 hm12]
        refine cw_aload_n (pc := 14) dX0_search_14 rfl rfl <|
          cw_getI (q := 58) (pc := 15) dX0_search_15 fX0_62 sh_58 (by decide) rfl <|
          ?_
        rw [b6]
        refine cw_icmp_gt_F (tgt := 28) (pc := 18) dX0_search_18 (by decide) (Int32.not_lt.mpr (nI_le hc (by omega))) <|
          cw_iload_n (pc := 21) dX0_search_21 rfl rfl <|
          cw_insNI (pc := 22) dX0_search_22 c_X8_isLane vX0_75 rfl rfl rfl (by omega) <|
          cw_if_ne_T (tgt := 29) (pc := 25) dX0_search_25 (by decide) (bI_n0.mpr ⟨nI_pos' (by omega), nI_lt (b := 9) (by omega) (by decide)⟩) <|
          cw_iload_n (pc := 29) dX0_search_29 rfl rfl <|
          cw_bipush (v := 12) (pc := 30) dX0_search_30 (by decide) <|
          cw_icmp_lt_T (tgt := 54) (pc := 32) dX0_search_32 (by decide) (nI_lt (b := 12) hx (by decide)) <|
          cw_aload_n (pc := 54) dX0_search_54 rfl rfl <|
          cw_getR (q := 58) (t := 59) (pc := 55) dX0_search_55 fX0_9 sh_58 (by decide) rfl <|
          cw_iload_n (pc := 58) dX0_search_58 rfl rfl <|
          cw_bipush (v := 9) (pc := 59) dX0_search_59 (by decide) <|
          cw_imul (pc := 61) dX0_search_61 <|
          cw_iload_n (pc := 62) dX0_search_62 rfl rfl <|
          cw_iadd (pc := 63) dX0_search_63 <|
          cw_ial (q := 59) (jn := ((x * 9) + (lnK s code p m x))) (pc := 64) dX0_search_64 sh_59 (nx_add (nx_mul rfl rfl) rfl) (by omega) (by decide) <|
          ?_
        rw [hA]
        refine cw_istore (L' := [_, _, _, _, _, _, _]) (pc := 65) dX0_search_65 (by decide) rfl rfl <|
          cw_aload_n (pc := 67) dX0_search_67 rfl rfl <|
          cw_iload_n (pc := 68) dX0_search_68 rfl rfl <|
          cw_iconst (v := 1) (pc := 69) dX0_search_69 (by decide) <|
          cw_iadd (pc := 70) dX0_search_70 <|
          ?_
        rw [nI_1 x]
        refine cw_iload_n (pc := 71) dX0_search_71 rfl rfl <|
          cw_iload (pc := 72) dX0_search_72 rfl <|
          cw_iadd (pc := 74) dX0_search_74 <|
          ?_
        rw [s1]
        refine cw_iload (pc := 75) dX0_search_75 rfl <|
          cw_iload_n (pc := 77) dX0_search_77 rfl rfl <|
          cw_insI (pc := 78) dX0_search_78 c_X0_latestOf vX0_87 rfl rfl rfl (by omega) <|
          cw_iload (pc := 81) dX0_search_81 rfl <|
          cw_iload (pc := 83) dX0_search_83 rfl <|
          cw_iload_n (pc := 85) dX0_search_85 rfl rfl <|
          cw_insI (pc := 86) dX0_search_86 c_X0_lossOf vX0_91 rfl rfl rfl (by omega) <|
          cw_iadd (pc := 89) dX0_search_89 <|
          ?_
        rw [s3]
        refine cw_iload (pc := 90) dX0_search_90 rfl <|
          cw_invP (q := 58) (pc := 92) dX0_search_92 (ih μ m o _ hm2 hsub hq hBO s2) rfl vX0_65 sh_58 (by decide) rfl rfl rfl (by omega) <|
          ?_
        rintro _ m1 ⟨rfl, kb1, ks1⟩
        have hq1 := hq.mo ks1
        have hB := (hq1.2.2.2 x _ hx hl8).2
        refine cw_aload_n (pc := 95) dX0_search_95 rfl rfl <|
          cw_getI (q := 58) (pc := 96) dX0_search_96 fX0_49 sh_58 (by decide) rfl <|
          ?_
        rw [hq1.2.2.1]
        refine cw_iload_n (pc := 99) dX0_search_99 rfl rfl <|
          cw_insNI (pc := 100) dX0_search_100 c_X8_bit vX0_94 rfl rfl rfl (by omega) <|
          ?_
        rw [m_bit (Nat.lt_trans (ly_lt s 12) (by decide)) hx]
        refine cw_iconst (v := 1) (pc := 103) dX0_search_103 (by decide) <|
          cw_icmp_ne_T (tgt := 152) (pc := 104) dX0_search_104 (by decide) (fun h => hly ((ly_one hx).mp ((nI_eq (b := 1) (by omega) (by decide)).mp h))) <|
          cw_vret (pc := 152) dX0_search_152 hR <|
          ⟨rfl, by rw [srch_n hly]; exact kb1, ks1⟩
    · refine cw_iload (pc := 0) dX0_search_0 rfl <|
        cw_aload_n (pc := 2) dX0_search_2 rfl rfl <|
        cw_getI (q := 58) (pc := 3) dX0_search_3 fX0_46 sh_58 (by decide) rfl <|
        ?_
      rw [h4]
      refine cw_icmp_gt_F (tgt := 28) (pc := 6) dX0_search_6 (by decide) (Int32.not_lt.mpr ((may_le (by omega) hmk).mpr hk)) <|
        cw_iload (pc := 9) dX0_search_9 rfl <|
        cw_insI (pc := 11) dX0_search_11 (c_J6_bitCount_0f7a4 (x := nI m)) vX0_69 rfl rfl rfl (by omega) <|
        ?_
      rw [bc_cn2 hm12]
      refine cw_aload_n (pc := 14) dX0_search_14 rfl rfl <|
        cw_getI (q := 58) (pc := 15) dX0_search_15 fX0_62 sh_58 (by decide) rfl <|
        ?_
      rw [b6]
      refine cw_icmp_gt_T (tgt := 28) (pc := 18) dX0_search_18 (by decide) (nI_lt (Nat.not_le.mp hc) (by omega)) <|
        cw_vret (pc := 28) dX0_search_28 hR <|
        ⟨rfl, by rw [kill_cnt hm (Nat.not_le.mp hc)]; exact hBO, Same.rf⟩
  · refine cw_iload (pc := 0) dX0_search_0 rfl <|
      cw_aload_n (pc := 2) dX0_search_2 rfl rfl <|
      cw_getI (q := 58) (pc := 3) dX0_search_3 fX0_46 sh_58 (by decide) rfl <|
      ?_
    rw [h4]
    refine cw_icmp_gt_T (tgt := 28) (pc := 6) dX0_search_6 (by decide) (Int32.not_le.mp (fun h => hk ((may_le (by omega) hmk).mp h))) <|
      cw_vret (pc := 28) dX0_search_28 hR <|
      ⟨rfl, by rw [kill_lost hpg hmk (by omega) hm hk]; exact hBO, Same.rf⟩
theorem c_search {E : Ev} {s : Row} {code : PCo} {mk p : Nat} (hpg : pgS s p ≤ 8) (hmk : mk ≤ 99) : ∀ (f x d : Nat) (μ : Mem) (m : Nat) (o : Option Nat) (lt : Int32), x + f = 12 → f + 2 ≤ d → m < 2 ^ x → subB s m = true → SQ μ s code mk p → BO μ o → lt.toInt = (stat (lnK s code p m) x).2.2 → AM E yX0_search cX0_search 7 none d [.ref 58, .int (nI x), .int (nI (lnK s code p m x)), .int lt, .int (nI (losN (lnK s code p m) x)), .int (nI m)] μ (fun r μ' => r = none ∧ BO μ' (srch (upB (clrB s code mk p)) (lyB s) f x m o) ∧ Same FS μ μ') := by
  intro f
  induction f with
  | zero => intro x d μ m o lt hx hd hm hsub hq hb hlt; subst hx; exact c_X0_search_0 hpg hmk hd hm hsub hq hb hlt
  | succ f ih => intro x d μ m o lt hx hd hm hsub hq hb hlt; exact c_X0_search_s hpg hmk (by omega) hx (by omega) hm hsub hq hb hlt (fun μ m o lt a b c e g => ih (x + 1) (d - 1) μ m o lt (by omega) (by omega) a b c e g)
