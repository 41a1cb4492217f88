/-- how many of V 9, 8 .. are so; the latest (least) one -/
def firmF (f : Nat → Bool) : Nat → Nat × Int32
  | 0 => (0, -5)
  | i + 1 => if f (9 - i) then ((firmF f i).1 + 1, nI (9 - i)) else firmF f i
theorem firmF_s (f : Nat → Bool) (i : Nat) : firmF f (i + 1) = if f (9 - i) then ((firmF f i).1 + 1, nI (9 - i)) else firmF f i := rfl
def firmB (s : Row) (code : PCo) (p : Nat) : Nat → Bool := fun v => seenB s p (lnS (upd s (45 + p) (nI v)) code p (pgS s p))
def firmA (s : Row) (code : PCo) (x w : Int32) : Int32 := if (0 ≤ x ∧ x < s 31) ∧ (0 ≤ w ∧ w ≤ 1) then (if w = 0 then nI (firmF (firmB s code (nN x)) 10).1 else (firmF (firmB s code (nN x)) 10).2) else -1
theorem nine_dn {i : Nat} (h : i ≤ 9) : (9 : Int32) - nI i = nI (9 - i) := pk_sub (a := 9) (b := i) h
theorem nine_s {i : Nat} (h : i ≤ 9) : nI (9 - i) + -1 = 9 - nI (i + 1) := by
  rw [← nine_dn h, ← nI_1 i]; grind
set_option maxHeartbeats 4000000 in
set_option maxRecDepth 100000 in
theorem c_X8_firm {E : Ev} {μ : Mem} {s : Row} {n mk : Nat} {code : PCo} (hI : Inv s n code mk) (hR1 : Rel μ 1 s code mk) {x w : Int32} : AM E yX8_firm cX8_firm 6 (some .int) 5 [.ref 0, .int x, .int w] μ (fun r μ' => r = some (.int (firmA s code x w)) ∧ Same (fun q _ => 43 ≤ q ∧ q ≤ 64) μ μ') := by
  refine am_of (own := RX8) (L := [.ref 0, .int x, .int w, .null, .null, .null]) (by decide) rfl (Nat.le_of_ble_eq_true rfl) rfl (fun Γ hR => ?_)
  have hR0 := hR1
  obtain ⟨hIL, hIP, hIC, hIS, hIW, hIB, hIT⟩ := hI
  obtain ⟨hL, ⟨hcd, hmk⟩, hT, hC, hS, hW, hB, hnp⟩ := hR1
  have hn := hIL.1
  have h6 := hIL.2.1
  have h31 : μ 2 1 = s 31 := hL.2.1
  by_cases hx : 0 ≤ x ∧ x < s 31
  · by_cases hw : 0 ≤ w ∧ w ≤ 1
    · obtain ⟨p, hp, rfl⟩ := isM_of hn h6 hx
      have hp6 : p < 6 := by omega
      obtain ⟨pg, hpg, epg⟩ := (hIL.2.2.2.2.2.2 p hp).1
      have epS : pgS s p = pg := by unfold pgS; rw [epg]; exact nI_clamp (by omega)
      refine cw_aload_n (pc := 0) dX8_firm_0 rfl rfl <|
        cw_getR (q := 0) (t := 2) (pc := 1) dX8_firm_1 fX8_25 sh_0 (by decide) rfl <|
        cw_iload_n (pc := 4) dX8_firm_4 rfl rfl <|
        cw_invI (q := 2) (pc := 5) dX8_firm_5 (c_has land_2 h31 hn h6) rfl vX8_112 sh_2 (by decide) rfl rfl rfl (by decide) <|
        cw_if_eq_F (tgt := 20) (pc := 8) dX8_firm_8 (by decide) (bI_n0.mpr hx) <|
        cw_iload_n (pc := 11) dX8_firm_11 rfl rfl <|
        cw_if_lt_F (tgt := 20) (pc := 12) dX8_firm_12 (by decide) (Int32.not_lt.mpr hw.1) <|
        cw_iload_n (pc := 15) dX8_firm_15 rfl rfl <|
        cw_iconst (v := 1) (pc := 16) dX8_firm_16 (by decide) <|
        cw_icmp_le_T (tgt := 22) (pc := 17) dX8_firm_17 (by decide) hw.2 <|
        cw_iconst (v := 0) (pc := 22) dX8_firm_22 (by decide) <|
        cw_istore_n (L' := [_, _, _, _, _, _]) (pc := 23) dX8_firm_23 rfl (by decide) rfl rfl <|
        cw_bipush (v := -5) (pc := 24) dX8_firm_24 (by decide) <|
        cw_istore (L' := [_, _, _, _, _, _]) (pc := 26) dX8_firm_26 (by decide) rfl rfl <|
        cw_aload_n (pc := 28) dX8_firm_28 rfl rfl <|
        cw_getR (q := 0) (t := 43) (pc := 29) dX8_firm_29 fX8_42 sh_0 (by decide) rfl <|
        cw_aload_n (pc := 32) dX8_firm_32 rfl rfl <|
        cw_getR (q := 0) (t := 2) (pc := 33) dX8_firm_33 fX8_25 sh_0 (by decide) rfl <|
        cw_invP (q := 43) (pc := 36) dX8_firm_36 (c_copy hL) rfl vX8_202 sh_43 (by decide) rfl rfl rfl (by decide) <|
        ?_
      rintro _ m0 ⟨rfl, l0, s0⟩
      refine cw_bipush (v := 9) (pc := 39) dX8_firm_39 (by decide) <|
        cw_istore (L' := [_, _, _, _, _, _]) (pc := 41) dX8_firm_41 (by decide) rfl rfl <|
        ?_
      refine cw_for (σ := Int32 × Int32 × Int32) 10 (fun i a m => a.1 = nI (firmF (firmB s code p) i).1 ∧ a.2.1 = (firmF (firmB s code p) i).2 ∧ a.2.2 = 9 - nI i ∧ (∃ v, RelL m 43 (upd s (45 + p) v)) ∧ Same (fun q _ => 43 ≤ q ∧ q ≤ 64) μ m) (fun _ a => [.ref 0, .int (nI p), .int w, .int a.1, .int a.2.1, .int a.2.2]) ?_ ?_ 0 (0, -5, 9) m0 (Nat.zero_le _) ⟨rfl, rfl, rfl, ⟨s (45 + p), by rw [uself]; exact l0⟩, s0.mo (fun q i h => by omega)⟩
      · rintro ⟨a, b, x⟩ m ⟨ha, hb, hx1, -, hS1⟩
        dsimp only at ha hb hx1 ⊢
        subst hx1
        by_cases h0 : w = 0
        · refine cw_iload (pc := 43) dX8_firm_43 rfl <|
            cw_if_lt_T (tgt := 102) (pc := 45) dX8_firm_45 (by decide) (by decide) <|
            cw_iload_n (pc := 102) dX8_firm_102 rfl rfl <|
            cw_if_ne_F (tgt := 110) (pc := 103) dX8_firm_103 (by decide) h0 <|
            cw_iload_n (pc := 106) dX8_firm_106 rfl rfl <|
            cw_goto (tgt := 112) (pc := 107) dX8_firm_107 (by decide) <|
            cw_iret (pc := 112) dX8_firm_112 hR <|
            ⟨by rw [firmA, if_pos ⟨hx, hw⟩, if_pos h0, nN_nI (by omega), ha], hS1⟩
        · refine cw_iload (pc := 43) dX8_firm_43 rfl <|
            cw_if_lt_T (tgt := 102) (pc := 45) dX8_firm_45 (by decide) (by decide) <|
            cw_iload_n (pc := 102) dX8_firm_102 rfl rfl <|
            cw_if_ne_T (tgt := 110) (pc := 103) dX8_firm_103 (by decide) h0 <|
            cw_iload (pc := 110) dX8_firm_110 rfl <|
            cw_iret (pc := 112) dX8_firm_112 hR <|
            ⟨by rw [firmA, if_pos ⟨hx, hw⟩, if_neg h0, nN_nI (by omega), hb], hS1⟩
      · rintro i ⟨a, b, x⟩ m hi ⟨ha, hb, hx1, ⟨v, l1⟩, hS1⟩ ih
        dsimp only at ha hb hx1 ⊢
        rw [nine_dn (by omega)] at hx1
        subst hx1
        have l2 : RelL (st m 46 p (nI (9 - i))) 43 (upd s (45 + p) (nI (9 - i))) := by have := l1.vv hp6 (nI (9 - i)); rw [uu] at this; exact this
        have hS2 : Same (fun q _ => 43 ≤ q ∧ q ≤ 64) μ (st m 46 p (nI (9 - i))) := hS1.s1 (by omega)
        have r47 : (st m 46 p (nI (9 - i))) 47 p = nI pg := ((l2.2.2.2.2.2.1 p hp6).2.2.1).trans ((un (by omega)).trans epg)
        have mm : nI p < (st m 46 p (nI (9 - i))) 43 1 := by rw [l2.2.1, un (by omega)]; exact hx.2
        have g : ∀ q, q ≤ 21 → (st m 46 p (nI (9 - i))) q = μ q := fun q h => funext fun i => hS2 _ _ (by omega)
        have hcm := hcd.mo (g _ (by omega)) (g _ (by omega)) (g _ (by omega))
        refine cw_iload (pc := 43) dX8_firm_43 rfl <|
          cw_if_lt_F (tgt := 102) (pc := 45) dX8_firm_45 (by decide) (nI_pos (by omega)) <|
          cw_aload_n (pc := 48) dX8_firm_48 rfl rfl <|
          cw_getR (q := 0) (t := 43) (pc := 49) dX8_firm_49 fX8_42 sh_0 (by decide) rfl <|
          cw_getR (q := 43) (t := 46) (pc := 52) dX8_firm_52 fX8_120 sh_43 (by decide) rfl <|
          cw_iload_n (pc := 55) dX8_firm_55 rfl rfl <|
          cw_iload (pc := 56) dX8_firm_56 rfl <|
          cw_ias (q := 46) (jn := p) (pc := 58) dX8_firm_58 sh_46 rfl hp6 (by decide) <|
          cw_aload_n (pc := 59) dX8_firm_59 rfl rfl <|
          cw_getR (q := 0) (t := 54) (pc := 60) dX8_firm_60 fX8_45 sh_0 (by decide) rfl <|
          cw_iload_n (pc := 63) dX8_firm_63 rfl rfl <|
          cw_aload_n (pc := 64) dX8_firm_64 rfl rfl <|
          cw_getR (q := 0) (t := 43) (pc := 65) dX8_firm_65 fX8_42 sh_0 (by decide) rfl <|
          cw_getR (q := 43) (t := 47) (pc := 68) dX8_firm_68 fX8_123 sh_43 (by decide) rfl <|
          cw_iload_n (pc := 71) dX8_firm_71 rfl rfl <|
          cw_ial (q := 47) (jn := p) (pc := 72) dX8_firm_72 sh_47 rfl hp6 (by decide) <|
          ?_
        rw [r47]
        refine cw_invP (q := 54) (pc := 73) dX8_firm_73 (c_X4_goes plo_54 land_43 par_9 hcm hIP.2.2.2 hp6 mm (l := pg) hpg) rfl vX8_178 sh_54 (by decide) rfl rfl rfl (by decide) <|
          ?_
        rintro _ m2 ⟨rfl, s2, sl, -, -⟩
        have hS3 : Same (fun q _ => 43 ≤ q ∧ q ≤ 64) μ m2 := hS2.tr (s2.mo (fun q i h => by unfold PH at h; omega))
        have g : ∀ q, q ≤ 21 → m2 q = μ q := fun q h => funext fun i => hS3 _ _ (by omega)
        have hSm : RelS m2 1 s := by unfold RelS; rw [g _ (by omega), g _ (by omega)]; exact hS
        have hlx : ∀ x, x ≤ 12 → m2 57 x = nI (lnS (upd s (45 + p) (nI (9 - i))) code p pg x) := fun x hx => (sl x hx).trans (by rw [l2.line code pg hp6 x hx])
        have l3 : RelL m2 43 (upd s (45 + p) (nI (9 - i))) := l2.mo (fun q a b => funext fun i => s2 _ _ (by unfold PH; omega))
        refine cw_pop (pc := 76) dX8_firm_76 rfl <|
          cw_aload_n (pc := 77) dX8_firm_77 rfl rfl <|
          cw_aload_n (pc := 78) dX8_firm_78 rfl rfl <|
          cw_getR (q := 0) (t := 54) (pc := 79) dX8_firm_79 fX8_45 sh_0 (by decide) rfl <|
          cw_iload_n (pc := 82) dX8_firm_82 rfl rfl <|
          cw_invI (q := 0) (pc := 83) dX8_firm_83 (c_X8_isAsSeen plo_54 (p := p) hSm hIS hlx) rfl vX8_239 sh_0 (by decide) rfl rfl rfl (by decide) <|
          cw_if_eq (tgt := 96) (pc := 86) dX8_firm_86 (by decide) (fun c86 => ?_) (fun c86 => ?_)
        · refine cw_iincL (L' := [_, _, _, _, _, _]) (c := -1) (pc := 96) dX8_firm_96 rfl (by decide) (by decide) rfl rfl <|
            cw_goto (tgt := 43) (pc := 99) dX8_firm_99 (by decide) <|
            ?_
          exact ih (_, _, _) _ ⟨by rw [firmF_s, show firmB s code p (9 - i) = false by unfold firmB; rw [epS]; revert c86; cases seenB s p (lnS (upd s (45 + p) (nI (9 - i))) code p pg) <;> simp]; exact ha, by rw [firmF_s, show firmB s code p (9 - i) = false by unfold firmB; rw [epS]; revert c86; cases seenB s p (lnS (upd s (45 + p) (nI (9 - i))) code p pg) <;> simp]; exact hb, nine_s (by omega), ⟨_, l3⟩, hS3⟩
        · refine cw_iincL (L' := [_, _, _, _, _, _]) (c := 1) (pc := 89) dX8_firm_89 rfl (by decide) (by decide) rfl rfl <|
            cw_iload (pc := 92) dX8_firm_92 rfl <|
            cw_istore (L' := [_, _, _, _, _, _]) (pc := 94) dX8_firm_94 (by decide) rfl rfl <|
            cw_iincL (L' := [_, _, _, _, _, _]) (c := -1) (pc := 96) dX8_firm_96 rfl (by decide) (by decide) rfl rfl <|
            cw_goto (tgt := 43) (pc := 99) dX8_firm_99 (by decide) <|
            ?_
          exact ih (_, _, _) _ ⟨by rw [firmF_s, show firmB s code p (9 - i) = true by unfold firmB; rw [epS]; revert c86; cases seenB s p (lnS (upd s (45 + p) (nI (9 - i))) code p pg) <;> simp]; dsimp only at ha ⊢; rw [ha]; exact nI_1 _, by rw [firmF_s, show firmB s code p (9 - i) = true by unfold firmB; rw [epS]; revert c86; cases seenB s p (lnS (upd s (45 + p) (nI (9 - i))) code p pg) <;> simp]; rfl, nine_s (by omega), ⟨_, l3⟩, hS3⟩
    · refine cw_aload_n (pc := 0) dX8_firm_0 rfl rfl <|
        cw_getR (q := 0) (t := 2) (pc := 1) dX8_firm_1 fX8_25 sh_0 (by decide) rfl <|
        cw_iload_n (pc := 4) dX8_firm_4 rfl rfl <|
        cw_invI (q := 2) (pc := 5) dX8_firm_5 (c_has land_2 h31 hn h6) rfl vX8_112 sh_2 (by decide) rfl rfl rfl (by decide) <|
        cw_if_eq_F (tgt := 20) (pc := 8) dX8_firm_8 (by decide) (bI_n0.mpr hx) <|
        cw_iload_n (pc := 11) dX8_firm_11 rfl rfl <|
        cw_if_lt (tgt := 20) (pc := 12) dX8_firm_12 (by decide) (fun c12 => ?_) (fun c12 => ?_)
      · refine cw_iconst (v := -1) (pc := 20) dX8_firm_20 (by decide) <|
          cw_iret (pc := 21) dX8_firm_21 hR <|
          ⟨by rw [firmA, if_neg (fun h => hw h.2)], Same.rf⟩
      · refine cw_iload_n (pc := 15) dX8_firm_15 rfl rfl <|
          cw_iconst (v := 1) (pc := 16) dX8_firm_16 (by decide) <|
          cw_icmp_le (tgt := 22) (pc := 17) dX8_firm_17 (by decide) (fun c17 => ?_) (fun c17 => ?_)
        · exact absurd ⟨Int32.not_lt.mp c12, c17⟩ hw
        · refine cw_iconst (v := -1) (pc := 20) dX8_firm_20 (by decide) <|
            cw_iret (pc := 21) dX8_firm_21 hR <|
            ⟨by rw [firmA, if_neg (fun h => hw h.2)], Same.rf⟩
  · refine cw_aload_n (pc := 0) dX8_firm_0 rfl rfl <|
      cw_getR (q := 0) (t := 2) (pc := 1) dX8_firm_1 fX8_25 sh_0 (by decide) rfl <|
      cw_iload_n (pc := 4) dX8_firm_4 rfl rfl <|
      cw_invI (q := 2) (pc := 5) dX8_firm_5 (c_has land_2 h31 hn h6) rfl vX8_112 sh_2 (by decide) rfl rfl rfl (by decide) <|
      cw_if_eq_T (tgt := 20) (pc := 8) dX8_firm_8 (by decide) (bI_0.mpr hx) <|
      cw_iconst (v := -1) (pc := 20) dX8_firm_20 (by decide) <|
      cw_iret (pc := 21) dX8_firm_21 hR <|
      ⟨by rw [firmA, if_neg (fun h => hx h.1)], Same.rf⟩
