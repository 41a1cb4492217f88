/-! ===== the model: odds, mean, plans, books ===== -/
theorem gcd_eq : ∀ f a b, b ≤ f → gcdF f a b = Nat.gcd a b := by
  intro f
  induction f with
  | zero => intro a b h; have : b = 0 := by omega
            subst this; rw [gcdF_0, Nat.gcd_zero_right]
  | succ f ih =>
    intro a b h
    rw [gcdF_s]
    by_cases hb : b = 0
    · rw [if_pos hb, hb, Nat.gcd_zero_right]
    · rw [if_neg hb]
      have := Nat.mod_lt a (show 0 < b by omega)
      rw [ih b (a % b) (by omega), Nat.gcd_comm a b, Nat.gcd_rec b a, Nat.gcd_comm]
theorem g_pos {a b : Nat} (hb : 0 < b) (h64 : b ≤ 64) : 0 < gcdF 64 a b := by rw [gcd_eq 64 a b h64]; exact Nat.gcd_pos_of_pos_right a hb
theorem g_le {a b : Nat} (hb : 0 < b) (h64 : b ≤ 64) : gcdF 64 a b ≤ b := by rw [gcd_eq 64 a b h64]; exact Nat.gcd_le_right a hb
theorem l_ge0 {x : Int32} : (0 : Int64) ≤ x.toInt64 ↔ 0 ≤ x := by
  rw [Int64.le_iff_toInt_le, Int32.le_iff_toInt_le, Int32.toInt_toInt64]; exact Iff.rfl
theorem l_add {x y : Int32} (h : -1000 ≤ x.toInt ∧ x.toInt ≤ 1000) (h2 : -1000 ≤ y.toInt ∧ y.toInt ≤ 1000) : x.toInt64 + y.toInt64 = (x + y).toInt64 := by
  apply Int64.toInt_inj.mp
  rw [Int64.toInt_add, Int32.toInt_toInt64, Int32.toInt_toInt64, Int32.toInt_toInt64, Int32.toInt_add, Int.bmod_eq_of_le (by omega) (by omega), Int.bmod_eq_of_le (by omega) (by omega)]
theorem l_div {x : Int32} {g : Nat} (hg : 0 < g) (h : g < 2 ^ 31) : x.toInt64 / (nI g).toInt64 = (x / nI g).toInt64 := (Int32.toInt64_div_of_ne_right _ _ (fun e => absurd (nI_pos' h) (by rw [e]; decide))).symm
theorem lne_of {g : Nat} (h : 0 < g) (h2 : g < 2 ^ 31) : ¬ (nI g).toInt64 = 0 := fun e => by
  rw [nI_l h2] at e
  have := (pk_lEQ (a := g) (b := 0) (by omega) (by decide)).mp e
  omega
set_option maxHeartbeats 4000000 in
set_option maxRecDepth 100000 in
theorem c_X9_lowest {E : Ev} {μ : Mem} {top part : Int32} {a b : Nat} (habs : (if 0 ≤ top then top else -top) = nI a) (ha : a < 2 ^ 20) (hb : 0 < b) (h64 : b ≤ 64) (hmin : top ≠ -2147483648) : AM E yX9_lowest cX9_lowest 11 (some .long) 0 [.long top.toInt64, .long (lN b), .int part] μ (fun r μ' => r = some (.long (partL top a b part)) ∧ μ' = μ) := by
  refine am_of (own := RX9) (L := [.long top.toInt64, .null, .long (lN b), .null, .int part, .null, .null, .null, .null, .null, .null]) (by decide) rfl (Nat.le_of_ble_eq_true rfl) rfl (fun Γ hR => ?_)
  have hg0 := g_pos (a := a) hb h64
  have hgle := g_le (a := a) hb h64
  have hge := gcd_eq 64 a b h64
  have key : ∀ (y x : Nat) (z9 : Value), x < 2 ^ 31 → y < 2 ^ 31 → Nat.gcd x y = gcdF 64 a b → CW E Γ cX9_lowest 11 RX9 0 17 [.long top.toInt64, .null, .long (lN b), .null, .int part, .long (lN x), .null, .long (lN y), .null, z9, .null] [] μ := by
    intro y
    induction y using Nat.strongRecOn with
    | ind y ih =>
      intro x z9 hx hy hxy
      by_cases h0 : y = 0
      · subst h0
        rw [Nat.gcd_zero_right] at hxy
        subst hxy
        by_cases hz : part = 0
        · refine cw_lload (pc := 17) dX9_lowest_17 rfl <|
            cw_lconst (v := 0) (pc := 19) dX9_lowest_19 (by decide) <|
            cw_lcmp (pc := 20) dX9_lowest_20 <|
            cw_if_eq_T (tgt := 42) (pc := 21) dX9_lowest_21 (by decide) ((lg_cmp_eq _ _).mpr rfl) <|
            cw_iload (pc := 42) dX9_lowest_42 rfl <|
            cw_if_ne_F (tgt := 51) (pc := 44) dX9_lowest_44 (by decide) hz <|
            cw_lload_n (pc := 47) dX9_lowest_47 rfl rfl <|
            cw_goto (tgt := 52) (pc := 48) dX9_lowest_48 (by decide) <|
            cw_lload (pc := 52) dX9_lowest_52 rfl <|
            cw_ldiv (pc := 54) dX9_lowest_54 (by rw [← nI_l (by omega)]; exact lne_of hg0 (by omega)) <|
            cw_lret (pc := 55) dX9_lowest_55 hR <|
            ⟨by rw [partL, if_neg (by omega), if_pos hz, ← l_div hg0 (by omega), nI_l (by omega)], rfl⟩
        · refine cw_lload (pc := 17) dX9_lowest_17 rfl <|
            cw_lconst (v := 0) (pc := 19) dX9_lowest_19 (by decide) <|
            cw_lcmp (pc := 20) dX9_lowest_20 <|
            cw_if_eq_T (tgt := 42) (pc := 21) dX9_lowest_21 (by decide) ((lg_cmp_eq _ _).mpr rfl) <|
            cw_iload (pc := 42) dX9_lowest_42 rfl <|
            cw_if_ne_T (tgt := 51) (pc := 44) dX9_lowest_44 (by decide) hz <|
            cw_lload_n (pc := 51) dX9_lowest_51 rfl rfl <|
            cw_lload (pc := 52) dX9_lowest_52 rfl <|
            cw_ldiv (pc := 54) dX9_lowest_54 (by rw [← nI_l (by omega)]; exact lne_of hg0 (by omega)) <|
            cw_lret (pc := 55) dX9_lowest_55 hR <|
            ⟨by rw [partL, if_neg (by omega), if_neg hz, ← l_div hg0 (by omega), nI_l (by omega), nI_l (by omega)], rfl⟩
      · have hyn : ¬ lN y = 0 := fun e => h0 ((pk_lEQ (by omega) (by decide)).mp (show lN y = lN 0 from e))
        have hlt := Nat.mod_lt x (show 0 < y by omega)
        refine cw_lload (pc := 17) dX9_lowest_17 rfl <|
          cw_lconst (v := 0) (pc := 19) dX9_lowest_19 (by decide) <|
          cw_lcmp (pc := 20) dX9_lowest_20 <|
          cw_if_eq_F (tgt := 42) (pc := 21) dX9_lowest_21 (by decide) (fun e => hyn ((lg_cmp_eq _ _).mp e)) <|
          cw_lload (pc := 24) dX9_lowest_24 rfl <|
          cw_lload (pc := 26) dX9_lowest_26 rfl <|
          cw_lrem (pc := 28) dX9_lowest_28 hyn <|
          ?_
        rw [pk_lRem (by omega) (by omega) (by omega)]
        refine cw_lstore (L' := [_, _, _, _, _, _, _, _, _, _, _]) (pc := 29) dX9_lowest_29 (by decide) rfl rfl <|
          cw_lload (pc := 31) dX9_lowest_31 rfl <|
          cw_lstore (L' := [_, _, _, _, _, _, _, _, _, _, _]) (pc := 33) dX9_lowest_33 (by decide) rfl rfl <|
          cw_lload (pc := 35) dX9_lowest_35 rfl <|
          cw_lstore (L' := [_, _, _, _, _, _, _, _, _, _, _]) (pc := 37) dX9_lowest_37 (by decide) rfl rfl <|
          cw_goto (tgt := 17) (pc := 39) dX9_lowest_39 (by decide) <|
          ?_
        exact ih (x % y) hlt y _ hy (by omega) (by rw [← hxy, Nat.gcd_comm x y, Nat.gcd_rec y x, Nat.gcd_comm])
  by_cases ht : 0 ≤ top
  · refine cw_lload_n (pc := 0) dX9_lowest_0 rfl rfl <|
      cw_lconst (v := 0) (pc := 1) dX9_lowest_1 (by decide) <|
      cw_lcmp (pc := 2) dX9_lowest_2 <|
      cw_if_ge_T (tgt := 11) (pc := 3) dX9_lowest_3 (by decide) ((lg_cmp_ge _ _).mpr (l_ge0.mpr ht)) <|
      cw_lload_n (pc := 11) dX9_lowest_11 rfl rfl <|
      cw_lstore (L' := [_, _, _, _, _, _, _, _, _, _, _]) (pc := 12) dX9_lowest_12 (by decide) rfl rfl <|
      cw_lload_n (pc := 14) dX9_lowest_14 rfl rfl <|
      cw_lstore (L' := [_, _, _, _, _, _, _, _, _, _, _]) (pc := 15) dX9_lowest_15 (by decide) rfl rfl <|
      ?_
    rw [show top.toInt64 = lN a by rw [if_pos ht] at habs; rw [habs, nI_l (by omega)]] at key ⊢
    exact key b a .null (by omega) (by omega) hge.symm
  · refine cw_lload_n (pc := 0) dX9_lowest_0 rfl rfl <|
      cw_lconst (v := 0) (pc := 1) dX9_lowest_1 (by decide) <|
      cw_lcmp (pc := 2) dX9_lowest_2 <|
      cw_if_ge_F (tgt := 11) (pc := 3) dX9_lowest_3 (by decide) (fun h => ht (l_ge0.mp ((lg_cmp_ge _ _).mp h))) <|
      cw_lload_n (pc := 6) dX9_lowest_6 rfl rfl <|
      cw_lneg (pc := 7) dX9_lowest_7 <|
      cw_goto (tgt := 12) (pc := 8) dX9_lowest_8 (by decide) <|
      cw_lstore (L' := [_, _, _, _, _, _, _, _, _, _, _]) (pc := 12) dX9_lowest_12 (by decide) rfl rfl <|
      cw_lload_n (pc := 14) dX9_lowest_14 rfl rfl <|
      cw_lstore (L' := [_, _, _, _, _, _, _, _, _, _, _]) (pc := 15) dX9_lowest_15 (by decide) rfl rfl <|
      ?_
    rw [show -top.toInt64 = lN a by rw [if_neg ht] at habs; rw [← nI_l (by omega), ← habs]; exact (Int32.toInt64_neg_of_ne hmin).symm]
    exact key b a .null (by omega) (by omega) hge.symm
set_option maxHeartbeats 4000000 in
set_option maxRecDepth 100000 in
theorem c_X9_odds {E : Ev} {μ : Mem} {s : Row} (hs : μ 68 = s) {n mk : Nat} {code : PCo} (hI : Inv s n code mk) {x v part : Int32} : AM E yX9_odds cX9_odds 7 (some .long) 6 [.ref 67, .int x, .int v, .int part] μ (fun r μ' => r = some (.long (oddsA s code mk x v part)) ∧ Same MQr μ μ') := by
  refine am_of (own := RX9) (L := [.ref 67, .int x, .int v, .int part, .null, .null, .null]) (by decide) rfl (Nat.le_of_ble_eq_true rfl) rfl (fun Γ hR => ?_)
  subst hs
  have hI0 := hI
  obtain ⟨hIL, hIP, hIC, hIS, hIW, hIB, hIT⟩ := hI
  have hn := hIL.1
  have h6 := hIL.2.1
  by_cases hx : 0 ≤ x ∧ x < μ 68 31
  · by_cases hv : 1 ≤ v ∧ v ≤ 9
    · by_cases hq : 0 ≤ part ∧ part ≤ 1
      · have hq' := i_le01.mp hq
        obtain ⟨p, hp, rfl⟩ := isM_of hn h6 hx
        have hcl := cntB_le (oddsB (μ 68) code mk p v) 12
        refine cw_aload_n (pc := 0) dX9_odds_0 rfl rfl <|
          cw_iload_n (pc := 1) dX9_odds_1 rfl rfl <|
          cw_invI (q := 67) (pc := 2) dX9_odds_2 (c_X9_isMan hn h6) rfl vX9_162 sh_67 (by decide) rfl rfl rfl (by decide) <|
          cw_if_eq_F (tgt := 27) (pc := 5) dX9_odds_5 (by decide) (bI_n0.mpr hx) <|
          cw_iload_n (pc := 8) dX9_odds_8 rfl rfl <|
          cw_iconst (v := 1) (pc := 9) dX9_odds_9 (by decide) <|
          cw_bipush (v := 9) (pc := 10) dX9_odds_10 (by decide) <|
          cw_insI (pc := 12) dX9_odds_12 c_X9_in vX9_44 rfl rfl rfl (by decide) <|
          cw_if_eq_F (tgt := 27) (pc := 15) dX9_odds_15 (by decide) (bI_n0.mpr hv) <|
          cw_iload_n (pc := 18) dX9_odds_18 rfl rfl <|
          cw_iconst (v := 0) (pc := 19) dX9_odds_19 (by decide) <|
          cw_iconst (v := 1) (pc := 20) dX9_odds_20 (by decide) <|
          cw_insI (pc := 21) dX9_odds_21 c_X9_in vX9_44 rfl rfl rfl (by decide) <|
          cw_if_ne_T (tgt := 31) (pc := 24) dX9_odds_24 (by decide) (bI_n0.mpr hq) <|
          cw_lconst (v := 0) (pc := 31) dX9_odds_31 (by decide) <|
          cw_lstore (L' := [_, _, _, _, _, _, _]) (pc := 32) dX9_odds_32 (by decide) rfl rfl <|
          cw_iconst (v := 0) (pc := 34) dX9_odds_34 (by decide) <|
          cw_istore (L' := [_, _, _, _, _, _, _]) (pc := 35) dX9_odds_35 (by decide) rfl rfl <|
          ?_
        refine cw_for (σ := Unit) 12 (fun i _ m => Same MS μ m) (fun i _ => [.ref 67, .int (nI p), .int v, .int part, .long (lN (cntB (oddsB (μ 68) code mk p v) i)), .null, .int (nI i)]) ?_ ?_ 0 () _ (Nat.zero_le _) Same.rf
        · rintro ⟨⟩ m hS
          have key := c_X9_lowest (E := E) (μ := m) (part := part) (abs_nI (a := cntB (oddsB (μ 68) code mk p v) 12) (by omega)) (by omega) (b := 12) (by decide) (by decide) (fun e => absurd (nI_pos' (show cntB (oddsB (μ 68) code mk p v) 12 < 2 ^ 31 by omega)) (by rw [e]; decide))
          rw [nI_l (by omega)] at key
          refine cw_iload (pc := 37) dX9_odds_37 rfl <|
            cw_bipush (v := 12) (pc := 39) dX9_odds_39 (by decide) <|
            cw_icmp_ge_T (tgt := 80) (pc := 41) dX9_odds_41 (by decide) (by decide) <|
            cw_lload (pc := 80) dX9_odds_80 rfl <|
            cw_ldc2 (pc := 82) dX9_odds_82 kX9_212 <|
            cw_iload_n (pc := 85) dX9_odds_85 rfl rfl <|
            cw_insL (pc := 86) dX9_odds_86 key vX9_214 rfl rfl rfl (by decide) <|
            cw_lret (pc := 89) dX9_odds_89 hR <|
            ⟨by rw [oddsA, if_pos ⟨hx, hv, hq'⟩, nN_nI (by omega)], MS_MQ hS⟩
        · rintro i ⟨⟩ m hi hS ih
          have e68 := hS.r68
          have hsu := cntB_s (oddsB (μ 68) code mk p v) i
          by_cases hc : nI mk ≤ laidP (μ 68) code p i v
          · rw [show (oddsB (μ 68) code mk p v) i = true from decide_eq_true hc] at hsu
            rw [show Bool.toNat true = 1 from rfl] at hsu
            refine cw_iload (pc := 37) dX9_odds_37 rfl <|
              cw_bipush (v := 12) (pc := 39) dX9_odds_39 (by decide) <|
              cw_icmp_ge_F (tgt := 80) (pc := 41) dX9_odds_41 (by decide) (nI_ge (b := 12) hi (by decide)) <|
              cw_lload (pc := 44) dX9_odds_44 rfl <|
              cw_aload_n (pc := 46) dX9_odds_46 rfl rfl <|
              cw_iload_n (pc := 47) dX9_odds_47 rfl rfl <|
              cw_iload (pc := 48) dX9_odds_48 rfl <|
              cw_iload_n (pc := 50) dX9_odds_50 rfl rfl <|
              cw_invP (q := 67) (pc := 51) dX9_odds_51 (c_X9_scoreLaying e68 hIP hIL hp hi) rfl vX9_196 sh_67 (by decide) rfl rfl rfl (by decide) <|
              ?_
            rintro _ m2 ⟨rfl, s2⟩
            have hP2 : InvP (m2 68) code mk := by rw [s2.r68, e68]; exact hIP
            refine cw_aload_n (pc := 54) dX9_odds_54 rfl rfl <|
              cw_sipush (v := 238) (pc := 55) dX9_odds_55 (by decide) <|
              cw_bipush (v := 30) (pc := 58) dX9_odds_58 (by decide) <|
              cw_invI (q := 67) (pc := 60) dX9_odds_60 (c_X9_tellsOf_pass hP2) rfl vX9_124 sh_67 (by decide) rfl rfl rfl (by decide) <|
              cw_icmp_lt_F (tgt := 70) (pc := 63) dX9_odds_63 (by decide) (Int32.not_lt.mpr hc) <|
              cw_lconst (v := 1) (pc := 66) dX9_odds_66 (by decide) <|
              cw_goto (tgt := 71) (pc := 67) dX9_odds_67 (by decide) <|
              cw_ladd (pc := 71) dX9_odds_71 <|
              ?_
            rw [lN_1]
            refine cw_lstore (L' := [_, _, _, _, _, _, _]) (pc := 72) dX9_odds_72 (by decide) rfl rfl <|
              cw_iincL (L' := [_, _, _, _, _, _, _]) (c := 1) (pc := 74) dX9_odds_74 rfl (by decide) (by decide) rfl rfl <|
              ?_
            rw [nI_1 i]
            refine cw_goto (tgt := 37) (pc := 77) dX9_odds_77 (by decide) <|
              ?_
            have := ih () m2 (hS.tr s2)
            rw [hsu] at this
            exact this
          · rw [show (oddsB (μ 68) code mk p v) i = false from decide_eq_false hc] at hsu
            rw [show Bool.toNat false = 0 from rfl, Nat.add_zero] at hsu
            refine cw_iload (pc := 37) dX9_odds_37 rfl <|
              cw_bipush (v := 12) (pc := 39) dX9_odds_39 (by decide) <|
              cw_icmp_ge_F (tgt := 80) (pc := 41) dX9_odds_41 (by decide) (nI_ge (b := 12) hi (by decide)) <|
              cw_lload (pc := 44) dX9_odds_44 rfl <|
              cw_aload_n (pc := 46) dX9_odds_46 rfl rfl <|
              cw_iload_n (pc := 47) dX9_odds_47 rfl rfl <|
              cw_iload (pc := 48) dX9_odds_48 rfl <|
              cw_iload_n (pc := 50) dX9_odds_50 rfl rfl <|
              cw_invP (q := 67) (pc := 51) dX9_odds_51 (c_X9_scoreLaying e68 hIP hIL hp hi) rfl vX9_196 sh_67 (by decide) rfl rfl rfl (by decide) <|
              ?_
            rintro _ m2 ⟨rfl, s2⟩
            have hP2 : InvP (m2 68) code mk := by rw [s2.r68, e68]; exact hIP
            refine cw_aload_n (pc := 54) dX9_odds_54 rfl rfl <|
              cw_sipush (v := 238) (pc := 55) dX9_odds_55 (by decide) <|
              cw_bipush (v := 30) (pc := 58) dX9_odds_58 (by decide) <|
              cw_invI (q := 67) (pc := 60) dX9_odds_60 (c_X9_tellsOf_pass hP2) rfl vX9_124 sh_67 (by decide) rfl rfl rfl (by decide) <|
              cw_icmp_lt_T (tgt := 70) (pc := 63) dX9_odds_63 (by decide) (Int32.not_le.mp hc) <|
              cw_lconst (v := 0) (pc := 70) dX9_odds_70 (by decide) <|
              cw_ladd (pc := 71) dX9_odds_71 <|
              ?_
            rw [Int64.add_zero]
            refine cw_lstore (L' := [_, _, _, _, _, _, _]) (pc := 72) dX9_odds_72 (by decide) rfl rfl <|
              cw_iincL (L' := [_, _, _, _, _, _, _]) (c := 1) (pc := 74) dX9_odds_74 rfl (by decide) (by decide) rfl rfl <|
              ?_
            rw [nI_1 i]
            refine cw_goto (tgt := 37) (pc := 77) dX9_odds_77 (by decide) <|
              ?_
            have := ih () m2 (hS.tr s2)
            rw [hsu] at this
            exact this
      · refine cw_aload_n (pc := 0) dX9_odds_0 rfl rfl <|
          cw_iload_n (pc := 1) dX9_odds_1 rfl rfl <|
          cw_invI (q := 67) (pc := 2) dX9_odds_2 (c_X9_isMan hn h6) rfl vX9_162 sh_67 (by decide) rfl rfl rfl (by decide) <|
          cw_if_eq_F (tgt := 27) (pc := 5) dX9_odds_5 (by decide) (bI_n0.mpr hx) <|
          cw_iload_n (pc := 8) dX9_odds_8 rfl rfl <|
          cw_iconst (v := 1) (pc := 9) dX9_odds_9 (by decide) <|
          cw_bipush (v := 9) (pc := 10) dX9_odds_10 (by decide) <|
          cw_insI (pc := 12) dX9_odds_12 c_X9_in vX9_44 rfl rfl rfl (by decide) <|
          cw_if_eq_F (tgt := 27) (pc := 15) dX9_odds_15 (by decide) (bI_n0.mpr hv) <|
          cw_iload_n (pc := 18) dX9_odds_18 rfl rfl <|
          cw_iconst (v := 0) (pc := 19) dX9_odds_19 (by decide) <|
          cw_iconst (v := 1) (pc := 20) dX9_odds_20 (by decide) <|
          cw_insI (pc := 21) dX9_odds_21 c_X9_in vX9_44 rfl rfl rfl (by decide) <|
          cw_if_ne_F (tgt := 31) (pc := 24) dX9_odds_24 (by decide) (bI_0.mpr hq) <|
          cw_ldc2 (pc := 27) dX9_odds_27 kX9_210 <|
          cw_lret (pc := 30) dX9_odds_30 hR <|
          ⟨by rw [oddsA, if_neg (fun h => hq (i_le01.mpr h.2.2))]; rfl, Same.rf⟩
    · refine cw_aload_n (pc := 0) dX9_odds_0 rfl rfl <|
        cw_iload_n (pc := 1) dX9_odds_1 rfl rfl <|
        cw_invI (q := 67) (pc := 2) dX9_odds_2 (c_X9_isMan hn h6) rfl vX9_162 sh_67 (by decide) rfl rfl rfl (by decide) <|
        cw_if_eq_F (tgt := 27) (pc := 5) dX9_odds_5 (by decide) (bI_n0.mpr hx) <|
        cw_iload_n (pc := 8) dX9_odds_8 rfl rfl <|
        cw_iconst (v := 1) (pc := 9) dX9_odds_9 (by decide) <|
        cw_bipush (v := 9) (pc := 10) dX9_odds_10 (by decide) <|
        cw_insI (pc := 12) dX9_odds_12 c_X9_in vX9_44 rfl rfl rfl (by decide) <|
        cw_if_eq_T (tgt := 27) (pc := 15) dX9_odds_15 (by decide) (bI_0.mpr hv) <|
        cw_ldc2 (pc := 27) dX9_odds_27 kX9_210 <|
        cw_lret (pc := 30) dX9_odds_30 hR <|
        ⟨by rw [oddsA, if_neg (fun h => hv h.2.1)]; rfl, Same.rf⟩
  · refine cw_aload_n (pc := 0) dX9_odds_0 rfl rfl <|
      cw_iload_n (pc := 1) dX9_odds_1 rfl rfl <|
      cw_invI (q := 67) (pc := 2) dX9_odds_2 (c_X9_isMan hn h6) rfl vX9_162 sh_67 (by decide) rfl rfl rfl (by decide) <|
      cw_if_eq_T (tgt := 27) (pc := 5) dX9_odds_5 (by decide) (bI_0.mpr hx) <|
      cw_ldc2 (pc := 27) dX9_odds_27 kX9_210 <|
      cw_lret (pc := 30) dX9_odds_30 hR <|
      ⟨by rw [oddsA, if_neg (fun h => hx h.1)]; rfl, Same.rf⟩
theorem meanS_s (s : Row) (code : PCo) (p : Nat) : meanS s code (p + 1) = if naS s p then meanS s code p + scP s code p else meanS s code p := rfl
theorem scP_rng {s : Row} {code : PCo} {n Y M p : Nat} (hi : InvL s n Y M) (hp : p < n) : -1000 ≤ (scP s code p).toInt ∧ (scP s code p).toInt ≤ 1000 := by
  obtain ⟨pg, hpg, epg⟩ := (hi.2.2.2.2.2.2 p hp).1
  have epS : pgS s p = pg := by unfold pgS; rw [epg]; exact nI_clamp (by omega)
  obtain ⟨c, hc, ec⟩ := scS_rng (s := s) (code := code) (yr := s 0) (p := p) (l := pgS s p) (by omega)
  have es : (scP s code p).toInt = 40 - (c : Int) := by unfold scP; rw [ec, sc_toInt hc]
  omega
set_option maxHeartbeats 4000000 in
set_option maxRecDepth 100000 in
theorem c_X9_mean {E : Ev} {μ : Mem} {s : Row} (hs : μ 68 = s) {n mk : Nat} {code : PCo} (hI : Inv s n code mk) {part : Int32} : AM E yX9_mean cX9_mean 8 (some .long) 5 [.ref 67, .int part] μ (fun r μ' => r = some (.long (meanA s code n part)) ∧ Same MQr μ μ') := by
  refine am_of (own := RX9) (L := [.ref 67, .int part, .null, .null, .null, .null, .null, .null]) (by decide) rfl (Nat.le_of_ble_eq_true rfl) rfl (fun Γ hR => ?_)
  subst hs
  have hI0 := hI
  obtain ⟨hIL, hIP, hIC, hIS, hIW, hIB, hIT⟩ := hI
  have hn := hIL.1
  have h6 := hIL.2.1
  refine cw_lconst (v := 0) (pc := 0) dX9_mean_0 (by decide) <|
    cw_lstore_n (L' := [_, _, _, _, _, _, _, _]) (pc := 1) dX9_mean_1 rfl (by decide) rfl rfl <|
    cw_lconst (v := 0) (pc := 2) dX9_mean_2 (by decide) <|
    cw_lstore (L' := [_, _, _, _, _, _, _, _]) (pc := 3) dX9_mean_3 (by decide) rfl rfl <|
    cw_iconst (v := 0) (pc := 5) dX9_mean_5 (by decide) <|
    cw_istore (L' := [_, _, _, _, _, _, _, _]) (pc := 6) dX9_mean_6 (by decide) rfl rfl <|
    ?_
  refine cw_for (σ := Value) n (fun i _ m => Same MS μ m) (fun i z => [.ref 67, .int part, .long (meanS (μ 68) code i).toInt64, .null, .long (lN (cntB (naS (μ 68)) i)), .null, .int (nI i), z]) ?_ ?_ 0 .null _ (Nat.zero_le _) Same.rf
  · rintro z m hS
    have e68 := hS.r68
    have hcl := cntB_le (naS (μ 68)) n
    have hrg := meanS_rng (code := code) hIL n (Nat.le_refl _)
    by_cases hq : 0 ≤ part ∧ part ≤ 1
    · have hq' := i_le01.mp hq
      by_cases h0 : manyS (μ 68) n = 0
      · refine cw_iload (pc := 8) dX9_mean_8 rfl <|
          cw_aload_n (pc := 10) dX9_mean_10 rfl rfl <|
          cw_getR (q := 67) (t := 68) (pc := 11) dX9_mean_11 fX9_9 sh_67 (by decide) rfl <|
          cw_bipush (v := 31) (pc := 14) dX9_mean_14 (by decide) <|
          cw_ial (q := 68) (jn := 31) (pc := 16) dX9_mean_16 sh_68 rfl (by decide) (by decide) <|
          ?_
        rw [e68, hn]
        refine cw_icmp_ge_T (tgt := 80) (pc := 17) dX9_mean_17 (by decide) (Int32.le_refl _) <|
          cw_iload_n (pc := 80) dX9_mean_80 rfl rfl <|
          cw_iconst (v := 0) (pc := 81) dX9_mean_81 (by decide) <|
          cw_iconst (v := 1) (pc := 82) dX9_mean_82 (by decide) <|
          cw_insI (pc := 83) dX9_mean_83 c_X9_in vX9_44 rfl rfl rfl (by decide) <|
          cw_if_eq_F (tgt := 96) (pc := 86) dX9_mean_86 (by decide) (bI_n0.mpr hq) <|
          cw_lload (pc := 89) dX9_mean_89 rfl <|
          cw_lconst (v := 0) (pc := 91) dX9_mean_91 (by decide) <|
          cw_lcmp (pc := 92) dX9_mean_92 <|
          cw_if_ne_F (tgt := 102) (pc := 93) dX9_mean_93 (by decide) ((lg_cmp_eq _ _).mpr (by rw [show cntB (naS (μ 68)) n = 0 from h0]; rfl)) <|
          cw_ldc2 (pc := 96) dX9_mean_96 kX9_210 <|
          cw_goto (tgt := 109) (pc := 99) dX9_mean_99 (by decide) <|
          cw_lret (pc := 109) dX9_mean_109 hR <|
          ⟨by rw [meanA, if_pos hq', if_pos h0]; rfl, MS_MQ hS⟩
      · have hne : ¬ lN (cntB (naS (μ 68)) n) = 0 := fun e => h0 ((pk_lEQ (a := cntB (naS (μ 68)) n) (by omega) (by decide)).mp (show lN (cntB (naS (μ 68)) n) = lN 0 from e))
        have habs := abs_of (x := meanS (μ 68) code n) (by omega)
        have hmin : meanS (μ 68) code n ≠ -2147483648 := fun e => by rw [e, show (-2147483648 : Int32).toInt = -2147483648 from by decide] at hrg; omega
        have hm0 : 0 < cntB (naS (μ 68)) n := by unfold manyS at h0; omega
        have key := c_X9_lowest (E := E) (μ := m) (part := part) habs (by unfold absN; omega) hm0 (by omega) hmin
        refine cw_iload (pc := 8) dX9_mean_8 rfl <|
          cw_aload_n (pc := 10) dX9_mean_10 rfl rfl <|
          cw_getR (q := 67) (t := 68) (pc := 11) dX9_mean_11 fX9_9 sh_67 (by decide) rfl <|
          cw_bipush (v := 31) (pc := 14) dX9_mean_14 (by decide) <|
          cw_ial (q := 68) (jn := 31) (pc := 16) dX9_mean_16 sh_68 rfl (by decide) (by decide) <|
          ?_
        rw [e68, hn]
        refine cw_icmp_ge_T (tgt := 80) (pc := 17) dX9_mean_17 (by decide) (Int32.le_refl _) <|
          cw_iload_n (pc := 80) dX9_mean_80 rfl rfl <|
          cw_iconst (v := 0) (pc := 81) dX9_mean_81 (by decide) <|
          cw_iconst (v := 1) (pc := 82) dX9_mean_82 (by decide) <|
          cw_insI (pc := 83) dX9_mean_83 c_X9_in vX9_44 rfl rfl rfl (by decide) <|
          cw_if_eq_F (tgt := 96) (pc := 86) dX9_mean_86 (by decide) (bI_n0.mpr hq) <|
          cw_lload (pc := 89) dX9_mean_89 rfl <|
          cw_lconst (v := 0) (pc := 91) dX9_mean_91 (by decide) <|
          cw_lcmp (pc := 92) dX9_mean_92 <|
          cw_if_ne_T (tgt := 102) (pc := 93) dX9_mean_93 (by decide) (fun e => hne ((lg_cmp_eq _ _).mp e)) <|
          cw_lload_n (pc := 102) dX9_mean_102 rfl rfl <|
          cw_lload (pc := 103) dX9_mean_103 rfl <|
          cw_iload_n (pc := 105) dX9_mean_105 rfl rfl <|
          cw_insL (pc := 106) dX9_mean_106 key vX9_214 rfl rfl rfl (by decide) <|
          cw_lret (pc := 109) dX9_mean_109 hR <|
          ⟨by rw [meanA, if_pos hq', if_neg h0]; rfl, MS_MQ hS⟩
    · refine cw_iload (pc := 8) dX9_mean_8 rfl <|
        cw_aload_n (pc := 10) dX9_mean_10 rfl rfl <|
        cw_getR (q := 67) (t := 68) (pc := 11) dX9_mean_11 fX9_9 sh_67 (by decide) rfl <|
        cw_bipush (v := 31) (pc := 14) dX9_mean_14 (by decide) <|
        cw_ial (q := 68) (jn := 31) (pc := 16) dX9_mean_16 sh_68 rfl (by decide) (by decide) <|
        ?_
      rw [e68, hn]
      refine cw_icmp_ge_T (tgt := 80) (pc := 17) dX9_mean_17 (by decide) (Int32.le_refl _) <|
        cw_iload_n (pc := 80) dX9_mean_80 rfl rfl <|
        cw_iconst (v := 0) (pc := 81) dX9_mean_81 (by decide) <|
        cw_iconst (v := 1) (pc := 82) dX9_mean_82 (by decide) <|
        cw_insI (pc := 83) dX9_mean_83 c_X9_in vX9_44 rfl rfl rfl (by decide) <|
        cw_if_eq_T (tgt := 96) (pc := 86) dX9_mean_86 (by decide) (bI_0.mpr hq) <|
        cw_ldc2 (pc := 96) dX9_mean_96 kX9_210 <|
        cw_goto (tgt := 109) (pc := 99) dX9_mean_99 (by decide) <|
        cw_lret (pc := 109) dX9_mean_109 hR <|
        ⟨by rw [meanA, if_neg (fun h => hq (i_le01.mpr h))]; rfl, MS_MQ hS⟩
  · rintro i z m hin hS ih
    have e68 := hS.r68
    have hsu := cntB_s (naS (μ 68)) i
    have hmu := meanS_s (μ 68) code i
    have hrg := meanS_rng (code := code) hIL i (by omega)
    have hsr := scP_rng (code := code) hIL hin
    by_cases hna : μ 68 (7 + i) = 0
    · have hb : naS (μ 68) i = true := by simp [naS, hna]
      rw [hb] at hsu hmu
      rw [show Bool.toNat true = 1 from rfl] at hsu
      rw [if_pos rfl] at hmu
      refine cw_iload (pc := 8) dX9_mean_8 rfl <|
        cw_aload_n (pc := 10) dX9_mean_10 rfl rfl <|
        cw_getR (q := 67) (t := 68) (pc := 11) dX9_mean_11 fX9_9 sh_67 (by decide) rfl <|
        cw_bipush (v := 31) (pc := 14) dX9_mean_14 (by decide) <|
        cw_ial (q := 68) (jn := 31) (pc := 16) dX9_mean_16 sh_68 rfl (by decide) (by decide) <|
        ?_
      rw [e68, hn]
      refine cw_icmp_ge_F (tgt := 80) (pc := 17) dX9_mean_17 (by decide) (nI_ge hin (by omega)) <|
        cw_aload_n (pc := 20) dX9_mean_20 rfl rfl <|
        cw_getR (q := 67) (t := 68) (pc := 21) dX9_mean_21 fX9_9 sh_67 (by decide) rfl <|
        cw_bipush (v := 7) (pc := 24) dX9_mean_24 (by decide) <|
        cw_iload (pc := 26) dX9_mean_26 rfl <|
        cw_iadd (pc := 28) dX9_mean_28 <|
        cw_ial (q := 68) (jn := (7 + i)) (pc := 29) dX9_mean_29 sh_68 (nx_add rfl rfl) (by omega) (by decide) <|
        ?_
      rw [e68]
      refine cw_if_ne_F (tgt := 37) (pc := 30) dX9_mean_30 (by decide) hna <|
        cw_iconst (v := 1) (pc := 33) dX9_mean_33 (by decide) <|
        cw_goto (tgt := 38) (pc := 34) dX9_mean_34 (by decide) <|
        cw_istore (L' := [_, _, _, _, _, _, _, _]) (pc := 38) dX9_mean_38 (by decide) rfl rfl <|
        cw_lload_n (pc := 40) dX9_mean_40 rfl rfl <|
        cw_iload (pc := 41) dX9_mean_41 rfl <|
        cw_if_eq_F (tgt := 56) (pc := 43) dX9_mean_43 (by decide) (by decide) <|
        cw_aload_n (pc := 46) dX9_mean_46 rfl rfl <|
        cw_iload (pc := 47) dX9_mean_47 rfl <|
        cw_invP (q := 67) (pc := 49) dX9_mean_49 (c_X9_scoreOf e68 hIP hIL hin) rfl vX9_154 sh_67 (by decide) rfl rfl rfl (by decide) <|
        ?_
      rintro _ m2 ⟨rfl, s2⟩
      refine cw_i2l (pc := 52) dX9_mean_52 <|
        cw_goto (tgt := 57) (pc := 53) dX9_mean_53 (by decide) <|
        cw_ladd (pc := 57) dX9_mean_57 <|
        ?_
      rw [l_add (by omega) hsr]
      refine cw_lstore_n (L' := [_, _, _, _, _, _, _, _]) (pc := 58) dX9_mean_58 rfl (by decide) rfl rfl <|
        cw_lload (pc := 59) dX9_mean_59 rfl <|
        cw_iload (pc := 61) dX9_mean_61 rfl <|
        cw_if_eq_F (tgt := 70) (pc := 63) dX9_mean_63 (by decide) (by decide) <|
        cw_lconst (v := 1) (pc := 66) dX9_mean_66 (by decide) <|
        cw_goto (tgt := 71) (pc := 67) dX9_mean_67 (by decide) <|
        cw_ladd (pc := 71) dX9_mean_71 <|
        ?_
      rw [lN_1]
      refine cw_lstore (L' := [_, _, _, _, _, _, _, _]) (pc := 72) dX9_mean_72 (by decide) rfl rfl <|
        cw_iincL (L' := [_, _, _, _, _, _, _, _]) (c := 1) (pc := 74) dX9_mean_74 rfl (by decide) (by decide) rfl rfl <|
        ?_
      rw [nI_1 i]
      refine cw_goto (tgt := 8) (pc := 77) dX9_mean_77 (by decide) <|
        ?_
      have := ih (.int 1) m2 (hS.tr s2)
      rw [hsu, hmu] at this
      exact this
    · have hb : naS (μ 68) i = false := by simp [naS, hna]
      rw [hb] at hsu hmu
      rw [show Bool.toNat false = 0 from rfl, Nat.add_zero] at hsu
      rw [if_neg (by decide)] at hmu
      refine cw_iload (pc := 8) dX9_mean_8 rfl <|
        cw_aload_n (pc := 10) dX9_mean_10 rfl rfl <|
        cw_getR (q := 67) (t := 68) (pc := 11) dX9_mean_11 fX9_9 sh_67 (by decide) rfl <|
        cw_bipush (v := 31) (pc := 14) dX9_mean_14 (by decide) <|
        cw_ial (q := 68) (jn := 31) (pc := 16) dX9_mean_16 sh_68 rfl (by decide) (by decide) <|
        ?_
      rw [e68, hn]
      refine cw_icmp_ge_F (tgt := 80) (pc := 17) dX9_mean_17 (by decide) (nI_ge hin (by omega)) <|
        cw_aload_n (pc := 20) dX9_mean_20 rfl rfl <|
        cw_getR (q := 67) (t := 68) (pc := 21) dX9_mean_21 fX9_9 sh_67 (by decide) rfl <|
        cw_bipush (v := 7) (pc := 24) dX9_mean_24 (by decide) <|
        cw_iload (pc := 26) dX9_mean_26 rfl <|
        cw_iadd (pc := 28) dX9_mean_28 <|
        cw_ial (q := 68) (jn := (7 + i)) (pc := 29) dX9_mean_29 sh_68 (nx_add rfl rfl) (by omega) (by decide) <|
        ?_
      rw [e68]
      refine cw_if_ne_T (tgt := 37) (pc := 30) dX9_mean_30 (by decide) hna <|
        cw_iconst (v := 0) (pc := 37) dX9_mean_37 (by decide) <|
        cw_istore (L' := [_, _, _, _, _, _, _, _]) (pc := 38) dX9_mean_38 (by decide) rfl rfl <|
        cw_lload_n (pc := 40) dX9_mean_40 rfl rfl <|
        cw_iload (pc := 41) dX9_mean_41 rfl <|
        cw_if_eq_T (tgt := 56) (pc := 43) dX9_mean_43 (by decide) rfl <|
        cw_lconst (v := 0) (pc := 56) dX9_mean_56 (by decide) <|
        cw_ladd (pc := 57) dX9_mean_57 <|
        ?_
      rw [Int64.add_zero]
      refine cw_lstore_n (L' := [_, _, _, _, _, _, _, _]) (pc := 58) dX9_mean_58 rfl (by decide) rfl rfl <|
        cw_lload (pc := 59) dX9_mean_59 rfl <|
        cw_iload (pc := 61) dX9_mean_61 rfl <|
        cw_if_eq_T (tgt := 70) (pc := 63) dX9_mean_63 (by decide) rfl <|
        cw_lconst (v := 0) (pc := 70) dX9_mean_70 (by decide) <|
        cw_ladd (pc := 71) dX9_mean_71 <|
        ?_
      rw [Int64.add_zero]
      refine cw_lstore (L' := [_, _, _, _, _, _, _, _]) (pc := 72) dX9_mean_72 (by decide) rfl rfl <|
        cw_iincL (L' := [_, _, _, _, _, _, _, _]) (c := 1) (pc := 74) dX9_mean_74 rfl (by decide) (by decide) rfl rfl <|
        ?_
      rw [nI_1 i]
      refine cw_goto (tgt := 8) (pc := 77) dX9_mean_77 (by decide) <|
        ?_
      have := ih (.int 0) m hS
      rw [hsu, hmu] at this
      exact this
set_option maxHeartbeats 4000000 in
set_option maxRecDepth 100000 in
theorem c_X9_book {E : Ev} {μ : Mem} {s : Row} (hs : μ 68 = s) {n mk : Nat} {code : PCo} (hI : Inv s n code mk) {x l : Int32} : AM E yX9_book cX9_book 3 (some .int) 2 [.ref 67, .int x, .int l] μ (fun r μ' => r = some (.int (bookA s x l)) ∧ μ' 68 = bookR s x l ∧ Same MM μ μ') := by
  refine am_of (own := RX9) (L := [.ref 67, .int x, .int l]) (by decide) rfl (Nat.le_of_ble_eq_true rfl) rfl (fun Γ hR => ?_)
  subst hs
  have hI0 := hI
  obtain ⟨hIL, hIP, hIC, hIS, hIW, hIB, hIT⟩ := hI
  have hn := hIL.1
  have h6 := hIL.2.1
  obtain ⟨k, hk, e36, -⟩ := hIB
  have hfl := full_iff (m := 8) e36 hk (by decide)
  have hnk : nN (μ 68 36) = k := by rw [e36]; exact nN_nI (by omega)
  by_cases h0 : x = -1
  · refine cw_iload_n (pc := 0) dX9_book_0 rfl rfl <|
      cw_iconst (v := -1) (pc := 1) dX9_book_1 (by decide) <|
      cw_icmp_ne_F (tgt := 15) (pc := 2) dX9_book_2 (by decide) h0 <|
      cw_aload_n (pc := 5) dX9_book_5 rfl rfl <|
      cw_getR (q := 67) (t := 68) (pc := 6) dX9_book_6 fX9_9 sh_67 (by decide) rfl <|
      cw_bipush (v := 36) (pc := 9) dX9_book_9 (by decide) <|
      cw_iconst (v := 0) (pc := 11) dX9_book_11 (by decide) <|
      cw_ias (q := 68) (jn := 36) (pc := 12) dX9_book_12 sh_68 rfl (by decide) (by decide) <|
      cw_iconst (v := 0) (pc := 13) dX9_book_13 (by decide) <|
      cw_iret (pc := 14) dX9_book_14 hR <|
      ⟨by rw [bookA, if_pos h0], by rw [bookR, if_pos h0]; exact st_row _ _ _ _, by first | exact Same.rf | (repeat (refine Same.s1 ?_ (by unfold MM; omega))); exact Same.rf⟩
  · by_cases hx : 0 ≤ x ∧ x < μ 68 31
    · by_cases hl : 0 ≤ l ∧ l < 9
      · by_cases hf : μ 68 36 = 8
        · refine cw_iload_n (pc := 0) dX9_book_0 rfl rfl <|
            cw_iconst (v := -1) (pc := 1) dX9_book_1 (by decide) <|
            cw_icmp_ne_T (tgt := 15) (pc := 2) dX9_book_2 (by decide) h0 <|
            cw_aload_n (pc := 15) dX9_book_15 rfl rfl <|
            cw_iload_n (pc := 16) dX9_book_16 rfl rfl <|
            cw_invI (q := 67) (pc := 17) dX9_book_17 (c_X9_isMan hn h6) rfl vX9_162 sh_67 (by decide) rfl rfl rfl (by decide) <|
            cw_if_eq_F (tgt := 30) (pc := 20) dX9_book_20 (by decide) (bI_n0.mpr hx) <|
            cw_iload_n (pc := 23) dX9_book_23 rfl rfl <|
            cw_insI (pc := 24) dX9_book_24 c_X9_isLane vX9_158 rfl rfl rfl (by decide) <|
            cw_if_ne_T (tgt := 32) (pc := 27) dX9_book_27 (by decide) (bI_n0.mpr hl) <|
            cw_aload_n (pc := 32) dX9_book_32 rfl rfl <|
            cw_getR (q := 67) (t := 68) (pc := 33) dX9_book_33 fX9_9 sh_67 (by decide) rfl <|
            cw_bipush (v := 36) (pc := 36) dX9_book_36 (by decide) <|
            cw_ial (q := 68) (jn := 36) (pc := 38) dX9_book_38 sh_68 rfl (by decide) (by decide) <|
            cw_bipush (v := 8) (pc := 39) dX9_book_39 (by decide) <|
            cw_icmp_ne_F (tgt := 47) (pc := 41) dX9_book_41 (by decide) hf <|
            cw_bipush (v := -4) (pc := 44) dX9_book_44 (by decide) <|
            cw_iret (pc := 46) dX9_book_46 hR <|
            ⟨by rw [bookA, if_neg h0, if_pos ⟨hx, hl⟩, if_pos hf], by rw [bookR, if_neg h0, if_neg (fun h => h.2 hf)], Same.rf⟩
        · have hk2 := hfl.mp hf
          have r1 : (st μ 68 (122 + k) x) 68 36 = nI k := (st_at.trans (if_neg (by omega))).trans e36
          have r2 : (st (st μ 68 (122 + k) x) 68 (130 + k) l) 68 36 = nI k := (st_at.trans (if_neg (by omega))).trans r1
          refine cw_iload_n (pc := 0) dX9_book_0 rfl rfl <|
            cw_iconst (v := -1) (pc := 1) dX9_book_1 (by decide) <|
            cw_icmp_ne_T (tgt := 15) (pc := 2) dX9_book_2 (by decide) h0 <|
            cw_aload_n (pc := 15) dX9_book_15 rfl rfl <|
            cw_iload_n (pc := 16) dX9_book_16 rfl rfl <|
            cw_invI (q := 67) (pc := 17) dX9_book_17 (c_X9_isMan hn h6) rfl vX9_162 sh_67 (by decide) rfl rfl rfl (by decide) <|
            cw_if_eq_F (tgt := 30) (pc := 20) dX9_book_20 (by decide) (bI_n0.mpr hx) <|
            cw_iload_n (pc := 23) dX9_book_23 rfl rfl <|
            cw_insI (pc := 24) dX9_book_24 c_X9_isLane vX9_158 rfl rfl rfl (by decide) <|
            cw_if_ne_T (tgt := 32) (pc := 27) dX9_book_27 (by decide) (bI_n0.mpr hl) <|
            cw_aload_n (pc := 32) dX9_book_32 rfl rfl <|
            cw_getR (q := 67) (t := 68) (pc := 33) dX9_book_33 fX9_9 sh_67 (by decide) rfl <|
            cw_bipush (v := 36) (pc := 36) dX9_book_36 (by decide) <|
            cw_ial (q := 68) (jn := 36) (pc := 38) dX9_book_38 sh_68 rfl (by decide) (by decide) <|
            cw_bipush (v := 8) (pc := 39) dX9_book_39 (by decide) <|
            cw_icmp_ne_T (tgt := 47) (pc := 41) dX9_book_41 (by decide) hf <|
            cw_aload_n (pc := 47) dX9_book_47 rfl rfl <|
            cw_getR (q := 67) (t := 68) (pc := 48) dX9_book_48 fX9_9 sh_67 (by decide) rfl <|
            cw_bipush (v := 122) (pc := 51) dX9_book_51 (by decide) <|
            cw_aload_n (pc := 53) dX9_book_53 rfl rfl <|
            cw_getR (q := 67) (t := 68) (pc := 54) dX9_book_54 fX9_9 sh_67 (by decide) rfl <|
            cw_bipush (v := 36) (pc := 57) dX9_book_57 (by decide) <|
            cw_ial (q := 68) (jn := 36) (pc := 59) dX9_book_59 sh_68 rfl (by decide) (by decide) <|
            ?_
          rw [e36]
          refine cw_iadd (pc := 60) dX9_book_60 <|
            cw_iload_n (pc := 61) dX9_book_61 rfl rfl <|
            cw_ias (q := 68) (jn := (122 + k)) (pc := 62) dX9_book_62 sh_68 (nx_add rfl rfl) (by omega) (by decide) <|
            cw_aload_n (pc := 63) dX9_book_63 rfl rfl <|
            cw_getR (q := 67) (t := 68) (pc := 64) dX9_book_64 fX9_9 sh_67 (by decide) rfl <|
            cw_sipush (v := 130) (pc := 67) dX9_book_67 (by decide) <|
            cw_aload_n (pc := 70) dX9_book_70 rfl rfl <|
            cw_getR (q := 67) (t := 68) (pc := 71) dX9_book_71 fX9_9 sh_67 (by decide) rfl <|
            cw_bipush (v := 36) (pc := 74) dX9_book_74 (by decide) <|
            cw_ial (q := 68) (jn := 36) (pc := 76) dX9_book_76 sh_68 rfl (by decide) (by decide) <|
            ?_
          rw [r1]
          refine cw_iadd (pc := 77) dX9_book_77 <|
            cw_iload_n (pc := 78) dX9_book_78 rfl rfl <|
            cw_ias (q := 68) (jn := (130 + k)) (pc := 79) dX9_book_79 sh_68 (nx_add rfl rfl) (by omega) (by decide) <|
            cw_aload_n (pc := 80) dX9_book_80 rfl rfl <|
            cw_getR (q := 67) (t := 68) (pc := 81) dX9_book_81 fX9_9 sh_67 (by decide) rfl <|
            cw_bipush (v := 36) (pc := 84) dX9_book_84 (by decide) <|
            cw_dup2 (pc := 86) dX9_book_86 rfl rfl <|
            cw_ial (q := 68) (jn := 36) (pc := 87) dX9_book_87 sh_68 rfl (by decide) (by decide) <|
            ?_
          rw [r2]
          refine cw_iconst (v := 1) (pc := 88) dX9_book_88 (by decide) <|
            cw_iadd (pc := 89) dX9_book_89 <|
            cw_ias (q := 68) (jn := 36) (pc := 90) dX9_book_90 sh_68 rfl (by decide) (by decide) <|
            cw_aload_n (pc := 91) dX9_book_91 rfl rfl <|
            cw_getR (q := 67) (t := 68) (pc := 92) dX9_book_92 fX9_9 sh_67 (by decide) rfl <|
            cw_bipush (v := 36) (pc := 95) dX9_book_95 (by decide) <|
            cw_ial (q := 68) (jn := 36) (pc := 97) dX9_book_97 sh_68 rfl (by decide) (by decide) <|
            ?_
          rw [st_eq]
          refine cw_iret (pc := 98) dX9_book_98 hR <|
            ⟨by rw [bookA, if_neg h0, if_pos ⟨hx, hl⟩, if_neg hf, e36], by rw [bookR, if_neg h0, if_pos ⟨⟨hx, hl⟩, hf⟩, hnk, st_row, st_row, st_row, e36], by first | exact Same.rf | (repeat (refine Same.s1 ?_ (by unfold MM; omega))); exact Same.rf⟩
      · refine cw_iload_n (pc := 0) dX9_book_0 rfl rfl <|
          cw_iconst (v := -1) (pc := 1) dX9_book_1 (by decide) <|
          cw_icmp_ne_T (tgt := 15) (pc := 2) dX9_book_2 (by decide) h0 <|
          cw_aload_n (pc := 15) dX9_book_15 rfl rfl <|
          cw_iload_n (pc := 16) dX9_book_16 rfl rfl <|
          cw_invI (q := 67) (pc := 17) dX9_book_17 (c_X9_isMan hn h6) rfl vX9_162 sh_67 (by decide) rfl rfl rfl (by decide) <|
          cw_if_eq_F (tgt := 30) (pc := 20) dX9_book_20 (by decide) (bI_n0.mpr hx) <|
          cw_iload_n (pc := 23) dX9_book_23 rfl rfl <|
          cw_insI (pc := 24) dX9_book_24 c_X9_isLane vX9_158 rfl rfl rfl (by decide) <|
          cw_if_ne_F (tgt := 32) (pc := 27) dX9_book_27 (by decide) (bI_0.mpr hl) <|
          cw_iconst (v := -1) (pc := 30) dX9_book_30 (by decide) <|
          cw_iret (pc := 31) dX9_book_31 hR <|
          ⟨by rw [bookA, if_neg h0, if_neg (fun h => hl h.2)], by rw [bookR, if_neg h0, if_neg (fun h => hl h.1.2)], Same.rf⟩
    · refine cw_iload_n (pc := 0) dX9_book_0 rfl rfl <|
        cw_iconst (v := -1) (pc := 1) dX9_book_1 (by decide) <|
        cw_icmp_ne_T (tgt := 15) (pc := 2) dX9_book_2 (by decide) h0 <|
        cw_aload_n (pc := 15) dX9_book_15 rfl rfl <|
        cw_iload_n (pc := 16) dX9_book_16 rfl rfl <|
        cw_invI (q := 67) (pc := 17) dX9_book_17 (c_X9_isMan hn h6) rfl vX9_162 sh_67 (by decide) rfl rfl rfl (by decide) <|
        cw_if_eq_T (tgt := 30) (pc := 20) dX9_book_20 (by decide) (bI_0.mpr hx) <|
        cw_iconst (v := -1) (pc := 30) dX9_book_30 (by decide) <|
        cw_iret (pc := 31) dX9_book_31 hR <|
        ⟨by rw [bookA, if_neg h0, if_neg (fun h => hx h.1)], by rw [bookR, if_neg h0, if_neg (fun h => hx h.1.1)], Same.rf⟩
set_option maxHeartbeats 4000000 in
set_option maxRecDepth 100000 in
theorem c_X9_plan {E : Ev} {μ : Mem} {s : Row} (hs : μ 68 = s) {n mk : Nat} {code : PCo} (hI : Inv s n code mk) {w x : Int32} : AM E yX9_plan cX9_plan 3 (some .int) 2 [.ref 67, .int w, .int x] μ (fun r μ' => r = some (.int (planA s w x)) ∧ μ' 68 = planR s w x ∧ Same MM μ μ') := by
  refine am_of (own := RX9) (L := [.ref 67, .int w, .int x]) (by decide) rfl (Nat.le_of_ble_eq_true rfl) rfl (fun Γ hR => ?_)
  subst hs
  have hI0 := hI
  obtain ⟨hIL, hIP, hIC, hIS, hIW, hIB, hIT⟩ := hI
  have hn := hIL.1
  have h6 := hIL.2.1
  obtain ⟨k, hk, e35, -⟩ := hIW
  have hfl := full_iff (m := 8) e35 hk (by decide)
  have hnk : nN (μ 68 35) = k := by rw [e35]; exact nN_nI (by omega)
  by_cases h0 : w = -1
  · refine cw_iload_n (pc := 0) dX9_plan_0 rfl rfl <|
      cw_iconst (v := -1) (pc := 1) dX9_plan_1 (by decide) <|
      cw_icmp_ne_F (tgt := 15) (pc := 2) dX9_plan_2 (by decide) h0 <|
      cw_aload_n (pc := 5) dX9_plan_5 rfl rfl <|
      cw_getR (q := 67) (t := 68) (pc := 6) dX9_plan_6 fX9_9 sh_67 (by decide) rfl <|
      cw_bipush (v := 35) (pc := 9) dX9_plan_9 (by decide) <|
      cw_iconst (v := 0) (pc := 11) dX9_plan_11 (by decide) <|
      cw_ias (q := 68) (jn := 35) (pc := 12) dX9_plan_12 sh_68 rfl (by decide) (by decide) <|
      cw_iconst (v := 0) (pc := 13) dX9_plan_13 (by decide) <|
      cw_iret (pc := 14) dX9_plan_14 hR <|
      ⟨by rw [planA, if_pos h0], by rw [planR, if_pos h0]; exact st_row _ _ _ _, by first | exact Same.rf | (repeat (refine Same.s1 ?_ (by unfold MM; omega))); exact Same.rf⟩
  · have good : (w = 0 ∨ ((w = 1 ∨ w = 2) ∧ (0 ≤ x ∧ x < μ 68 31)) ∨ (w = 3 ∧ (0 ≤ x ∧ x < 12))) → CW E Γ cX9_plan 3 RX9 2 55 [.ref 67, .int w, .int x] [] μ := by
      intro ho
      by_cases hf : μ 68 35 = 8
      · refine cw_aload_n (pc := 55) dX9_plan_55 rfl rfl <|
          cw_getR (q := 67) (t := 68) (pc := 56) dX9_plan_56 fX9_9 sh_67 (by decide) rfl <|
          cw_bipush (v := 35) (pc := 59) dX9_plan_59 (by decide) <|
          cw_ial (q := 68) (jn := 35) (pc := 61) dX9_plan_61 sh_68 rfl (by decide) (by decide) <|
          cw_bipush (v := 8) (pc := 62) dX9_plan_62 (by decide) <|
          cw_icmp_ne_F (tgt := 70) (pc := 64) dX9_plan_64 (by decide) hf <|
          cw_bipush (v := -4) (pc := 67) dX9_plan_67 (by decide) <|
          cw_iret (pc := 69) dX9_plan_69 hR <|
          ⟨by rw [planA, if_neg h0, if_pos ho, if_pos hf], by rw [planR, if_neg h0, if_neg (fun h => h.2 hf)], Same.rf⟩
      · have hk2 := hfl.mp hf
        have r1 : (st μ 68 (106 + k) w) 68 35 = nI k := (st_at.trans (if_neg (by omega))).trans e35
        have r2 : (st (st μ 68 (106 + k) w) 68 (114 + k) x) 68 35 = nI k := (st_at.trans (if_neg (by omega))).trans r1
        refine cw_aload_n (pc := 55) dX9_plan_55 rfl rfl <|
          cw_getR (q := 67) (t := 68) (pc := 56) dX9_plan_56 fX9_9 sh_67 (by decide) rfl <|
          cw_bipush (v := 35) (pc := 59) dX9_plan_59 (by decide) <|
          cw_ial (q := 68) (jn := 35) (pc := 61) dX9_plan_61 sh_68 rfl (by decide) (by decide) <|
          cw_bipush (v := 8) (pc := 62) dX9_plan_62 (by decide) <|
          cw_icmp_ne_T (tgt := 70) (pc := 64) dX9_plan_64 (by decide) hf <|
          cw_aload_n (pc := 70) dX9_plan_70 rfl rfl <|
          cw_getR (q := 67) (t := 68) (pc := 71) dX9_plan_71 fX9_9 sh_67 (by decide) rfl <|
          cw_bipush (v := 106) (pc := 74) dX9_plan_74 (by decide) <|
          cw_aload_n (pc := 76) dX9_plan_76 rfl rfl <|
          cw_getR (q := 67) (t := 68) (pc := 77) dX9_plan_77 fX9_9 sh_67 (by decide) rfl <|
          cw_bipush (v := 35) (pc := 80) dX9_plan_80 (by decide) <|
          cw_ial (q := 68) (jn := 35) (pc := 82) dX9_plan_82 sh_68 rfl (by decide) (by decide) <|
          ?_
        rw [e35]
        refine cw_iadd (pc := 83) dX9_plan_83 <|
          cw_iload_n (pc := 84) dX9_plan_84 rfl rfl <|
          cw_ias (q := 68) (jn := (106 + k)) (pc := 85) dX9_plan_85 sh_68 (nx_add rfl rfl) (by omega) (by decide) <|
          cw_aload_n (pc := 86) dX9_plan_86 rfl rfl <|
          cw_getR (q := 67) (t := 68) (pc := 87) dX9_plan_87 fX9_9 sh_67 (by decide) rfl <|
          cw_bipush (v := 114) (pc := 90) dX9_plan_90 (by decide) <|
          cw_aload_n (pc := 92) dX9_plan_92 rfl rfl <|
          cw_getR (q := 67) (t := 68) (pc := 93) dX9_plan_93 fX9_9 sh_67 (by decide) rfl <|
          cw_bipush (v := 35) (pc := 96) dX9_plan_96 (by decide) <|
          cw_ial (q := 68) (jn := 35) (pc := 98) dX9_plan_98 sh_68 rfl (by decide) (by decide) <|
          ?_
        rw [r1]
        refine cw_iadd (pc := 99) dX9_plan_99 <|
          cw_iload_n (pc := 100) dX9_plan_100 rfl rfl <|
          cw_ias (q := 68) (jn := (114 + k)) (pc := 101) dX9_plan_101 sh_68 (nx_add rfl rfl) (by omega) (by decide) <|
          cw_aload_n (pc := 102) dX9_plan_102 rfl rfl <|
          cw_getR (q := 67) (t := 68) (pc := 103) dX9_plan_103 fX9_9 sh_67 (by decide) rfl <|
          cw_bipush (v := 35) (pc := 106) dX9_plan_106 (by decide) <|
          cw_dup2 (pc := 108) dX9_plan_108 rfl rfl <|
          cw_ial (q := 68) (jn := 35) (pc := 109) dX9_plan_109 sh_68 rfl (by decide) (by decide) <|
          ?_
        rw [r2]
        refine cw_iconst (v := 1) (pc := 110) dX9_plan_110 (by decide) <|
          cw_iadd (pc := 111) dX9_plan_111 <|
          cw_ias (q := 68) (jn := 35) (pc := 112) dX9_plan_112 sh_68 rfl (by decide) (by decide) <|
          cw_aload_n (pc := 113) dX9_plan_113 rfl rfl <|
          cw_getR (q := 67) (t := 68) (pc := 114) dX9_plan_114 fX9_9 sh_67 (by decide) rfl <|
          cw_bipush (v := 35) (pc := 117) dX9_plan_117 (by decide) <|
          cw_ial (q := 68) (jn := 35) (pc := 119) dX9_plan_119 sh_68 rfl (by decide) (by decide) <|
          ?_
        rw [st_eq]
        refine cw_iret (pc := 120) dX9_plan_120 hR <|
          ⟨by rw [planA, if_neg h0, if_pos ho, if_neg hf, e35], by rw [planR, if_neg h0, if_pos ⟨ho, hf⟩, hnk, st_row, st_row, st_row, e35], by first | exact Same.rf | (repeat (refine Same.s1 ?_ (by unfold MM; omega))); exact Same.rf⟩
    have poor : ¬ (w = 0 ∨ ((w = 1 ∨ w = 2) ∧ (0 ≤ x ∧ x < μ 68 31)) ∨ (w = 3 ∧ (0 ≤ x ∧ x < 12))) → CW E Γ cX9_plan 3 RX9 2 53 [.ref 67, .int w, .int x] [] μ := by
      intro ho
      refine cw_iconst (v := -1) (pc := 53) dX9_plan_53 (by decide) <|
        cw_iret (pc := 54) dX9_plan_54 hR <|
        ⟨by rw [planA, if_neg h0, if_neg ho], by rw [planR, if_neg h0, if_neg (fun h => ho h.1)], Same.rf⟩
    by_cases w0 : w = 0
    · subst w0
      refine cw_iload_n (pc := 0) dX9_plan_0 rfl rfl <|
        cw_iconst (v := -1) (pc := 1) dX9_plan_1 (by decide) <|
        cw_icmp_ne_T (tgt := 15) (pc := 2) dX9_plan_2 (by decide) h0 <|
        cw_iload_n (pc := 15) dX9_plan_15 rfl rfl <|
        cw_iconst (v := 0) (pc := 16) dX9_plan_16 (by decide) <|
        cw_iconst (v := 3) (pc := 17) dX9_plan_17 (by decide) <|
        cw_insI (pc := 18) dX9_plan_18 c_X9_in vX9_44 rfl rfl rfl (by decide) <|
        cw_if_eq_F (tgt := 53) (pc := 21) dX9_plan_21 (by decide) (bI_n0.mpr (by decide)) <|
        cw_iload_n (pc := 24) dX9_plan_24 rfl rfl <|
        cw_iconst (v := 1) (pc := 25) dX9_plan_25 (by decide) <|
        cw_iconst (v := 2) (pc := 26) dX9_plan_26 (by decide) <|
        cw_insI (pc := 27) dX9_plan_27 c_X9_in vX9_44 rfl rfl rfl (by decide) <|
        cw_if_eq_T (tgt := 41) (pc := 30) dX9_plan_30 (by decide) (bI_0.mpr (by decide)) <|
        cw_iload_n (pc := 41) dX9_plan_41 rfl rfl <|
        cw_iconst (v := 3) (pc := 42) dX9_plan_42 (by decide) <|
        cw_icmp_ne_T (tgt := 55) (pc := 43) dX9_plan_43 (by decide) (by decide) <|
        ?_
      exact good (Or.inl rfl)
    · by_cases w12 : w = 1 ∨ w = 2
      · have i1 : 0 ≤ w ∧ w ≤ 3 := by rcases w12 with e | e <;> rw [e] <;> decide
        have i2 : 1 ≤ w ∧ w ≤ 2 := by rcases w12 with e | e <;> rw [e] <;> decide
        have n3 : ¬ w = 3 := by rcases w12 with e | e <;> rw [e] <;> decide
        by_cases hx : 0 ≤ x ∧ x < μ 68 31
        · refine cw_iload_n (pc := 0) dX9_plan_0 rfl rfl <|
            cw_iconst (v := -1) (pc := 1) dX9_plan_1 (by decide) <|
            cw_icmp_ne_T (tgt := 15) (pc := 2) dX9_plan_2 (by decide) h0 <|
            cw_iload_n (pc := 15) dX9_plan_15 rfl rfl <|
            cw_iconst (v := 0) (pc := 16) dX9_plan_16 (by decide) <|
            cw_iconst (v := 3) (pc := 17) dX9_plan_17 (by decide) <|
            cw_insI (pc := 18) dX9_plan_18 c_X9_in vX9_44 rfl rfl rfl (by decide) <|
            cw_if_eq_F (tgt := 53) (pc := 21) dX9_plan_21 (by decide) (bI_n0.mpr i1) <|
            cw_iload_n (pc := 24) dX9_plan_24 rfl rfl <|
            cw_iconst (v := 1) (pc := 25) dX9_plan_25 (by decide) <|
            cw_iconst (v := 2) (pc := 26) dX9_plan_26 (by decide) <|
            cw_insI (pc := 27) dX9_plan_27 c_X9_in vX9_44 rfl rfl rfl (by decide) <|
            cw_if_eq_F (tgt := 41) (pc := 30) dX9_plan_30 (by decide) (bI_n0.mpr i2) <|
            cw_aload_n (pc := 33) dX9_plan_33 rfl rfl <|
            cw_iload_n (pc := 34) dX9_plan_34 rfl rfl <|
            cw_invI (q := 67) (pc := 35) dX9_plan_35 (c_X9_isMan hn h6) rfl vX9_162 sh_67 (by decide) rfl rfl rfl (by decide) <|
            cw_if_eq_F (tgt := 53) (pc := 38) dX9_plan_38 (by decide) (bI_n0.mpr hx) <|
            cw_iload_n (pc := 41) dX9_plan_41 rfl rfl <|
            cw_iconst (v := 3) (pc := 42) dX9_plan_42 (by decide) <|
            cw_icmp_ne_T (tgt := 55) (pc := 43) dX9_plan_43 (by decide) n3 <|
            ?_
          exact good (Or.inr (Or.inl ⟨w12, hx⟩))
        · refine cw_iload_n (pc := 0) dX9_plan_0 rfl rfl <|
            cw_iconst (v := -1) (pc := 1) dX9_plan_1 (by decide) <|
            cw_icmp_ne_T (tgt := 15) (pc := 2) dX9_plan_2 (by decide) h0 <|
            cw_iload_n (pc := 15) dX9_plan_15 rfl rfl <|
            cw_iconst (v := 0) (pc := 16) dX9_plan_16 (by decide) <|
            cw_iconst (v := 3) (pc := 17) dX9_plan_17 (by decide) <|
            cw_insI (pc := 18) dX9_plan_18 c_X9_in vX9_44 rfl rfl rfl (by decide) <|
            cw_if_eq_F (tgt := 53) (pc := 21) dX9_plan_21 (by decide) (bI_n0.mpr i1) <|
            cw_iload_n (pc := 24) dX9_plan_24 rfl rfl <|
            cw_iconst (v := 1) (pc := 25) dX9_plan_25 (by decide) <|
            cw_iconst (v := 2) (pc := 26) dX9_plan_26 (by decide) <|
            cw_insI (pc := 27) dX9_plan_27 c_X9_in vX9_44 rfl rfl rfl (by decide) <|
            cw_if_eq_F (tgt := 41) (pc := 30) dX9_plan_30 (by decide) (bI_n0.mpr i2) <|
            cw_aload_n (pc := 33) dX9_plan_33 rfl rfl <|
            cw_iload_n (pc := 34) dX9_plan_34 rfl rfl <|
            cw_invI (q := 67) (pc := 35) dX9_plan_35 (c_X9_isMan hn h6) rfl vX9_162 sh_67 (by decide) rfl rfl rfl (by decide) <|
            cw_if_eq_T (tgt := 53) (pc := 38) dX9_plan_38 (by decide) (bI_0.mpr hx) <|
            ?_
          exact poor (fun h => h.elim w0 (fun h => h.elim (fun h => hx h.2) (fun h => n3 h.1)))
      · have n2 : ¬ (1 ≤ w ∧ w ≤ 2) := fun h => w12 (by
          obtain ⟨q, hq, rfl⟩ := ix_of (n := 3) (by decide) ⟨Int32.le_trans (by decide) h.1, (i_le2.mp h.2)⟩
          rcases (show q = 0 ∨ q = 1 ∨ q = 2 by omega) with rfl | rfl | rfl
          · exact absurd h.1 (by decide)
          · exact Or.inl rfl
          · exact Or.inr rfl)
        by_cases w3 : w = 3
        · subst w3
          by_cases hx : 0 ≤ x ∧ x < 12
          · refine cw_iload_n (pc := 0) dX9_plan_0 rfl rfl <|
              cw_iconst (v := -1) (pc := 1) dX9_plan_1 (by decide) <|
              cw_icmp_ne_T (tgt := 15) (pc := 2) dX9_plan_2 (by decide) h0 <|
              cw_iload_n (pc := 15) dX9_plan_15 rfl rfl <|
              cw_iconst (v := 0) (pc := 16) dX9_plan_16 (by decide) <|
              cw_iconst (v := 3) (pc := 17) dX9_plan_17 (by decide) <|
              cw_insI (pc := 18) dX9_plan_18 c_X9_in vX9_44 rfl rfl rfl (by decide) <|
              cw_if_eq_F (tgt := 53) (pc := 21) dX9_plan_21 (by decide) (bI_n0.mpr (by decide)) <|
              cw_iload_n (pc := 24) dX9_plan_24 rfl rfl <|
              cw_iconst (v := 1) (pc := 25) dX9_plan_25 (by decide) <|
              cw_iconst (v := 2) (pc := 26) dX9_plan_26 (by decide) <|
              cw_insI (pc := 27) dX9_plan_27 c_X9_in vX9_44 rfl rfl rfl (by decide) <|
              cw_if_eq_T (tgt := 41) (pc := 30) dX9_plan_30 (by decide) (bI_0.mpr n2) <|
              cw_iload_n (pc := 41) dX9_plan_41 rfl rfl <|
              cw_iconst (v := 3) (pc := 42) dX9_plan_42 (by decide) <|
              cw_icmp_ne_F (tgt := 55) (pc := 43) dX9_plan_43 (by decide) rfl <|
              cw_iload_n (pc := 46) dX9_plan_46 rfl rfl <|
              cw_insI (pc := 47) dX9_plan_47 c_X9_isStep vX9_169 rfl rfl rfl (by decide) <|
              cw_if_ne_T (tgt := 55) (pc := 50) dX9_plan_50 (by decide) (bI_n0.mpr hx) <|
              ?_
            exact good (Or.inr (Or.inr ⟨rfl, hx⟩))
          · refine cw_iload_n (pc := 0) dX9_plan_0 rfl rfl <|
              cw_iconst (v := -1) (pc := 1) dX9_plan_1 (by decide) <|
              cw_icmp_ne_T (tgt := 15) (pc := 2) dX9_plan_2 (by decide) h0 <|
              cw_iload_n (pc := 15) dX9_plan_15 rfl rfl <|
              cw_iconst (v := 0) (pc := 16) dX9_plan_16 (by decide) <|
              cw_iconst (v := 3) (pc := 17) dX9_plan_17 (by decide) <|
              cw_insI (pc := 18) dX9_plan_18 c_X9_in vX9_44 rfl rfl rfl (by decide) <|
              cw_if_eq_F (tgt := 53) (pc := 21) dX9_plan_21 (by decide) (bI_n0.mpr (by decide)) <|
              cw_iload_n (pc := 24) dX9_plan_24 rfl rfl <|
              cw_iconst (v := 1) (pc := 25) dX9_plan_25 (by decide) <|
              cw_iconst (v := 2) (pc := 26) dX9_plan_26 (by decide) <|
              cw_insI (pc := 27) dX9_plan_27 c_X9_in vX9_44 rfl rfl rfl (by decide) <|
              cw_if_eq_T (tgt := 41) (pc := 30) dX9_plan_30 (by decide) (bI_0.mpr n2) <|
              cw_iload_n (pc := 41) dX9_plan_41 rfl rfl <|
              cw_iconst (v := 3) (pc := 42) dX9_plan_42 (by decide) <|
              cw_icmp_ne_F (tgt := 55) (pc := 43) dX9_plan_43 (by decide) rfl <|
              cw_iload_n (pc := 46) dX9_plan_46 rfl rfl <|
              cw_insI (pc := 47) dX9_plan_47 c_X9_isStep vX9_169 rfl rfl rfl (by decide) <|
              cw_if_ne_F (tgt := 55) (pc := 50) dX9_plan_50 (by decide) (bI_0.mpr hx) <|
              ?_
            exact poor (fun h => h.elim w0 (fun h => h.elim (fun h => w12 h.1) (fun h => hx h.2)))
        · have n1 : ¬ (0 ≤ w ∧ w ≤ 3) := fun h => by
            obtain ⟨q, hq, rfl⟩ := ix_of (n := 4) (by decide) ⟨h.1, i_le3.mp h.2⟩
            rcases (show q = 0 ∨ q = 1 ∨ q = 2 ∨ q = 3 by omega) with rfl | rfl | rfl | rfl
            · exact w0 rfl
            · exact w12 (Or.inl rfl)
            · exact w12 (Or.inr rfl)
            · exact w3 rfl
          refine cw_iload_n (pc := 0) dX9_plan_0 rfl rfl <|
            cw_iconst (v := -1) (pc := 1) dX9_plan_1 (by decide) <|
            cw_icmp_ne_T (tgt := 15) (pc := 2) dX9_plan_2 (by decide) h0 <|
            cw_iload_n (pc := 15) dX9_plan_15 rfl rfl <|
            cw_iconst (v := 0) (pc := 16) dX9_plan_16 (by decide) <|
            cw_iconst (v := 3) (pc := 17) dX9_plan_17 (by decide) <|
            cw_insI (pc := 18) dX9_plan_18 c_X9_in vX9_44 rfl rfl rfl (by decide) <|
            cw_if_eq_T (tgt := 53) (pc := 21) dX9_plan_21 (by decide) (bI_0.mpr n1) <|
            ?_
          exact poor (fun h => h.elim w0 (fun h => h.elim (fun h => w12 h.1) (fun h => w3 h.1)))
set_option maxHeartbeats 4000000 in
set_option maxRecDepth 100000 in
theorem c_X9_looked {E : Ev} {μ : Mem} {s : Row} (hs : μ 68 = s) {n mk : Nat} {code : PCo} (hI : Inv s n code mk)  : AM E yX9_looked cX9_looked 2 (some .int) 0 [.ref 67] μ (fun r μ' => r = some (.int (lookA s)) ∧ Same MQr μ μ') := by
  refine am_of (own := RX9) (L := [.ref 67, .null]) (by decide) rfl (Nat.le_of_ble_eq_true rfl) rfl (fun Γ hR => ?_)
  subst hs
  have hI0 := hI
  obtain ⟨hIL, hIP, hIC, hIS, hIW, hIB, hIT⟩ := hI
  have hn := hIL.1
  have h6 := hIL.2.1
  obtain ⟨k, hk, e36, hkb⟩ := hIB
  have elk : lookA (μ 68) = fstI (fun i => !decide (μ 68 (51 + nN (μ 68 (122 + i))) = μ 68 (130 + i))) 0 k := by unfold lookA; rw [e36, nN_nI (by omega)]
  refine cw_iconst (v := 0) (pc := 0) dX9_looked_0 (by decide) <|
    cw_istore_n (L' := [_, _]) (pc := 1) dX9_looked_1 rfl (by decide) rfl rfl <|
    ?_
  refine cw_for (σ := Unit) k (fun i _ m => m = μ ∧ lookA (μ 68) = fstI (fun i => !decide (μ 68 (51 + nN (μ 68 (122 + i))) = μ 68 (130 + i))) i (k - i)) (fun i _ => [.ref 67, .int (nI i)]) ?_ ?_ 0 () _ (Nat.zero_le _) ⟨rfl, elk⟩
  · rintro ⟨⟩ m ⟨rfl, ef⟩
    refine cw_iload_n (pc := 2) dX9_looked_2 rfl rfl <|
      cw_aload_n (pc := 3) dX9_looked_3 rfl rfl <|
      cw_getR (q := 67) (t := 68) (pc := 4) dX9_looked_4 fX9_9 sh_67 (by decide) rfl <|
      cw_bipush (v := 36) (pc := 7) dX9_looked_7 (by decide) <|
      cw_ial (q := 68) (jn := 36) (pc := 9) dX9_looked_9 sh_68 rfl (by decide) (by decide) <|
      ?_
    rw [e36]
    refine cw_icmp_ge_T (tgt := 51) (pc := 10) dX9_looked_10 (by decide) (Int32.le_refl _) <|
      cw_bipush (v := -5) (pc := 51) dX9_looked_51 (by decide) <|
      cw_iret (pc := 53) dX9_looked_53 hR <|
      ⟨by rw [ef, Nat.sub_self]; rfl, Same.rf⟩
  · rintro i ⟨⟩ m hik ⟨rfl, ef⟩ ih
    rw [fstI_s hik] at ef
    obtain ⟨⟨a, ha, ea⟩, b, hb, eb⟩ := hkb i hik
    have na : nN (m 68 (122 + i)) = a := by rw [ea]; exact nN_nI (by omega)
    rw [na] at ef
    by_cases hc : m 68 (51 + a) = m 68 (130 + i)
    · refine cw_iload_n (pc := 2) dX9_looked_2 rfl rfl <|
        cw_aload_n (pc := 3) dX9_looked_3 rfl rfl <|
        cw_getR (q := 67) (t := 68) (pc := 4) dX9_looked_4 fX9_9 sh_67 (by decide) rfl <|
        cw_bipush (v := 36) (pc := 7) dX9_looked_7 (by decide) <|
        cw_ial (q := 68) (jn := 36) (pc := 9) dX9_looked_9 sh_68 rfl (by decide) (by decide) <|
        ?_
      rw [e36]
      refine cw_icmp_ge_F (tgt := 51) (pc := 10) dX9_looked_10 (by decide) (nI_ge hik (by omega)) <|
        cw_aload_n (pc := 13) dX9_looked_13 rfl rfl <|
        cw_getR (q := 67) (t := 68) (pc := 14) dX9_looked_14 fX9_9 sh_67 (by decide) rfl <|
        cw_bipush (v := 51) (pc := 17) dX9_looked_17 (by decide) <|
        cw_aload_n (pc := 19) dX9_looked_19 rfl rfl <|
        cw_getR (q := 67) (t := 68) (pc := 20) dX9_looked_20 fX9_9 sh_67 (by decide) rfl <|
        cw_bipush (v := 122) (pc := 23) dX9_looked_23 (by decide) <|
        cw_iload_n (pc := 25) dX9_looked_25 rfl rfl <|
        cw_iadd (pc := 26) dX9_looked_26 <|
        cw_ial (q := 68) (jn := (122 + i)) (pc := 27) dX9_looked_27 sh_68 (nx_add rfl rfl) (by omega) (by decide) <|
        ?_
      rw [ea]
      refine cw_iadd (pc := 28) dX9_looked_28 <|
        cw_ial (q := 68) (jn := (51 + a)) (pc := 29) dX9_looked_29 sh_68 (nx_add rfl rfl) (by omega) (by decide) <|
        cw_aload_n (pc := 30) dX9_looked_30 rfl rfl <|
        cw_getR (q := 67) (t := 68) (pc := 31) dX9_looked_31 fX9_9 sh_67 (by decide) rfl <|
        cw_sipush (v := 130) (pc := 34) dX9_looked_34 (by decide) <|
        cw_iload_n (pc := 37) dX9_looked_37 rfl rfl <|
        cw_iadd (pc := 38) dX9_looked_38 <|
        cw_ial (q := 68) (jn := (130 + i)) (pc := 39) dX9_looked_39 sh_68 (nx_add rfl rfl) (by omega) (by decide) <|
        cw_icmp_eq_T (tgt := 45) (pc := 40) dX9_looked_40 (by decide) hc <|
        cw_iincL (L' := [_, _]) (c := 1) (pc := 45) dX9_looked_45 rfl (by decide) (by decide) rfl rfl <|
        ?_
      rw [nI_1 i]
      refine cw_goto (tgt := 2) (pc := 48) dX9_looked_48 (by decide) <|
        ?_
      exact ih () _ ⟨rfl, by rw [ef, decide_eq_true hc]; rfl⟩
    · refine cw_iload_n (pc := 2) dX9_looked_2 rfl rfl <|
        cw_aload_n (pc := 3) dX9_looked_3 rfl rfl <|
        cw_getR (q := 67) (t := 68) (pc := 4) dX9_looked_4 fX9_9 sh_67 (by decide) rfl <|
        cw_bipush (v := 36) (pc := 7) dX9_looked_7 (by decide) <|
        cw_ial (q := 68) (jn := 36) (pc := 9) dX9_looked_9 sh_68 rfl (by decide) (by decide) <|
        ?_
      rw [e36]
      refine cw_icmp_ge_F (tgt := 51) (pc := 10) dX9_looked_10 (by decide) (nI_ge hik (by omega)) <|
        cw_aload_n (pc := 13) dX9_looked_13 rfl rfl <|
        cw_getR (q := 67) (t := 68) (pc := 14) dX9_looked_14 fX9_9 sh_67 (by decide) rfl <|
        cw_bipush (v := 51) (pc := 17) dX9_looked_17 (by decide) <|
        cw_aload_n (pc := 19) dX9_looked_19 rfl rfl <|
        cw_getR (q := 67) (t := 68) (pc := 20) dX9_looked_20 fX9_9 sh_67 (by decide) rfl <|
        cw_bipush (v := 122) (pc := 23) dX9_looked_23 (by decide) <|
        cw_iload_n (pc := 25) dX9_looked_25 rfl rfl <|
        cw_iadd (pc := 26) dX9_looked_26 <|
        cw_ial (q := 68) (jn := (122 + i)) (pc := 27) dX9_looked_27 sh_68 (nx_add rfl rfl) (by omega) (by decide) <|
        ?_
      rw [ea]
      refine cw_iadd (pc := 28) dX9_looked_28 <|
        cw_ial (q := 68) (jn := (51 + a)) (pc := 29) dX9_looked_29 sh_68 (nx_add rfl rfl) (by omega) (by decide) <|
        cw_aload_n (pc := 30) dX9_looked_30 rfl rfl <|
        cw_getR (q := 67) (t := 68) (pc := 31) dX9_looked_31 fX9_9 sh_67 (by decide) rfl <|
        cw_sipush (v := 130) (pc := 34) dX9_looked_34 (by decide) <|
        cw_iload_n (pc := 37) dX9_looked_37 rfl rfl <|
        cw_iadd (pc := 38) dX9_looked_38 <|
        cw_ial (q := 68) (jn := (130 + i)) (pc := 39) dX9_looked_39 sh_68 (nx_add rfl rfl) (by omega) (by decide) <|
        cw_icmp_eq_F (tgt := 45) (pc := 40) dX9_looked_40 (by decide) hc <|
        cw_iload_n (pc := 43) dX9_looked_43 rfl rfl <|
        cw_iret (pc := 44) dX9_looked_44 hR <|
        ⟨by rw [ef, decide_eq_false hc]; rfl, Same.rf⟩
set_option maxHeartbeats 4000000 in
set_option maxRecDepth 100000 in
theorem c_X9_goesBy {E : Ev} {μ : Mem} {s : Row} (hs : μ 68 = s) {code : PCo} {mk : Nat} (hP : InvP s code mk) {n Y M : Nat} (hi : InvL s n Y M) (hY : Y < 2 ^ 30) (hM : M < 2 ^ 30) {w : Nat} {x : Int32} (hw : w ≤ 3) (h12 : w = 1 ∨ w = 2 → ∃ a, a < n ∧ x = nI a) (h3 : w = 3 → ∃ t, t < 12 ∧ x = nI t) : AM E yX9_goesBy cX9_goesBy 3 none 7 [.ref 67, .int (nI w), .int x] μ (fun r μ' => r = none ∧ μ' 68 = plnS code mk n s (nI w) x ∧ Same MG μ μ') := by
  refine am_of (own := RX9) (L := [.ref 67, .int (nI w), .int x]) (by decide) rfl (Nat.le_of_ble_eq_true rfl) rfl (fun Γ hR => ?_)
  subst hs
  have h6 := hi.2.1
  rcases (show w = 0 ∨ w = 1 ∨ w = 2 ∨ w = 3 by omega) with rfl | rfl | rfl | rfl
  · refine cw_iload_n (pc := 0) dX9_goesBy_0 rfl rfl <|
      cw_if_ne_F (tgt := 11) (pc := 1) dX9_goesBy_1 (by decide) rfl <|
      cw_aload_n (pc := 4) dX9_goesBy_4 rfl rfl <|
      cw_invP (q := 67) (pc := 5) dX9_goesBy_5 (c_X9_goes rfl hP hi hY hM) rfl vX9_184 sh_67 (by decide) rfl rfl rfl (by decide) <|
      ?_
    rintro _ m2 ⟨rfl, e2, s2⟩
    refine cw_goto (tgt := 48) (pc := 8) dX9_goesBy_8 (by decide) <|
      cw_vret (pc := 48) dX9_goesBy_48 hR <|
      ⟨rfl, by rw [e2, plnS, if_pos (show nI 0 = 0 from rfl)], s2⟩
  · obtain ⟨a, ha, rfl⟩ := h12 (Or.inl rfl)
    refine cw_iload_n (pc := 0) dX9_goesBy_0 rfl rfl <|
      cw_if_ne_T (tgt := 11) (pc := 1) dX9_goesBy_1 (by decide) (by decide) <|
      cw_iload_n (pc := 11) dX9_goesBy_11 rfl rfl <|
      cw_iconst (v := 3) (pc := 12) dX9_goesBy_12 (by decide) <|
      cw_icmp_ne_T (tgt := 29) (pc := 13) dX9_goesBy_13 (by decide) (by decide) <|
      cw_aload_n (pc := 29) dX9_goesBy_29 rfl rfl <|
      cw_getR (q := 67) (t := 68) (pc := 30) dX9_goesBy_30 fX9_9 sh_67 (by decide) rfl <|
      cw_bipush (v := 7) (pc := 33) dX9_goesBy_33 (by decide) <|
      cw_iload_n (pc := 35) dX9_goesBy_35 rfl rfl <|
      cw_iadd (pc := 36) dX9_goesBy_36 <|
      cw_iload_n (pc := 37) dX9_goesBy_37 rfl rfl <|
      cw_iconst (v := 1) (pc := 38) dX9_goesBy_38 (by decide) <|
      cw_icmp_ne_F (tgt := 46) (pc := 39) dX9_goesBy_39 (by decide) rfl <|
      cw_iconst (v := 1) (pc := 42) dX9_goesBy_42 (by decide) <|
      cw_goto (tgt := 47) (pc := 43) dX9_goesBy_43 (by decide) <|
      cw_ias (q := 68) (jn := (7 + a)) (pc := 47) dX9_goesBy_47 sh_68 (nx_add rfl rfl) (by omega) (by decide) <|
      cw_vret (pc := 48) dX9_goesBy_48 hR <|
      ⟨rfl, by rw [plnS, if_neg (show ¬ nI 1 = 0 by decide), if_neg (show ¬ nI 1 = 3 by decide), nN_nI (by omega), if_pos (show nI 1 = 1 from rfl)]; exact st_row _ _ _ _, Same.rf.s1 (Or.inr (Or.inr rfl))⟩
  · obtain ⟨a, ha, rfl⟩ := h12 (Or.inr rfl)
    refine cw_iload_n (pc := 0) dX9_goesBy_0 rfl rfl <|
      cw_if_ne_T (tgt := 11) (pc := 1) dX9_goesBy_1 (by decide) (by decide) <|
      cw_iload_n (pc := 11) dX9_goesBy_11 rfl rfl <|
      cw_iconst (v := 3) (pc := 12) dX9_goesBy_12 (by decide) <|
      cw_icmp_ne_T (tgt := 29) (pc := 13) dX9_goesBy_13 (by decide) (by decide) <|
      cw_aload_n (pc := 29) dX9_goesBy_29 rfl rfl <|
      cw_getR (q := 67) (t := 68) (pc := 30) dX9_goesBy_30 fX9_9 sh_67 (by decide) rfl <|
      cw_bipush (v := 7) (pc := 33) dX9_goesBy_33 (by decide) <|
      cw_iload_n (pc := 35) dX9_goesBy_35 rfl rfl <|
      cw_iadd (pc := 36) dX9_goesBy_36 <|
      cw_iload_n (pc := 37) dX9_goesBy_37 rfl rfl <|
      cw_iconst (v := 1) (pc := 38) dX9_goesBy_38 (by decide) <|
      cw_icmp_ne_T (tgt := 46) (pc := 39) dX9_goesBy_39 (by decide) (by decide) <|
      cw_iconst (v := 0) (pc := 46) dX9_goesBy_46 (by decide) <|
      cw_ias (q := 68) (jn := (7 + a)) (pc := 47) dX9_goesBy_47 sh_68 (nx_add rfl rfl) (by omega) (by decide) <|
      cw_vret (pc := 48) dX9_goesBy_48 hR <|
      ⟨rfl, by rw [plnS, if_neg (show ¬ nI 2 = 0 by decide), if_neg (show ¬ nI 2 = 3 by decide), nN_nI (by omega), if_neg (show ¬ nI 2 = 1 by decide)]; exact st_row _ _ _ _, Same.rf.s1 (Or.inr (Or.inr rfl))⟩
  · obtain ⟨t, ht, rfl⟩ := h3 rfl
    refine cw_iload_n (pc := 0) dX9_goesBy_0 rfl rfl <|
      cw_if_ne_T (tgt := 11) (pc := 1) dX9_goesBy_1 (by decide) (by decide) <|
      cw_iload_n (pc := 11) dX9_goesBy_11 rfl rfl <|
      cw_iconst (v := 3) (pc := 12) dX9_goesBy_12 (by decide) <|
      cw_icmp_ne_F (tgt := 29) (pc := 13) dX9_goesBy_13 (by decide) rfl <|
      cw_aload_n (pc := 16) dX9_goesBy_16 rfl rfl <|
      cw_getR (q := 67) (t := 68) (pc := 17) dX9_goesBy_17 fX9_9 sh_67 (by decide) rfl <|
      cw_bipush (v := 19) (pc := 20) dX9_goesBy_20 (by decide) <|
      cw_iload_n (pc := 22) dX9_goesBy_22 rfl rfl <|
      cw_iadd (pc := 23) dX9_goesBy_23 <|
      cw_iconst (v := 0) (pc := 24) dX9_goesBy_24 (by decide) <|
      cw_ias (q := 68) (jn := (19 + t)) (pc := 25) dX9_goesBy_25 sh_68 (nx_add rfl rfl) (by omega) (by decide) <|
      cw_goto (tgt := 48) (pc := 26) dX9_goesBy_26 (by decide) <|
      cw_vret (pc := 48) dX9_goesBy_48 hR <|
      ⟨rfl, by rw [plnS, if_neg (show ¬ nI 3 = 0 by decide), if_pos (show nI 3 = 3 from rfl), nN_nI (by omega)]; exact st_row _ _ _ _, Same.rf.s1 (Or.inr (Or.inr rfl))⟩
theorem pln_o {s : Row} {n Y M : Nat} (h : InvL s n Y M) (hW : InvW s n) {code : PCo} {mk : Nat} {j : Nat} (hj : 31 ≤ j) : ∀ i, i ≤ nN (s 35) → plnR s code mk n i j = s j := by
  obtain ⟨k, hk, ek, hr⟩ := hW
  have h6 := h.2.1
  intro i
  rw [ek, nN_nI (by omega)]
  induction i with
  | zero => intro _; rfl
  | succ i ih =>
    intro hi
    obtain ⟨w, hw, ew, h12, h3⟩ := hr i (by omega)
    rw [plnR_s, ew, ← ih (by omega)]
    unfold plnS
    rcases (show w = 0 ∨ w = 1 ∨ w = 2 ∨ w = 3 by omega) with rfl | rfl | rfl | rfl
    · rw [if_pos (show nI 0 = 0 from rfl), evo_o (by omega)]
    · obtain ⟨a, ha, ea⟩ := h12 (Or.inl rfl)
      rw [if_neg (show ¬ nI 1 = 0 by decide), if_neg (show ¬ nI 1 = 3 by decide), ea, nN_nI (by omega), un (by omega)]
    · obtain ⟨a, ha, ea⟩ := h12 (Or.inr rfl)
      rw [if_neg (show ¬ nI 2 = 0 by decide), if_neg (show ¬ nI 2 = 3 by decide), ea, nN_nI (by omega), un (by omega)]
    · obtain ⟨x, hx, ex⟩ := h3 rfl
      rw [if_neg (show ¬ nI 3 = 0 by decide), if_pos (show nI 3 = 3 from rfl), ex, nN_nI (by omega), un (by omega)]
theorem sumI_s (f : Nat → Int32) (n : Nat) : sumI f (n + 1) = sumI f n + f n := rfl
set_option maxHeartbeats 4000000 in
set_option maxRecDepth 100000 in
theorem c_X9_done {E : Ev} {μ : Mem} {s : Row} (hs : μ 68 = s) {n mk : Nat} {code : PCo} (hI : Inv s n code mk) {w : Int32} : AM E yX9_done cX9_done 4 (some .int) 8 [.ref 67, .int w] μ (fun r μ' => r = some (.int (doneA s code mk n w)) ∧ Same MQr μ μ') := by
  refine am_of (own := RX9) (L := [.ref 67, .int w, .null, .null]) (by decide) rfl (Nat.le_of_ble_eq_true rfl) rfl (fun Γ hR => ?_)
  subst hs
  have hI0 := hI
  obtain ⟨hIL, hIP, hIC, hIS, hIW, hIB, hIT⟩ := hI
  have hn := hIL.1
  have h6 := hIL.2.1
  have hIW0 := hIW
  obtain ⟨k, hk, e35, hr⟩ := hIW
  have nk : nN (μ 68 35) = k := by rw [e35]; exact nN_nI (by omega)
  by_cases hw : 0 ≤ w ∧ w ≤ 1
  · refine cw_iload_n (pc := 0) dX9_done_0 rfl rfl <|
      cw_iconst (v := 0) (pc := 1) dX9_done_1 (by decide) <|
      cw_iconst (v := 1) (pc := 2) dX9_done_2 (by decide) <|
      cw_insI (pc := 3) dX9_done_3 c_X9_in vX9_44 rfl rfl rfl (by decide) <|
      cw_if_ne_T (tgt := 11) (pc := 6) dX9_done_6 (by decide) (bI_n0.mpr hw) <|
      cw_aload_n (pc := 11) dX9_done_11 rfl rfl <|
      cw_invV (q := 67) (pc := 12) dX9_done_12 c_X9_keeps rfl vX9_190 sh_67 (by decide) rfl rfl rfl (by decide) <|
      cw_iconst (v := 0) (pc := 15) dX9_done_15 (by decide) <|
      cw_istore_n (L' := [_, _, _, _]) (pc := 16) dX9_done_16 rfl (by decide) rfl rfl <|
      ?_
    refine cw_for (σ := Unit) k (fun i _ m => m 68 = plnR (μ 68) code mk n i ∧ Same MG (str μ 70 (fun k => if k < 31 then μ 68 k else μ 70 k)) m) (fun i _ => [.ref 67, .int w, .int (nI i), .null]) ?_ ?_ 0 () _ (Nat.zero_le _) ⟨k68, Same.rf⟩
    · rintro ⟨⟩ m ⟨e1, s1⟩
      have hi1 := hIL.pln (i := k) hIW0 (code := code) (mk := mk) (by decide) (by decide) (by rw [nk]; exact Nat.le_refl _)
      have ho : ∀ j, 31 ≤ j → m 68 j = μ 68 j := fun j hj => by rw [e1]; exact pln_o hIL hIW0 hj k (by rw [nk]; exact Nat.le_refl _)
      have hB := back_same s1 ho
      have e31 : m 68 31 = nI n := (ho 31 (by omega)).trans hn
      have e35' : m 68 35 = nI k := (ho 35 (by omega)).trans e35
      refine cw_iload_n (pc := 17) dX9_done_17 rfl rfl <|
        cw_aload_n (pc := 18) dX9_done_18 rfl rfl <|
        cw_getR (q := 67) (t := 68) (pc := 19) dX9_done_19 fX9_9 sh_67 (by decide) rfl <|
        cw_bipush (v := 35) (pc := 22) dX9_done_22 (by decide) <|
        cw_ial (q := 68) (jn := 35) (pc := 24) dX9_done_24 sh_68 rfl (by decide) (by decide) <|
        ?_
      rw [e35']
      refine cw_icmp_ge_T (tgt := 56) (pc := 25) dX9_done_25 (by decide) (Int32.le_refl _) <|
        cw_iconst (v := 0) (pc := 56) dX9_done_56 (by decide) <|
        cw_istore_n (L' := [_, _, _, _]) (pc := 57) dX9_done_57 rfl (by decide) rfl rfl <|
        cw_iconst (v := 0) (pc := 58) dX9_done_58 (by decide) <|
        cw_istore_n (L' := [_, _, _, _]) (pc := 59) dX9_done_59 rfl (by decide) rfl rfl <|
        ?_
      refine cw_for (σ := Unit) n (fun i _ m2 => m2 = m) (fun i _ => [.ref 67, .int w, .int (sumI (fun p => plnR (μ 68) code mk n k (13 + p)) i), .int (nI i)]) ?_ ?_ 0 () _ (Nat.zero_le _) rfl
      · rintro ⟨⟩ m2 rfl
        have hpre : doneA (μ 68) code mk n w = (if w = 0 then bitsI (beS (plnR (μ 68) code mk n k)) 6 else sumI (fun p => plnR (μ 68) code mk n k (13 + p)) n) := by rw [doneA, if_pos hw, nk]
        by_cases w0 : w = 0
        · refine cw_iload_n (pc := 60) dX9_done_60 rfl rfl <|
            cw_aload_n (pc := 61) dX9_done_61 rfl rfl <|
            cw_getR (q := 67) (t := 68) (pc := 62) dX9_done_62 fX9_9 sh_67 (by decide) rfl <|
            cw_bipush (v := 31) (pc := 65) dX9_done_65 (by decide) <|
            cw_ial (q := 68) (jn := 31) (pc := 67) dX9_done_67 sh_68 rfl (by decide) (by decide) <|
            ?_
          rw [e31]
          refine cw_icmp_ge_T (tgt := 89) (pc := 68) dX9_done_68 (by decide) (Int32.le_refl _) <|
            cw_iload_n (pc := 89) dX9_done_89 rfl rfl <|
            cw_if_ne_F (tgt := 101) (pc := 90) dX9_done_90 (by decide) w0 <|
            cw_aload_n (pc := 93) dX9_done_93 rfl rfl <|
            cw_iconst (v := 1) (pc := 94) dX9_done_94 (by decide) <|
            cw_invI (q := 67) (pc := 95) dX9_done_95 (c_X9_bitsOf e1 hi1.1 h6 (j := 1) (f := beS (plnR (μ 68) code mk n k)) (by decide) (fun p hp => be_01 hi1 (by omega))) rfl vX9_172 sh_67 (by decide) rfl rfl rfl (by decide) <|
            cw_goto (tgt := 102) (pc := 98) dX9_done_98 (by decide) <|
            cw_istore_n (L' := [_, _, _, _]) (pc := 102) dX9_done_102 rfl (by decide) rfl rfl <|
            cw_aload_n (pc := 103) dX9_done_103 rfl rfl <|
            cw_invV (q := 67) (pc := 104) dX9_done_104 c_X9_goesBack rfl vX9_193 sh_67 (by decide) rfl rfl rfl (by decide) <|
            cw_iload_n (pc := 107) dX9_done_107 rfl rfl <|
            cw_iret (pc := 108) dX9_done_108 hR <|
            ⟨by rw [hpre, if_pos w0, be_n6 hi1], hB⟩
        · refine cw_iload_n (pc := 60) dX9_done_60 rfl rfl <|
            cw_aload_n (pc := 61) dX9_done_61 rfl rfl <|
            cw_getR (q := 67) (t := 68) (pc := 62) dX9_done_62 fX9_9 sh_67 (by decide) rfl <|
            cw_bipush (v := 31) (pc := 65) dX9_done_65 (by decide) <|
            cw_ial (q := 68) (jn := 31) (pc := 67) dX9_done_67 sh_68 rfl (by decide) (by decide) <|
            ?_
          rw [e31]
          refine cw_icmp_ge_T (tgt := 89) (pc := 68) dX9_done_68 (by decide) (Int32.le_refl _) <|
            cw_iload_n (pc := 89) dX9_done_89 rfl rfl <|
            cw_if_ne_T (tgt := 101) (pc := 90) dX9_done_90 (by decide) w0 <|
            cw_iload_n (pc := 101) dX9_done_101 rfl rfl <|
            cw_istore_n (L' := [_, _, _, _]) (pc := 102) dX9_done_102 rfl (by decide) rfl rfl <|
            cw_aload_n (pc := 103) dX9_done_103 rfl rfl <|
            cw_invV (q := 67) (pc := 104) dX9_done_104 c_X9_goesBack rfl vX9_193 sh_67 (by decide) rfl rfl rfl (by decide) <|
            cw_iload_n (pc := 107) dX9_done_107 rfl rfl <|
            cw_iret (pc := 108) dX9_done_108 hR <|
            ⟨by rw [hpre, if_neg w0], hB⟩
      · rintro i ⟨⟩ m2 hin rfl ih
        refine cw_iload_n (pc := 60) dX9_done_60 rfl rfl <|
          cw_aload_n (pc := 61) dX9_done_61 rfl rfl <|
          cw_getR (q := 67) (t := 68) (pc := 62) dX9_done_62 fX9_9 sh_67 (by decide) rfl <|
          cw_bipush (v := 31) (pc := 65) dX9_done_65 (by decide) <|
          cw_ial (q := 68) (jn := 31) (pc := 67) dX9_done_67 sh_68 rfl (by decide) (by decide) <|
          ?_
        rw [e31]
        refine cw_icmp_ge_F (tgt := 89) (pc := 68) dX9_done_68 (by decide) (nI_ge hin (by omega)) <|
          cw_iload_n (pc := 71) dX9_done_71 rfl rfl <|
          cw_aload_n (pc := 72) dX9_done_72 rfl rfl <|
          cw_getR (q := 67) (t := 68) (pc := 73) dX9_done_73 fX9_9 sh_67 (by decide) rfl <|
          cw_bipush (v := 13) (pc := 76) dX9_done_76 (by decide) <|
          cw_iload_n (pc := 78) dX9_done_78 rfl rfl <|
          cw_iadd (pc := 79) dX9_done_79 <|
          cw_ial (q := 68) (jn := (13 + i)) (pc := 80) dX9_done_80 sh_68 (nx_add rfl rfl) (by omega) (by decide) <|
          ?_
        rw [e1]
        refine cw_iadd (pc := 81) dX9_done_81 <|
          cw_istore_n (L' := [_, _, _, _]) (pc := 82) dX9_done_82 rfl (by decide) rfl rfl <|
          cw_iincL (L' := [_, _, _, _]) (c := 1) (pc := 83) dX9_done_83 rfl (by decide) (by decide) rfl rfl <|
          ?_
        rw [nI_1 i]
        refine cw_goto (tgt := 60) (pc := 86) dX9_done_86 (by decide) <|
          ?_
        exact ih () _ rfl
    · rintro i ⟨⟩ m hik ⟨e1, s1⟩ ih
      have hi1 := hIL.pln (i := i) hIW0 (code := code) (mk := mk) (by decide) (by decide) (by rw [nk]; omega)
      have ho : ∀ j, 31 ≤ j → m 68 j = μ 68 j := fun j hj => by rw [e1]; exact pln_o hIL hIW0 hj i (by rw [nk]; omega)
      have e35' : m 68 35 = nI k := (ho 35 (by omega)).trans e35
      have hP1 : InvP (m 68) code mk := hIP.cg (fun j hj => ho j (by omega))
      obtain ⟨v, hv, ev, h12, h3⟩ := hr i hik
      have e106 : m 68 (106 + i) = nI v := (ho _ (by omega)).trans ev
      have e114 : m 68 (114 + i) = μ 68 (114 + i) := ho _ (by omega)
      have hi1' := hi1
      rw [← e1] at hi1'
      refine cw_iload_n (pc := 17) dX9_done_17 rfl rfl <|
        cw_aload_n (pc := 18) dX9_done_18 rfl rfl <|
        cw_getR (q := 67) (t := 68) (pc := 19) dX9_done_19 fX9_9 sh_67 (by decide) rfl <|
        cw_bipush (v := 35) (pc := 22) dX9_done_22 (by decide) <|
        cw_ial (q := 68) (jn := 35) (pc := 24) dX9_done_24 sh_68 rfl (by decide) (by decide) <|
        ?_
      rw [e35']
      refine cw_icmp_ge_F (tgt := 56) (pc := 25) dX9_done_25 (by decide) (nI_ge hik (by omega)) <|
        cw_aload_n (pc := 28) dX9_done_28 rfl rfl <|
        cw_aload_n (pc := 29) dX9_done_29 rfl rfl <|
        cw_getR (q := 67) (t := 68) (pc := 30) dX9_done_30 fX9_9 sh_67 (by decide) rfl <|
        cw_bipush (v := 106) (pc := 33) dX9_done_33 (by decide) <|
        cw_iload_n (pc := 35) dX9_done_35 rfl rfl <|
        cw_iadd (pc := 36) dX9_done_36 <|
        cw_ial (q := 68) (jn := (106 + i)) (pc := 37) dX9_done_37 sh_68 (nx_add rfl rfl) (by omega) (by decide) <|
        ?_
      rw [e106]
      refine cw_aload_n (pc := 38) dX9_done_38 rfl rfl <|
        cw_getR (q := 67) (t := 68) (pc := 39) dX9_done_39 fX9_9 sh_67 (by decide) rfl <|
        cw_bipush (v := 114) (pc := 42) dX9_done_42 (by decide) <|
        cw_iload_n (pc := 44) dX9_done_44 rfl rfl <|
        cw_iadd (pc := 45) dX9_done_45 <|
        cw_ial (q := 68) (jn := (114 + i)) (pc := 46) dX9_done_46 sh_68 (nx_add rfl rfl) (by omega) (by decide) <|
        ?_
      rw [e114]
      refine cw_invP (q := 67) (pc := 47) dX9_done_47 (c_X9_goesBy rfl hP1 hi1' (by omega) (by omega) (w := v) hv h12 h3) rfl vX9_218 sh_67 (by decide) rfl rfl rfl (by decide) <|
        ?_
      rintro _ m2 ⟨rfl, e2, s2⟩
      refine cw_iincL (L' := [_, _, _, _]) (c := 1) (pc := 50) dX9_done_50 rfl (by decide) (by decide) rfl rfl <|
        ?_
      rw [nI_1 i]
      refine cw_goto (tgt := 17) (pc := 53) dX9_done_53 (by decide) <|
        ?_
      exact ih () _ ⟨by rw [e2, e1, plnR_s, ev], s1.tr s2⟩
  · refine cw_iload_n (pc := 0) dX9_done_0 rfl rfl <|
      cw_iconst (v := 0) (pc := 1) dX9_done_1 (by decide) <|
      cw_iconst (v := 1) (pc := 2) dX9_done_2 (by decide) <|
      cw_insI (pc := 3) dX9_done_3 c_X9_in vX9_44 rfl rfl rfl (by decide) <|
      cw_if_ne_F (tgt := 11) (pc := 6) dX9_done_6 (by decide) (bI_0.mpr hw) <|
      cw_iconst (v := -1) (pc := 9) dX9_done_9 (by decide) <|
      cw_iret (pc := 10) dX9_done_10 hR <|
      ⟨by rw [doneA, if_neg hw], Same.rf⟩
