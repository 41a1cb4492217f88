/-! ===== the model: a year goes, many years; calls that change the state ===== -/
/-- the row while a year's TRUSTED are told, the first i of them -/
def trS (s : Row) (f : Nat → Bool) (i : Nat) : Row := fun j => if 1 ≤ j ∧ j ≤ i then (if f (j - 1) then 1 else 0) else s j
theorem trS_0 (s : Row) (f : Nat → Bool) : trS s f 0 = s := funext fun j => if_neg (by omega)
theorem trS_o {s : Row} {f : Nat → Bool} {i j : Nat} (h : ¬ (1 ≤ j ∧ j ≤ i)) : trS s f i j = s j := if_neg h
theorem trS_s (s : Row) (f : Nat → Bool) (i : Nat) : upd (trS s f i) (1 + i) (if f i then 1 else 0) = trS s f (i + 1) := by
  funext j
  by_cases e : j = 1 + i
  · subst e
    rw [us]
    unfold trS
    rw [if_pos (show 1 ≤ 1 + i ∧ 1 + i ≤ i + 1 by omega), show 1 + i - 1 = i by omega]
  · rw [un e]
    unfold trS
    by_cases h : 1 ≤ j ∧ j ≤ i
    · rw [if_pos h, if_pos (show 1 ≤ j ∧ j ≤ i + 1 by omega)]
    · rw [if_neg h, if_neg (show ¬ (1 ≤ j ∧ j ≤ i + 1) by omega)]
theorem InvP.cg {s t : Row} {code : PCo} {mk : Nat} (h : InvP s code mk) (e : ∀ i, 32 ≤ i → t i = s i) : InvP t code mk := by
  obtain ⟨⟨np, h1, h2, h3⟩, h4⟩ := h
  refine ⟨⟨np, h1, by rw [e _ (by omega)]; exact h2, ?_⟩, h4⟩
  rcases h3 with ⟨a, b, c⟩ | ⟨k, a, b, c, d, f⟩
  · exact Or.inl ⟨by rw [e _ (by omega)]; exact a, b, c⟩
  · exact Or.inr ⟨k, a, by rw [e _ (by omega)]; exact b, by rw [e _ (by omega)]; exact c, by rw [e _ (by omega)]; exact d, fun i q hq => by rw [e _ (by omega)]; exact f i q hq⟩
theorem InvL.tr {s : Row} {n Y M i : Nat} {f : Nat → Bool} (h : InvL s n Y M) (hi : i ≤ n) : InvL (trS s f i) n Y M := by
  obtain ⟨h1, h2, h3, h4, h5, h6, h7⟩ := h
  refine ⟨by rw [trS_o (by omega)]; exact h1, h2, by rw [trS_o (by omega)]; exact h3, fun p hp => ⟨?_, by rw [trS_o (by omega)]; exact (h4 p hp).2⟩, fun p a hp => ⟨by rw [trS_o (by omega)]; exact (h5 p a hp).1, by rw [trS_o (by omega)]; exact (h5 p a hp).2.1, by rw [trS_o (by omega)]; exact (h5 p a hp).2.2.1, fun j hj => by rw [trS_o (by omega)]; exact (h5 p a hp).2.2.2 j hj⟩, fun p hp => by rw [trS_o (by omega)]; exact h6 p hp, fun p hp => by rw [trS_o (by omega), trS_o (by omega)]; exact h7 p hp⟩
  unfold trS
  split
  · split <;> simp
  · exact (h4 p hp).1
theorem scP_tr {s : Row} {f : Nat → Bool} {i : Nat} (hi : i ≤ 6) (code : PCo) (p : Nat) : scP (trS s f i) code p = scP s code p := by
  unfold scP
  rw [trS_o (by omega), scS_cg (fun j h => trS_o (by omega)), pgS_cg (fun j h => trS_o (by omega))]
theorem bl_0 {s : Row} {code : PCo} {mk n p Y M : Nat} (hi : InvL s n Y M) (hY : Y < 2 ^ 31) (hp : p < n) : blY s code (nI mk) n 0 p = (naS s p && decide (nI mk ≤ scP s code p)) := by
  obtain ⟨y, hy, ey⟩ := hi.2.2.1
  unfold blY scP
  rw [Nat.add_zero, ey, nN_nI (by omega)]
  simp [hp]
theorem bs_0 {s : Row} {code : PCo} {n Y M : Nat} (hi : InvL s n Y M) (hY : Y < 2 ^ 31) : bsY s code n 0 = winA s code n := by
  obtain ⟨y, hy, ey⟩ := hi.2.2.1
  unfold bsY winA
  rw [Nat.add_zero, ey, nN_nI (by omega), ← ey]; rfl
theorem evo1 {s : Row} {code : PCo} {mk n Y M : Nat} (hi : InvL s n Y M) (hY : Y < 2 ^ 30) (hM : M < 2 ^ 30) {t : Row} (ht : ∀ j, j ≠ 0 → ¬ (13 ≤ j ∧ j ≤ 18) → t j = trS s (blY s code (nI mk) n 0) n j) (h0 : t 0 = s 0 + 1) (hw : ∀ p, p < 6 → t (13 + p) = if winA s code n = nI p then s (13 + p) + 1 else s (13 + p)) : t = evo s code (nI mk) n 1 := by
  funext j
  have hbs := bs_0 (code := code) hi (by omega)
  obtain ⟨h1, h2, ⟨y, hy, ey⟩, h4, h5, h6, h7⟩ := hi
  by_cases e0 : j = 0
  · subst e0; rw [h0, evo_y, ey, nN_nI (by omega), nI_1]
  · by_cases e2 : 13 ≤ j ∧ j ≤ 18
    · obtain ⟨p, hp, rfl⟩ : ∃ p, p < 6 ∧ j = 13 + p := ⟨j - 13, by omega, by omega⟩
      obtain ⟨w, hw', ew⟩ := h6 p hp
      rw [hw p hp, evo_w hp, ew, nN_nI (by omega)]
      simp only [cntN, hbs, Nat.zero_add]
      by_cases h : winA s code n = nI p
      · rw [if_pos h, if_pos h, nI_1]
      · rw [if_neg h, if_neg h, Nat.add_zero]
    · rw [ht j e0 e2]
      by_cases e1 : 1 ≤ j ∧ j ≤ 6
      · obtain ⟨p, hp, rfl⟩ : ∃ p, p < 6 ∧ j = 1 + p := ⟨j - 1, by omega, by omega⟩
        rw [evo_b hp, if_neg (by omega)]
        unfold trS
        by_cases hpn : p < n
        · rw [if_pos (by omega), show 1 + p - 1 = p by omega]
        · rw [if_neg (by omega), (h5 p (by omega) hp).1, if_neg (by unfold blY; simp; intro h; omega)]
      · rw [evo_o (by omega), trS_o (by omega)]
theorem nI_neg5 {p : Nat} (h : p < 2 ^ 31) : ¬ nI p = -5 := fun e => absurd (nI_pos' h) (by rw [e]; decide)
set_option maxHeartbeats 4000000 in
set_option maxRecDepth 100000 in
theorem c_X9_goes {E : Ev} {μ : Mem} {s : Row} (hs : μ 68 = s) {code : PCo} {mk : Nat} (hP : InvP s code mk) {n Y M : Nat} (hi : InvL s n Y M) (hY : Y < 2 ^ 30) (hM : M < 2 ^ 30) : AM E yX9_goes cX9_goes 3 none 6 [.ref 67] μ (fun r μ' => r = none ∧ μ' 68 = evo s code (nI mk) n 1 ∧ Same MG μ μ') := by
  refine am_of (own := RX9) (L := [.ref 67, .null, .null]) (by decide) rfl (Nat.le_of_ble_eq_true rfl) rfl (fun Γ hR => ?_)
  subst hs
  have hn := hi.1
  have h6 := hi.2.1
  refine cw_aload_n (pc := 0) dX9_goes_0 rfl rfl <|
    cw_invP (q := 67) (pc := 1) dX9_goes_1 (c_X9_bestOne rfl hP hi) rfl vX9_175 sh_67 (by decide) rfl rfl rfl (by decide) <|
    ?_
  rintro _ m0 ⟨rfl, s0⟩
  have e0 := s0.r68
  refine cw_istore_n (L' := [_, _, _]) (pc := 4) dX9_goes_4 rfl (by decide) rfl rfl <|
    cw_iconst (v := 0) (pc := 5) dX9_goes_5 (by decide) <|
    cw_istore_n (L' := [_, _, _]) (pc := 6) dX9_goes_6 rfl (by decide) rfl rfl <|
    ?_
  refine cw_for (σ := Unit) n (fun i a m => m 68 = trS (μ 68) (blY (μ 68) code (nI mk) n 0) i ∧ Same MG μ m) (fun i a => [.ref 67, .int (winA (μ 68) code n), .int (nI i)]) ?_ ?_ 0 () _ (Nat.zero_le _) ⟨by rw [trS_0, e0], MS_MG s0⟩
  · rintro ⟨⟩ m ⟨hm, hS⟩
    have m31 : m 68 31 = nI n := by rw [hm, trS_o (by omega)]; exact hn
    have hlow := bestF_val (naS (μ 68)) (scP (μ 68) code) (-999999) n
    have m00 : m 68 0 = μ 68 0 := by rw [hm, trS_o (by omega)]
    have hmt : ∀ j, ¬ (1 ≤ j ∧ j ≤ 6) → m 68 j = μ 68 j := fun j hj => by rw [hm, trS_o (by omega)]
    rcases hlow with hw | ⟨p, hp, hw⟩
    · have hw' : winA (μ 68) code n = -5 := hw
      rw [hw']
      refine cw_iload_n (pc := 7) dX9_goes_7 rfl rfl <|
        cw_aload_n (pc := 8) dX9_goes_8 rfl rfl <|
        cw_getR (q := 67) (t := 68) (pc := 9) dX9_goes_9 fX9_9 sh_67 (by decide) rfl <|
        cw_bipush (v := 31) (pc := 12) dX9_goes_12 (by decide) <|
        cw_ial (q := 68) (jn := 31) (pc := 14) dX9_goes_14 sh_68 rfl (by decide) (by decide) <|
        ?_
      rw [m31]
      refine cw_icmp_ge_T (tgt := 66) (pc := 15) dX9_goes_15 (by decide) (Int32.le_refl _) <|
        cw_iload_n (pc := 66) dX9_goes_66 rfl rfl <|
        cw_bipush (v := -5) (pc := 67) dX9_goes_67 (by decide) <|
        cw_icmp_eq_T (tgt := 85) (pc := 69) dX9_goes_69 (by decide) rfl <|
        cw_aload_n (pc := 85) dX9_goes_85 rfl rfl <|
        cw_getR (q := 67) (t := 68) (pc := 86) dX9_goes_86 fX9_9 sh_67 (by decide) rfl <|
        cw_iconst (v := 0) (pc := 89) dX9_goes_89 (by decide) <|
        cw_dup2 (pc := 90) dX9_goes_90 rfl rfl <|
        cw_ial (q := 68) (jn := 0) (pc := 91) dX9_goes_91 sh_68 rfl (by decide) (by decide) <|
        ?_
      rw [m00]
      refine cw_iconst (v := 1) (pc := 92) dX9_goes_92 (by decide) <|
        cw_iadd (pc := 93) dX9_goes_93 <|
        cw_ias (q := 68) (jn := 0) (pc := 94) dX9_goes_94 sh_68 rfl (by decide) (by decide) <|
        cw_vret (pc := 95) dX9_goes_95 hR <|
        ⟨rfl, evo1 hi hY hM (fun j a b => by rw [st_row, un a, hm]) (by rw [st_row, us]) (fun p hp => by rw [st_row, un (by omega), hmt _ (by omega), hw', if_neg (fun e => nI_neg5 (by omega) e.symm)]), hS.s1 (Or.inr (Or.inr rfl))⟩
    · have hw' : winA (μ 68) code n = nI p := hw
      rw [hw']
      have r0 : ∀ v, (st m 68 (13 + p) v) 68 0 = μ 68 0 := fun v => (st_at.trans (if_neg (by omega))).trans m00
      refine cw_iload_n (pc := 7) dX9_goes_7 rfl rfl <|
        cw_aload_n (pc := 8) dX9_goes_8 rfl rfl <|
        cw_getR (q := 67) (t := 68) (pc := 9) dX9_goes_9 fX9_9 sh_67 (by decide) rfl <|
        cw_bipush (v := 31) (pc := 12) dX9_goes_12 (by decide) <|
        cw_ial (q := 68) (jn := 31) (pc := 14) dX9_goes_14 sh_68 rfl (by decide) (by decide) <|
        ?_
      rw [m31]
      refine cw_icmp_ge_T (tgt := 66) (pc := 15) dX9_goes_15 (by decide) (Int32.le_refl _) <|
        cw_iload_n (pc := 66) dX9_goes_66 rfl rfl <|
        cw_bipush (v := -5) (pc := 67) dX9_goes_67 (by decide) <|
        cw_icmp_eq_F (tgt := 85) (pc := 69) dX9_goes_69 (by decide) (nI_neg5 (by omega)) <|
        cw_aload_n (pc := 72) dX9_goes_72 rfl rfl <|
        cw_getR (q := 67) (t := 68) (pc := 73) dX9_goes_73 fX9_9 sh_67 (by decide) rfl <|
        cw_bipush (v := 13) (pc := 76) dX9_goes_76 (by decide) <|
        cw_iload_n (pc := 78) dX9_goes_78 rfl rfl <|
        cw_iadd (pc := 79) dX9_goes_79 <|
        cw_dup2 (pc := 80) dX9_goes_80 rfl rfl <|
        cw_ial (q := 68) (jn := (13 + p)) (pc := 81) dX9_goes_81 sh_68 (nx_add rfl rfl) (by omega) (by decide) <|
        ?_
      rw [hmt _ (by omega)]
      refine cw_iconst (v := 1) (pc := 82) dX9_goes_82 (by decide) <|
        cw_iadd (pc := 83) dX9_goes_83 <|
        cw_ias (q := 68) (jn := (13 + p)) (pc := 84) dX9_goes_84 sh_68 (nx_add rfl rfl) (by omega) (by decide) <|
        cw_aload_n (pc := 85) dX9_goes_85 rfl rfl <|
        cw_getR (q := 67) (t := 68) (pc := 86) dX9_goes_86 fX9_9 sh_67 (by decide) rfl <|
        cw_iconst (v := 0) (pc := 89) dX9_goes_89 (by decide) <|
        cw_dup2 (pc := 90) dX9_goes_90 rfl rfl <|
        cw_ial (q := 68) (jn := 0) (pc := 91) dX9_goes_91 sh_68 rfl (by decide) (by decide) <|
        ?_
      rw [r0]
      refine cw_iconst (v := 1) (pc := 92) dX9_goes_92 (by decide) <|
        cw_iadd (pc := 93) dX9_goes_93 <|
        cw_ias (q := 68) (jn := 0) (pc := 94) dX9_goes_94 sh_68 rfl (by decide) (by decide) <|
        cw_vret (pc := 95) dX9_goes_95 hR <|
        ⟨rfl, evo1 hi hY hM (fun j a b => by rw [st_row, un a, st_row, un (by omega), hm]) (by rw [st_row, us]) (fun q hq => by
  rw [st_row, un (by omega), st_row, hw']
  by_cases e : q = p
  · subst e; rw [us, if_pos rfl]
  · rw [un (by omega), hmt _ (by omega), if_neg (fun h => e ((nI_eq (by omega) (by omega)).mp h).symm)]), (hS.s1 (Or.inr (Or.inr rfl))).s1 (Or.inr (Or.inr rfl))⟩
  · rintro i ⟨⟩ m hin ⟨hm, hS⟩ ih
    have m31 : m 68 31 = nI n := by rw [hm, trS_o (by omega)]; exact hn
    have hi' : InvL (m 68) n Y M := by rw [hm]; exact hi.tr (by omega)
    have hP' : InvP (m 68) code mk := by rw [hm]; exact hP.cg (fun j hj => trS_o (by omega))
    have hsc : scP (m 68) code i = scP (μ 68) code i := by rw [hm, scP_tr (by omega)]
    have h7 : m 68 (7 + i) = μ 68 (7 + i) := by rw [hm, trS_o (by omega)]
    have hb := bl_0 (code := code) (mk := mk) hi (by omega) hin
    have nxt : ∀ (m' : Mem) (b : Bool) (v : Int32), b = blY (μ 68) code (nI mk) n 0 i → v = (if b then 1 else 0) → m' 68 = m 68 → Same MG μ m' → CW E Γ cX9_goes 3 RX9 6 7 [.ref 67, .int (winA (μ 68) code n), .int (nI (i + 1))] [] (st m' 68 (1 + i) v) := fun m' b v e1 e2 e3 e4 => ih () _ ⟨by rw [st_row, e3, hm, e2, e1, trS_s], e4.s1 (Or.inr (Or.inr rfl))⟩
    by_cases hna : μ 68 (7 + i) = 0
    · by_cases hc : nI mk ≤ scP (μ 68) code i
      · refine cw_iload_n (pc := 7) dX9_goes_7 rfl rfl <|
          cw_aload_n (pc := 8) dX9_goes_8 rfl rfl <|
          cw_getR (q := 67) (t := 68) (pc := 9) dX9_goes_9 fX9_9 sh_67 (by decide) rfl <|
          cw_bipush (v := 31) (pc := 12) dX9_goes_12 (by decide) <|
          cw_ial (q := 68) (jn := 31) (pc := 14) dX9_goes_14 sh_68 rfl (by decide) (by decide) <|
          ?_
        rw [m31]
        refine cw_icmp_ge_F (tgt := 66) (pc := 15) dX9_goes_15 (by decide) (nI_ge hin (by omega)) <|
          cw_aload_n (pc := 18) dX9_goes_18 rfl rfl <|
          cw_getR (q := 67) (t := 68) (pc := 19) dX9_goes_19 fX9_9 sh_67 (by decide) rfl <|
          cw_iconst (v := 1) (pc := 22) dX9_goes_22 (by decide) <|
          cw_iload_n (pc := 23) dX9_goes_23 rfl rfl <|
          cw_iadd (pc := 24) dX9_goes_24 <|
          cw_aload_n (pc := 25) dX9_goes_25 rfl rfl <|
          cw_getR (q := 67) (t := 68) (pc := 26) dX9_goes_26 fX9_9 sh_67 (by decide) rfl <|
          cw_bipush (v := 7) (pc := 29) dX9_goes_29 (by decide) <|
          cw_iload_n (pc := 31) dX9_goes_31 rfl rfl <|
          cw_iadd (pc := 32) dX9_goes_32 <|
          cw_ial (q := 68) (jn := (7 + i)) (pc := 33) dX9_goes_33 sh_68 (nx_add rfl rfl) (by omega) (by decide) <|
          ?_
        rw [h7]
        refine cw_if_ne_F (tgt := 58) (pc := 34) dX9_goes_34 (by decide) hna <|
          cw_aload_n (pc := 37) dX9_goes_37 rfl rfl <|
          cw_iload_n (pc := 38) dX9_goes_38 rfl rfl <|
          cw_invP (q := 67) (pc := 39) dX9_goes_39 (c_X9_scoreOf rfl hP' hi' hin) rfl vX9_154 sh_67 (by decide) rfl rfl rfl (by decide) <|
          ?_
        rintro _ m2 ⟨rfl, s2⟩
        rw [hsc]
        have e2 := s2.r68
        have hP2 : InvP (m2 68) code mk := by rw [e2]; exact hP'
        refine cw_aload_n (pc := 42) dX9_goes_42 rfl rfl <|
          cw_sipush (v := 238) (pc := 43) dX9_goes_43 (by decide) <|
          cw_bipush (v := 30) (pc := 46) dX9_goes_46 (by decide) <|
          cw_invI (q := 67) (pc := 48) dX9_goes_48 (c_X9_tellsOf_pass hP2) rfl vX9_124 sh_67 (by decide) rfl rfl rfl (by decide) <|
          cw_icmp_lt_F (tgt := 58) (pc := 51) dX9_goes_51 (by decide) (Int32.not_lt.mpr hc) <|
          cw_iconst (v := 1) (pc := 54) dX9_goes_54 (by decide) <|
          cw_goto (tgt := 59) (pc := 55) dX9_goes_55 (by decide) <|
          cw_ias (q := 68) (jn := (1 + i)) (pc := 59) dX9_goes_59 sh_68 (nx_add rfl rfl) (by omega) (by decide) <|
          cw_iincL (L' := [_, _, _]) (c := 1) (pc := 60) dX9_goes_60 rfl (by decide) (by decide) rfl rfl <|
          ?_
        rw [nI_1 i]
        refine cw_goto (tgt := 7) (pc := 63) dX9_goes_63 (by decide) <|
          ?_
        exact nxt _ true _ (by rw [hb]; simp [naS, hna, hc]) rfl e2 (hS.tr (MS_MG s2))
      · refine cw_iload_n (pc := 7) dX9_goes_7 rfl rfl <|
          cw_aload_n (pc := 8) dX9_goes_8 rfl rfl <|
          cw_getR (q := 67) (t := 68) (pc := 9) dX9_goes_9 fX9_9 sh_67 (by decide) rfl <|
          cw_bipush (v := 31) (pc := 12) dX9_goes_12 (by decide) <|
          cw_ial (q := 68) (jn := 31) (pc := 14) dX9_goes_14 sh_68 rfl (by decide) (by decide) <|
          ?_
        rw [m31]
        refine cw_icmp_ge_F (tgt := 66) (pc := 15) dX9_goes_15 (by decide) (nI_ge hin (by omega)) <|
          cw_aload_n (pc := 18) dX9_goes_18 rfl rfl <|
          cw_getR (q := 67) (t := 68) (pc := 19) dX9_goes_19 fX9_9 sh_67 (by decide) rfl <|
          cw_iconst (v := 1) (pc := 22) dX9_goes_22 (by decide) <|
          cw_iload_n (pc := 23) dX9_goes_23 rfl rfl <|
          cw_iadd (pc := 24) dX9_goes_24 <|
          cw_aload_n (pc := 25) dX9_goes_25 rfl rfl <|
          cw_getR (q := 67) (t := 68) (pc := 26) dX9_goes_26 fX9_9 sh_67 (by decide) rfl <|
          cw_bipush (v := 7) (pc := 29) dX9_goes_29 (by decide) <|
          cw_iload_n (pc := 31) dX9_goes_31 rfl rfl <|
          cw_iadd (pc := 32) dX9_goes_32 <|
          cw_ial (q := 68) (jn := (7 + i)) (pc := 33) dX9_goes_33 sh_68 (nx_add rfl rfl) (by omega) (by decide) <|
          ?_
        rw [h7]
        refine cw_if_ne_F (tgt := 58) (pc := 34) dX9_goes_34 (by decide) hna <|
          cw_aload_n (pc := 37) dX9_goes_37 rfl rfl <|
          cw_iload_n (pc := 38) dX9_goes_38 rfl rfl <|
          cw_invP (q := 67) (pc := 39) dX9_goes_39 (c_X9_scoreOf rfl hP' hi' hin) rfl vX9_154 sh_67 (by decide) rfl rfl rfl (by decide) <|
          ?_
        rintro _ m2 ⟨rfl, s2⟩
        rw [hsc]
        have e2 := s2.r68
        have hP2 : InvP (m2 68) code mk := by rw [e2]; exact hP'
        refine cw_aload_n (pc := 42) dX9_goes_42 rfl rfl <|
          cw_sipush (v := 238) (pc := 43) dX9_goes_43 (by decide) <|
          cw_bipush (v := 30) (pc := 46) dX9_goes_46 (by decide) <|
          cw_invI (q := 67) (pc := 48) dX9_goes_48 (c_X9_tellsOf_pass hP2) rfl vX9_124 sh_67 (by decide) rfl rfl rfl (by decide) <|
          cw_icmp_lt_T (tgt := 58) (pc := 51) dX9_goes_51 (by decide) (Int32.not_le.mp hc) <|
          cw_iconst (v := 0) (pc := 58) dX9_goes_58 (by decide) <|
          cw_ias (q := 68) (jn := (1 + i)) (pc := 59) dX9_goes_59 sh_68 (nx_add rfl rfl) (by omega) (by decide) <|
          cw_iincL (L' := [_, _, _]) (c := 1) (pc := 60) dX9_goes_60 rfl (by decide) (by decide) rfl rfl <|
          ?_
        rw [nI_1 i]
        refine cw_goto (tgt := 7) (pc := 63) dX9_goes_63 (by decide) <|
          ?_
        exact nxt _ false _ (by rw [hb]; simp [naS, hna, hc]) rfl e2 (hS.tr (MS_MG s2))
    · refine cw_iload_n (pc := 7) dX9_goes_7 rfl rfl <|
        cw_aload_n (pc := 8) dX9_goes_8 rfl rfl <|
        cw_getR (q := 67) (t := 68) (pc := 9) dX9_goes_9 fX9_9 sh_67 (by decide) rfl <|
        cw_bipush (v := 31) (pc := 12) dX9_goes_12 (by decide) <|
        cw_ial (q := 68) (jn := 31) (pc := 14) dX9_goes_14 sh_68 rfl (by decide) (by decide) <|
        ?_
      rw [m31]
      refine cw_icmp_ge_F (tgt := 66) (pc := 15) dX9_goes_15 (by decide) (nI_ge hin (by omega)) <|
        cw_aload_n (pc := 18) dX9_goes_18 rfl rfl <|
        cw_getR (q := 67) (t := 68) (pc := 19) dX9_goes_19 fX9_9 sh_67 (by decide) rfl <|
        cw_iconst (v := 1) (pc := 22) dX9_goes_22 (by decide) <|
        cw_iload_n (pc := 23) dX9_goes_23 rfl rfl <|
        cw_iadd (pc := 24) dX9_goes_24 <|
        cw_aload_n (pc := 25) dX9_goes_25 rfl rfl <|
        cw_getR (q := 67) (t := 68) (pc := 26) dX9_goes_26 fX9_9 sh_67 (by decide) rfl <|
        cw_bipush (v := 7) (pc := 29) dX9_goes_29 (by decide) <|
        cw_iload_n (pc := 31) dX9_goes_31 rfl rfl <|
        cw_iadd (pc := 32) dX9_goes_32 <|
        cw_ial (q := 68) (jn := (7 + i)) (pc := 33) dX9_goes_33 sh_68 (nx_add rfl rfl) (by omega) (by decide) <|
        ?_
      rw [h7]
      refine cw_if_ne_T (tgt := 58) (pc := 34) dX9_goes_34 (by decide) hna <|
        cw_iconst (v := 0) (pc := 58) dX9_goes_58 (by decide) <|
        cw_ias (q := 68) (jn := (1 + i)) (pc := 59) dX9_goes_59 sh_68 (nx_add rfl rfl) (by omega) (by decide) <|
        cw_iincL (L' := [_, _, _]) (c := 1) (pc := 60) dX9_goes_60 rfl (by decide) (by decide) rfl rfl <|
        ?_
      rw [nI_1 i]
      refine cw_goto (tgt := 7) (pc := 63) dX9_goes_63 (by decide) <|
        ?_
      exact nxt _ false _ (by rw [hb]; simp [naS, hna]) rfl rfl hS
set_option maxHeartbeats 4000000 in
set_option maxRecDepth 100000 in
theorem c_X9_goesOn {E : Ev} {μ : Mem} {s : Row} (hs : μ 68 = s) {code : PCo} {mk : Nat} (hP : InvP s code mk) {n Y M : Nat} (hi : InvL s n Y M) {k : Nat} (hk : k ≤ 60) (hY : Y < 2 ^ 29) (hM : M < 2 ^ 29) : AM E yX9_goesOn cX9_goesOn 3 none 7 [.ref 67, .int (nI k)] μ (fun r μ' => r = none ∧ μ' 68 = evo s code (nI mk) n k ∧ Same MG μ μ') := by
  refine am_of (own := RX9) (L := [.ref 67, .int (nI k), .null]) (by decide) rfl (Nat.le_of_ble_eq_true rfl) rfl (fun Γ hR => ?_)
  subst hs
  refine cw_iconst (v := 0) (pc := 0) dX9_goesOn_0 (by decide) <|
    cw_istore_n (L' := [_, _, _]) (pc := 1) dX9_goesOn_1 rfl (by decide) rfl rfl <|
    ?_
  refine cw_for (σ := Unit) k (fun i a m => m 68 = evo (μ 68) code (nI mk) n i ∧ Same MG μ m) (fun i a => [.ref 67, .int (nI k), .int (nI i)]) ?_ ?_ 0 () _ (Nat.zero_le _) ⟨(evo_0 hi (by omega) (by omega)).symm, Same.rf⟩
  · rintro ⟨⟩ m ⟨hm, hS⟩
    refine cw_iload_n (pc := 2) dX9_goesOn_2 rfl rfl <|
      cw_iload_n (pc := 3) dX9_goesOn_3 rfl rfl <|
      cw_icmp_ge_T (tgt := 17) (pc := 4) dX9_goesOn_4 (by decide) (Int32.le_refl _) <|
      cw_vret (pc := 17) dX9_goesOn_17 hR <|
      ⟨rfl, hm, hS⟩
  · rintro i ⟨⟩ m hik ⟨hm, hS⟩ ih
    have hi' : InvL (m 68) n (Y + i) (M + i) := by rw [hm]; exact hi.evo i (by omega) (by omega)
    have hP' : InvP (m 68) code mk := by rw [hm]; exact hP.cg (fun j hj => evo_o (by omega))
    refine cw_iload_n (pc := 2) dX9_goesOn_2 rfl rfl <|
      cw_iload_n (pc := 3) dX9_goesOn_3 rfl rfl <|
      cw_icmp_ge_F (tgt := 17) (pc := 4) dX9_goesOn_4 (by decide) (nI_ge hik (by omega)) <|
      cw_aload_n (pc := 7) dX9_goesOn_7 rfl rfl <|
      cw_invP (q := 67) (pc := 8) dX9_goesOn_8 (c_X9_goes rfl hP' hi' (by omega) (by omega)) rfl vX9_184 sh_67 (by decide) rfl rfl rfl (by decide) <|
      ?_
    rintro _ m2 ⟨rfl, e2, s2⟩
    refine cw_iincL (L' := [_, _, _]) (c := 1) (pc := 11) dX9_goesOn_11 rfl (by decide) (by decide) rfl rfl <|
      ?_
    rw [nI_1 i]
    refine cw_goto (tgt := 2) (pc := 14) dX9_goesOn_14 (by decide) <|
      ?_
    exact ih () _ ⟨by rw [e2, hm, evo_1 hi (by omega) (by omega)], hS.tr s2⟩
def MM : Nat → Nat → Prop := fun q i => (70 ≤ q ∧ q ≤ 75) ∨ q = 68 ∨ (q = 67 ∧ 5 ≤ i ∧ i ≤ 14)
def MQr : Nat → Nat → Prop := fun q i => (70 ≤ q ∧ q ≤ 75) ∨ (q = 67 ∧ (i = 13 ∨ i = 14))
theorem MS_MQ {μ μ' : Mem} (h : Same MS μ μ') : Same MQr μ μ' := h.mo (fun q i h => by unfold MS at h; unfold MQr; omega)
theorem MG_MM {μ μ' : Mem} (h : Same MG μ μ') : Same MM μ μ' := h.mo (fun q i h => by unfold MG at h; unfold MM; omega)
theorem st_id {μ : Mem} {k i : Nat} {v : Int32} (h : μ k i = v) : st μ k i v = μ := by
  funext a b
  rw [st_at]
  split
  · rename_i e; rw [e.1, e.2, h]
  · rfl
theorem le_lt {x : Int32} {a : Nat} (h : a < 2 ^ 30) : x ≤ nI a ↔ x < nI (a + 1) := by rw [Int32.le_iff_toInt_le, Int32.lt_iff_toInt_lt, nI_toInt (by omega), nI_toInt (by omega)]; omega
set_option maxHeartbeats 4000000 in
set_option maxRecDepth 100000 in
theorem c_X9_peg {E : Ev} {μ : Mem} {s : Row} (hs : μ 68 = s) {n mk : Nat} {code : PCo} (hI : Inv s n code mk) {x l : Int32} : AM E yX9_peg cX9_peg 3 (some .int) 2 [.ref 67, .int x, .int l] μ (fun r μ' => r = some (.int (pegA s x l)) ∧ μ' 68 = pegR s x l ∧ Same MM μ μ') := by
  refine am_of (own := RX9) (L := [.ref 67, .int x, .int l]) (by decide) rfl (Nat.le_of_ble_eq_true rfl) rfl (fun Γ hR => ?_)
  subst hs
  have hI0 := hI
  obtain ⟨hIL, hIP, hIC, hIS, hIW, hIB, hIT⟩ := hI
  have hn := hIL.1
  have h6 := hIL.2.1
  by_cases hx : 0 ≤ x ∧ x < μ 68 31
  · by_cases hl : 0 ≤ l ∧ l < 9
    · obtain ⟨p, hp, rfl⟩ := isM_of hn h6 hx
      refine cw_aload_n (pc := 0) dX9_peg_0 rfl rfl <|
        cw_iload_n (pc := 1) dX9_peg_1 rfl rfl <|
        cw_invI (q := 67) (pc := 2) dX9_peg_2 (c_X9_isMan hn h6) rfl vX9_162 sh_67 (by decide) rfl rfl rfl (by decide) <|
        cw_if_eq_F (tgt := 27) (pc := 5) dX9_peg_5 (by decide) (bI_n0.mpr hx) <|
        cw_iload_n (pc := 8) dX9_peg_8 rfl rfl <|
        cw_insI (pc := 9) dX9_peg_9 c_X9_isLane vX9_158 rfl rfl rfl (by decide) <|
        cw_if_eq_F (tgt := 27) (pc := 12) dX9_peg_12 (by decide) (bI_n0.mpr hl) <|
        cw_aload_n (pc := 15) dX9_peg_15 rfl rfl <|
        cw_bipush (v := 51) (pc := 16) dX9_peg_16 (by decide) <|
        cw_iload_n (pc := 18) dX9_peg_18 rfl rfl <|
        cw_iadd (pc := 19) dX9_peg_19 <|
        ?_
      rw [show (51 : Int32) + nI p = nI (51 + p) from nx_add rfl rfl]
      refine cw_iload_n (pc := 20) dX9_peg_20 rfl rfl <|
        cw_invI (q := 67) (pc := 21) dX9_peg_21 (c_X9_becomes rfl (j := 51 + p) (by omega)) rfl vX9_166 sh_67 (by decide) rfl rfl rfl (by decide) <|
        cw_goto (tgt := 28) (pc := 24) dX9_peg_24 (by decide) <|
        cw_iret (pc := 28) dX9_peg_28 hR <|
        ⟨by rw [pegA, if_pos ⟨hx, hl⟩, nN_nI (by omega)], by rw [pegR, if_pos ⟨hx, hl⟩, nN_nI (by omega)]; exact st_row _ _ _ _, by first | exact Same.rf | (repeat (refine Same.s1 ?_ (by unfold MM; omega))); exact Same.rf⟩
    · refine cw_aload_n (pc := 0) dX9_peg_0 rfl rfl <|
        cw_iload_n (pc := 1) dX9_peg_1 rfl rfl <|
        cw_invI (q := 67) (pc := 2) dX9_peg_2 (c_X9_isMan hn h6) rfl vX9_162 sh_67 (by decide) rfl rfl rfl (by decide) <|
        cw_if_eq_F (tgt := 27) (pc := 5) dX9_peg_5 (by decide) (bI_n0.mpr hx) <|
        cw_iload_n (pc := 8) dX9_peg_8 rfl rfl <|
        cw_insI (pc := 9) dX9_peg_9 c_X9_isLane vX9_158 rfl rfl rfl (by decide) <|
        cw_if_eq_T (tgt := 27) (pc := 12) dX9_peg_12 (by decide) (bI_0.mpr hl) <|
        cw_iconst (v := -1) (pc := 27) dX9_peg_27 (by decide) <|
        cw_iret (pc := 28) dX9_peg_28 hR <|
        ⟨by rw [pegA, if_neg (fun h => hl h.2)], by rw [pegR, if_neg (fun h => hl h.2)], Same.rf⟩
  · refine cw_aload_n (pc := 0) dX9_peg_0 rfl rfl <|
      cw_iload_n (pc := 1) dX9_peg_1 rfl rfl <|
      cw_invI (q := 67) (pc := 2) dX9_peg_2 (c_X9_isMan hn h6) rfl vX9_162 sh_67 (by decide) rfl rfl rfl (by decide) <|
      cw_if_eq_T (tgt := 27) (pc := 5) dX9_peg_5 (by decide) (bI_0.mpr hx) <|
      cw_iconst (v := -1) (pc := 27) dX9_peg_27 (by decide) <|
      cw_iret (pc := 28) dX9_peg_28 hR <|
      ⟨by rw [pegA, if_neg (fun h => hx h.1)], by rw [pegR, if_neg (fun h => hx h.1)], Same.rf⟩
set_option maxHeartbeats 4000000 in
set_option maxRecDepth 100000 in
theorem c_X9_away {E : Ev} {μ : Mem} {s : Row} (hs : μ 68 = s) {n mk : Nat} {code : PCo} (hI : Inv s n code mk) {x z : Int32} : AM E yX9_away cX9_away 3 (some .int) 2 [.ref 67, .int x, .int z] μ (fun r μ' => r = some (.int (awayA s x)) ∧ μ' 68 = awayR s x z ∧ Same MM μ μ') := by
  refine am_of (own := RX9) (L := [.ref 67, .int x, .int z]) (by decide) rfl (Nat.le_of_ble_eq_true rfl) rfl (fun Γ hR => ?_)
  subst hs
  have hI0 := hI
  obtain ⟨hIL, hIP, hIC, hIS, hIW, hIB, hIT⟩ := hI
  have hn := hIL.1
  have h6 := hIL.2.1
  by_cases hx : 0 ≤ x ∧ x < μ 68 31
  · obtain ⟨p, hp, rfl⟩ := isM_of hn h6 hx
    by_cases hz : z = 0
    · refine cw_aload_n (pc := 0) dX9_away_0 rfl rfl <|
        cw_iload_n (pc := 1) dX9_away_1 rfl rfl <|
        cw_invI (q := 67) (pc := 2) dX9_away_2 (c_X9_isMan hn h6) rfl vX9_162 sh_67 (by decide) rfl rfl rfl (by decide) <|
        cw_if_eq_F (tgt := 28) (pc := 5) dX9_away_5 (by decide) (bI_n0.mpr hx) <|
        cw_aload_n (pc := 8) dX9_away_8 rfl rfl <|
        cw_bipush (v := 7) (pc := 9) dX9_away_9 (by decide) <|
        cw_iload_n (pc := 11) dX9_away_11 rfl rfl <|
        cw_iadd (pc := 12) dX9_away_12 <|
        ?_
      rw [show (7 : Int32) + nI p = nI (7 + p) from nx_add rfl rfl]
      refine cw_iload_n (pc := 13) dX9_away_13 rfl rfl <|
        cw_if_eq_T (tgt := 21) (pc := 14) dX9_away_14 (by decide) hz <|
        cw_iconst (v := 0) (pc := 21) dX9_away_21 (by decide) <|
        cw_invI (q := 67) (pc := 22) dX9_away_22 (c_X9_becomes rfl (j := 7 + p) (by omega)) rfl vX9_166 sh_67 (by decide) rfl rfl rfl (by decide) <|
        cw_goto (tgt := 29) (pc := 25) dX9_away_25 (by decide) <|
        cw_iret (pc := 29) dX9_away_29 hR <|
        ⟨by rw [awayA, if_pos hx, nN_nI (by omega)], by rw [awayR, if_pos hx, nN_nI (by omega), if_pos hz]; exact st_row _ _ _ _, by first | exact Same.rf | (repeat (refine Same.s1 ?_ (by unfold MM; omega))); exact Same.rf⟩
    · refine cw_aload_n (pc := 0) dX9_away_0 rfl rfl <|
        cw_iload_n (pc := 1) dX9_away_1 rfl rfl <|
        cw_invI (q := 67) (pc := 2) dX9_away_2 (c_X9_isMan hn h6) rfl vX9_162 sh_67 (by decide) rfl rfl rfl (by decide) <|
        cw_if_eq_F (tgt := 28) (pc := 5) dX9_away_5 (by decide) (bI_n0.mpr hx) <|
        cw_aload_n (pc := 8) dX9_away_8 rfl rfl <|
        cw_bipush (v := 7) (pc := 9) dX9_away_9 (by decide) <|
        cw_iload_n (pc := 11) dX9_away_11 rfl rfl <|
        cw_iadd (pc := 12) dX9_away_12 <|
        ?_
      rw [show (7 : Int32) + nI p = nI (7 + p) from nx_add rfl rfl]
      refine cw_iload_n (pc := 13) dX9_away_13 rfl rfl <|
        cw_if_eq_F (tgt := 21) (pc := 14) dX9_away_14 (by decide) hz <|
        cw_iconst (v := 1) (pc := 17) dX9_away_17 (by decide) <|
        cw_goto (tgt := 22) (pc := 18) dX9_away_18 (by decide) <|
        cw_invI (q := 67) (pc := 22) dX9_away_22 (c_X9_becomes rfl (j := 7 + p) (by omega)) rfl vX9_166 sh_67 (by decide) rfl rfl rfl (by decide) <|
        cw_goto (tgt := 29) (pc := 25) dX9_away_25 (by decide) <|
        cw_iret (pc := 29) dX9_away_29 hR <|
        ⟨by rw [awayA, if_pos hx, nN_nI (by omega)], by rw [awayR, if_pos hx, nN_nI (by omega), if_neg hz]; exact st_row _ _ _ _, by first | exact Same.rf | (repeat (refine Same.s1 ?_ (by unfold MM; omega))); exact Same.rf⟩
  · refine cw_aload_n (pc := 0) dX9_away_0 rfl rfl <|
      cw_iload_n (pc := 1) dX9_away_1 rfl rfl <|
      cw_invI (q := 67) (pc := 2) dX9_away_2 (c_X9_isMan hn h6) rfl vX9_162 sh_67 (by decide) rfl rfl rfl (by decide) <|
      cw_if_eq_T (tgt := 28) (pc := 5) dX9_away_5 (by decide) (bI_0.mpr hx) <|
      cw_iconst (v := -1) (pc := 28) dX9_away_28 (by decide) <|
      cw_iret (pc := 29) dX9_away_29 hR <|
      ⟨by rw [awayA, if_neg hx], by rw [awayR, if_neg hx], Same.rf⟩
set_option maxHeartbeats 4000000 in
set_option maxRecDepth 100000 in
theorem c_X9_lay {E : Ev} {μ : Mem} {s : Row} (hs : μ 68 = s) {n mk : Nat} {code : PCo} (hI : Inv s n code mk) {x v : Int32} : AM E yX9_lay cX9_lay 3 (some .int) 2 [.ref 67, .int x, .int v] μ (fun r μ' => r = some (.int (layA s x v)) ∧ μ' 68 = layR s x v ∧ Same MM μ μ') := by
  refine am_of (own := RX9) (L := [.ref 67, .int x, .int v]) (by decide) rfl (Nat.le_of_ble_eq_true rfl) rfl (fun Γ hR => ?_)
  subst hs
  have hI0 := hI
  obtain ⟨hIL, hIP, hIC, hIS, hIW, hIB, hIT⟩ := hI
  have hn := hIL.1
  have h6 := hIL.2.1
  by_cases hx : 0 ≤ x ∧ x < 12
  · by_cases hv : 0 ≤ v ∧ v ≤ 9
    · obtain ⟨p, hp, rfl⟩ := isSt_of hx
      refine cw_iload_n (pc := 0) dX9_lay_0 rfl rfl <|
        cw_insI (pc := 1) dX9_lay_1 c_X9_isStep vX9_169 rfl rfl rfl (by decide) <|
        cw_if_ne_T (tgt := 9) (pc := 4) dX9_lay_4 (by decide) (bI_n0.mpr hx) <|
        cw_iload_n (pc := 9) dX9_lay_9 rfl rfl <|
        cw_iconst (v := 0) (pc := 10) dX9_lay_10 (by decide) <|
        cw_bipush (v := 9) (pc := 11) dX9_lay_11 (by decide) <|
        cw_insI (pc := 13) dX9_lay_13 c_X9_in vX9_44 rfl rfl rfl (by decide) <|
        cw_if_eq_F (tgt := 31) (pc := 16) dX9_lay_16 (by decide) (bI_n0.mpr hv) <|
        cw_aload_n (pc := 19) dX9_lay_19 rfl rfl <|
        cw_bipush (v := 19) (pc := 20) dX9_lay_20 (by decide) <|
        cw_iload_n (pc := 22) dX9_lay_22 rfl rfl <|
        cw_iadd (pc := 23) dX9_lay_23 <|
        ?_
      rw [show (19 : Int32) + nI p = nI (19 + p) from nx_add rfl rfl]
      refine cw_iload_n (pc := 24) dX9_lay_24 rfl rfl <|
        cw_invI (q := 67) (pc := 25) dX9_lay_25 (c_X9_becomes rfl (j := 19 + p) (by omega)) rfl vX9_166 sh_67 (by decide) rfl rfl rfl (by decide) <|
        cw_goto (tgt := 33) (pc := 28) dX9_lay_28 (by decide) <|
        cw_iret (pc := 33) dX9_lay_33 hR <|
        ⟨by rw [layA, if_pos hx, if_pos hv, nN_nI (by omega)], by rw [layR, if_pos ⟨hx, hv⟩, nN_nI (by omega)]; exact st_row _ _ _ _, by first | exact Same.rf | (repeat (refine Same.s1 ?_ (by unfold MM; omega))); exact Same.rf⟩
    · refine cw_iload_n (pc := 0) dX9_lay_0 rfl rfl <|
        cw_insI (pc := 1) dX9_lay_1 c_X9_isStep vX9_169 rfl rfl rfl (by decide) <|
        cw_if_ne_T (tgt := 9) (pc := 4) dX9_lay_4 (by decide) (bI_n0.mpr hx) <|
        cw_iload_n (pc := 9) dX9_lay_9 rfl rfl <|
        cw_iconst (v := 0) (pc := 10) dX9_lay_10 (by decide) <|
        cw_bipush (v := 9) (pc := 11) dX9_lay_11 (by decide) <|
        cw_insI (pc := 13) dX9_lay_13 c_X9_in vX9_44 rfl rfl rfl (by decide) <|
        cw_if_eq_T (tgt := 31) (pc := 16) dX9_lay_16 (by decide) (bI_0.mpr hv) <|
        cw_bipush (v := -2) (pc := 31) dX9_lay_31 (by decide) <|
        cw_iret (pc := 33) dX9_lay_33 hR <|
        ⟨by rw [layA, if_pos hx, if_neg hv], by rw [layR, if_neg (fun h => hv h.2)], Same.rf⟩
  · refine cw_iload_n (pc := 0) dX9_lay_0 rfl rfl <|
      cw_insI (pc := 1) dX9_lay_1 c_X9_isStep vX9_169 rfl rfl rfl (by decide) <|
      cw_if_ne_F (tgt := 9) (pc := 4) dX9_lay_4 (by decide) (bI_0.mpr hx) <|
      cw_iconst (v := -1) (pc := 7) dX9_lay_7 (by decide) <|
      cw_iret (pc := 8) dX9_lay_8 hR <|
      ⟨by rw [layA, if_neg hx], by rw [layR, if_neg (fun h => hx h.1)], Same.rf⟩
set_option maxHeartbeats 4000000 in
set_option maxRecDepth 100000 in
theorem c_X9_row {E : Ev} {μ : Mem} {s : Row} (hs : μ 68 = s) {n mk : Nat} {code : PCo} (hI : Inv s n code mk) {x k v : Int32} : AM E yX9_row cX9_row 4 (some .int) 2 [.ref 67, .int x, .int k, .int v] μ (fun r μ' => r = some (.int (rowA s x k v)) ∧ μ' 68 = rowR s x k v ∧ Same MM μ μ') := by
  refine am_of (own := RX9) (L := [.ref 67, .int x, .int k, .int v]) (by decide) rfl (Nat.le_of_ble_eq_true rfl) rfl (fun Γ hR => ?_)
  subst hs
  have hI0 := hI
  obtain ⟨hIL, hIP, hIC, hIS, hIW, hIB, hIT⟩ := hI
  have hn := hIL.1
  have h6 := hIL.2.1
  by_cases hx : 0 ≤ x ∧ x < μ 68 31
  · by_cases hk : 0 ≤ k ∧ k < 4
    · have hk' : 0 ≤ k ∧ k ≤ 3 := ⟨hk.1, i_le3.mpr hk.2⟩
      by_cases hv : 0 ≤ v ∧ v ≤ 9
      · obtain ⟨p, hp, rfl⟩ := isM_of hn h6 hx
        obtain ⟨q, hq, rfl⟩ := ix_of (n := 4) (by decide) hk
        have a1 : nN (nI p) = p := nN_nI (by omega)
        have a2 : nN (nI q) = q := nN_nI (by omega)
        by_cases hk6 : μ 68 (39 + p) = 6
        · refine cw_aload_n (pc := 0) dX9_row_0 rfl rfl <|
            cw_iload_n (pc := 1) dX9_row_1 rfl rfl <|
            cw_invI (q := 67) (pc := 2) dX9_row_2 (c_X9_isMan hn h6) rfl vX9_162 sh_67 (by decide) rfl rfl rfl (by decide) <|
            cw_if_eq_F (tgt := 17) (pc := 5) dX9_row_5 (by decide) (bI_n0.mpr hx) <|
            cw_iload_n (pc := 8) dX9_row_8 rfl rfl <|
            cw_iconst (v := 0) (pc := 9) dX9_row_9 (by decide) <|
            cw_iconst (v := 3) (pc := 10) dX9_row_10 (by decide) <|
            cw_insI (pc := 11) dX9_row_11 c_X9_in vX9_44 rfl rfl rfl (by decide) <|
            cw_if_ne_T (tgt := 19) (pc := 14) dX9_row_14 (by decide) (bI_n0.mpr hk') <|
            cw_iload_n (pc := 19) dX9_row_19 rfl rfl <|
            cw_iconst (v := 0) (pc := 20) dX9_row_20 (by decide) <|
            cw_bipush (v := 9) (pc := 21) dX9_row_21 (by decide) <|
            cw_insI (pc := 23) dX9_row_23 c_X9_in vX9_44 rfl rfl rfl (by decide) <|
            cw_if_ne_T (tgt := 32) (pc := 26) dX9_row_26 (by decide) (bI_n0.mpr hv) <|
            cw_aload_n (pc := 32) dX9_row_32 rfl rfl <|
            cw_getR (q := 67) (t := 68) (pc := 33) dX9_row_33 fX9_9 sh_67 (by decide) rfl <|
            cw_bipush (v := 39) (pc := 36) dX9_row_36 (by decide) <|
            cw_iload_n (pc := 38) dX9_row_38 rfl rfl <|
            cw_iadd (pc := 39) dX9_row_39 <|
            cw_ial (q := 68) (jn := (39 + p)) (pc := 40) dX9_row_40 sh_68 (nx_add rfl rfl) (by omega) (by decide) <|
            cw_bipush (v := 6) (pc := 41) dX9_row_41 (by decide) <|
            cw_icmp_ne_F (tgt := 62) (pc := 43) dX9_row_43 (by decide) hk6 <|
            cw_aload_n (pc := 46) dX9_row_46 rfl rfl <|
            cw_bipush (v := 57) (pc := 47) dX9_row_47 (by decide) <|
            cw_iconst (v := 4) (pc := 49) dX9_row_49 (by decide) <|
            cw_iload_n (pc := 50) dX9_row_50 rfl rfl <|
            cw_imul (pc := 51) dX9_row_51 <|
            cw_iadd (pc := 52) dX9_row_52 <|
            cw_iload_n (pc := 53) dX9_row_53 rfl rfl <|
            cw_iadd (pc := 54) dX9_row_54 <|
            ?_
          rw [show (57 : Int32) + 4 * nI p + nI q = nI (57 + (p * 4 + q)) by rw [show (57 : Int32) + 4 * nI p + nI q = nI (57 + 4 * p + q) from nx_add (nx_add rfl (nx_mul rfl rfl)) rfl]; congr 1; omega]
          refine cw_iload_n (pc := 55) dX9_row_55 rfl rfl <|
            cw_invI (q := 67) (pc := 56) dX9_row_56 (c_X9_becomes rfl (j := 57 + (p * 4 + q)) (by omega)) rfl vX9_166 sh_67 (by decide) rfl rfl rfl (by decide) <|
            cw_goto (tgt := 64) (pc := 59) dX9_row_59 (by decide) <|
            cw_iret (pc := 64) dX9_row_64 hR <|
            ⟨by rw [rowA, if_pos ⟨hx, hk⟩, if_pos hv, a1, a2, if_pos hk6], by rw [rowR, if_pos ⟨⟨hx, hk⟩, hv, by rw [a1]; exact hk6⟩, a1, a2]; exact st_row _ _ _ _, by first | exact Same.rf | (repeat (refine Same.s1 ?_ (by unfold MM; omega))); exact Same.rf⟩
        · refine cw_aload_n (pc := 0) dX9_row_0 rfl rfl <|
            cw_iload_n (pc := 1) dX9_row_1 rfl rfl <|
            cw_invI (q := 67) (pc := 2) dX9_row_2 (c_X9_isMan hn h6) rfl vX9_162 sh_67 (by decide) rfl rfl rfl (by decide) <|
            cw_if_eq_F (tgt := 17) (pc := 5) dX9_row_5 (by decide) (bI_n0.mpr hx) <|
            cw_iload_n (pc := 8) dX9_row_8 rfl rfl <|
            cw_iconst (v := 0) (pc := 9) dX9_row_9 (by decide) <|
            cw_iconst (v := 3) (pc := 10) dX9_row_10 (by decide) <|
            cw_insI (pc := 11) dX9_row_11 c_X9_in vX9_44 rfl rfl rfl (by decide) <|
            cw_if_ne_T (tgt := 19) (pc := 14) dX9_row_14 (by decide) (bI_n0.mpr hk') <|
            cw_iload_n (pc := 19) dX9_row_19 rfl rfl <|
            cw_iconst (v := 0) (pc := 20) dX9_row_20 (by decide) <|
            cw_bipush (v := 9) (pc := 21) dX9_row_21 (by decide) <|
            cw_insI (pc := 23) dX9_row_23 c_X9_in vX9_44 rfl rfl rfl (by decide) <|
            cw_if_ne_T (tgt := 32) (pc := 26) dX9_row_26 (by decide) (bI_n0.mpr hv) <|
            cw_aload_n (pc := 32) dX9_row_32 rfl rfl <|
            cw_getR (q := 67) (t := 68) (pc := 33) dX9_row_33 fX9_9 sh_67 (by decide) rfl <|
            cw_bipush (v := 39) (pc := 36) dX9_row_36 (by decide) <|
            cw_iload_n (pc := 38) dX9_row_38 rfl rfl <|
            cw_iadd (pc := 39) dX9_row_39 <|
            cw_ial (q := 68) (jn := (39 + p)) (pc := 40) dX9_row_40 sh_68 (nx_add rfl rfl) (by omega) (by decide) <|
            cw_bipush (v := 6) (pc := 41) dX9_row_41 (by decide) <|
            cw_icmp_ne_T (tgt := 62) (pc := 43) dX9_row_43 (by decide) hk6 <|
            cw_bipush (v := -3) (pc := 62) dX9_row_62 (by decide) <|
            cw_iret (pc := 64) dX9_row_64 hR <|
            ⟨by rw [rowA, if_pos ⟨hx, hk⟩, if_pos hv, a1, if_neg hk6], by rw [rowR, if_neg (fun h => hk6 (by rw [← a1]; exact h.2.2))], Same.rf⟩
      · refine cw_aload_n (pc := 0) dX9_row_0 rfl rfl <|
          cw_iload_n (pc := 1) dX9_row_1 rfl rfl <|
          cw_invI (q := 67) (pc := 2) dX9_row_2 (c_X9_isMan hn h6) rfl vX9_162 sh_67 (by decide) rfl rfl rfl (by decide) <|
          cw_if_eq_F (tgt := 17) (pc := 5) dX9_row_5 (by decide) (bI_n0.mpr hx) <|
          cw_iload_n (pc := 8) dX9_row_8 rfl rfl <|
          cw_iconst (v := 0) (pc := 9) dX9_row_9 (by decide) <|
          cw_iconst (v := 3) (pc := 10) dX9_row_10 (by decide) <|
          cw_insI (pc := 11) dX9_row_11 c_X9_in vX9_44 rfl rfl rfl (by decide) <|
          cw_if_ne_T (tgt := 19) (pc := 14) dX9_row_14 (by decide) (bI_n0.mpr hk') <|
          cw_iload_n (pc := 19) dX9_row_19 rfl rfl <|
          cw_iconst (v := 0) (pc := 20) dX9_row_20 (by decide) <|
          cw_bipush (v := 9) (pc := 21) dX9_row_21 (by decide) <|
          cw_insI (pc := 23) dX9_row_23 c_X9_in vX9_44 rfl rfl rfl (by decide) <|
          cw_if_ne_F (tgt := 32) (pc := 26) dX9_row_26 (by decide) (bI_0.mpr hv) <|
          cw_bipush (v := -2) (pc := 29) dX9_row_29 (by decide) <|
          cw_iret (pc := 31) dX9_row_31 hR <|
          ⟨by rw [rowA, if_pos ⟨hx, hk⟩, if_neg hv], by rw [rowR, if_neg (fun h => hv h.2.1)], Same.rf⟩
    · refine cw_aload_n (pc := 0) dX9_row_0 rfl rfl <|
        cw_iload_n (pc := 1) dX9_row_1 rfl rfl <|
        cw_invI (q := 67) (pc := 2) dX9_row_2 (c_X9_isMan hn h6) rfl vX9_162 sh_67 (by decide) rfl rfl rfl (by decide) <|
        cw_if_eq_F (tgt := 17) (pc := 5) dX9_row_5 (by decide) (bI_n0.mpr hx) <|
        cw_iload_n (pc := 8) dX9_row_8 rfl rfl <|
        cw_iconst (v := 0) (pc := 9) dX9_row_9 (by decide) <|
        cw_iconst (v := 3) (pc := 10) dX9_row_10 (by decide) <|
        cw_insI (pc := 11) dX9_row_11 c_X9_in vX9_44 rfl rfl rfl (by decide) <|
        cw_if_ne_F (tgt := 19) (pc := 14) dX9_row_14 (by decide) (bI_0.mpr (fun h => hk ⟨h.1, i_le3.mp h.2⟩)) <|
        cw_iconst (v := -1) (pc := 17) dX9_row_17 (by decide) <|
        cw_iret (pc := 18) dX9_row_18 hR <|
        ⟨by rw [rowA, if_neg (fun h => hk h.2)], by rw [rowR, if_neg (fun h => hk h.1.2)], Same.rf⟩
  · refine cw_aload_n (pc := 0) dX9_row_0 rfl rfl <|
      cw_iload_n (pc := 1) dX9_row_1 rfl rfl <|
      cw_invI (q := 67) (pc := 2) dX9_row_2 (c_X9_isMan hn h6) rfl vX9_162 sh_67 (by decide) rfl rfl rfl (by decide) <|
      cw_if_eq_T (tgt := 17) (pc := 5) dX9_row_5 (by decide) (bI_0.mpr hx) <|
      cw_iconst (v := -1) (pc := 17) dX9_row_17 (by decide) <|
      cw_iret (pc := 18) dX9_row_18 hR <|
      ⟨by rw [rowA, if_neg (fun h => hx h.1)], by rw [rowR, if_neg (fun h => hx h.1.1)], Same.rf⟩
set_option maxHeartbeats 4000000 in
set_option maxRecDepth 100000 in
theorem c_X9_feed {E : Ev} {μ : Mem} {s : Row} (hs : μ 68 = s) {n mk : Nat} {code : PCo} (hI : Inv s n code mk) {x : Int32} : AM E yX9_feed cX9_feed 2 (some .int) 2 [.ref 67, .int x] μ (fun r μ' => r = some (.int (feedA s x)) ∧ μ' 68 = feedR s x ∧ Same MM μ μ') := by
  refine am_of (own := RX9) (L := [.ref 67, .int x]) (by decide) rfl (Nat.le_of_ble_eq_true rfl) rfl (fun Γ hR => ?_)
  subst hs
  have hI0 := hI
  obtain ⟨hIL, hIP, hIC, hIS, hIW, hIB, hIT⟩ := hI
  have hn := hIL.1
  have h6 := hIL.2.1
  obtain ⟨k, hk, e37, -⟩ := hIT
  have hfl := full_iff (m := 100) e37 hk (by decide)
  have hnk : nN (μ 68 37) = k := by rw [e37]; exact nN_nI (by omega)
  by_cases hx : 0 ≤ x ∧ x ≤ 127
  · by_cases hf : μ 68 37 = 100
    · refine cw_iload_n (pc := 0) dX9_feed_0 rfl rfl <|
        cw_iconst (v := 0) (pc := 1) dX9_feed_1 (by decide) <|
        cw_bipush (v := 127) (pc := 2) dX9_feed_2 (by decide) <|
        cw_insI (pc := 4) dX9_feed_4 c_X9_in vX9_44 rfl rfl rfl (by decide) <|
        cw_if_ne_T (tgt := 13) (pc := 7) dX9_feed_7 (by decide) (bI_n0.mpr hx) <|
        cw_aload_n (pc := 13) dX9_feed_13 rfl rfl <|
        cw_getR (q := 67) (t := 68) (pc := 14) dX9_feed_14 fX9_9 sh_67 (by decide) rfl <|
        cw_bipush (v := 37) (pc := 17) dX9_feed_17 (by decide) <|
        cw_ial (q := 68) (jn := 37) (pc := 19) dX9_feed_19 sh_68 rfl (by decide) (by decide) <|
        cw_bipush (v := 100) (pc := 20) dX9_feed_20 (by decide) <|
        cw_icmp_ne_F (tgt := 28) (pc := 22) dX9_feed_22 (by decide) hf <|
        cw_bipush (v := -4) (pc := 25) dX9_feed_25 (by decide) <|
        cw_iret (pc := 27) dX9_feed_27 hR <|
        ⟨by rw [feedA, if_pos hx, if_pos hf], by rw [feedR, if_neg (fun h => h.2 hf)], Same.rf⟩
    · have hk2 := hfl.mp hf
      have r37 : (st μ 68 (138 + k) x) 68 37 = nI k := (st_at.trans (if_neg (by omega))).trans e37
      refine cw_iload_n (pc := 0) dX9_feed_0 rfl rfl <|
        cw_iconst (v := 0) (pc := 1) dX9_feed_1 (by decide) <|
        cw_bipush (v := 127) (pc := 2) dX9_feed_2 (by decide) <|
        cw_insI (pc := 4) dX9_feed_4 c_X9_in vX9_44 rfl rfl rfl (by decide) <|
        cw_if_ne_T (tgt := 13) (pc := 7) dX9_feed_7 (by decide) (bI_n0.mpr hx) <|
        cw_aload_n (pc := 13) dX9_feed_13 rfl rfl <|
        cw_getR (q := 67) (t := 68) (pc := 14) dX9_feed_14 fX9_9 sh_67 (by decide) rfl <|
        cw_bipush (v := 37) (pc := 17) dX9_feed_17 (by decide) <|
        cw_ial (q := 68) (jn := 37) (pc := 19) dX9_feed_19 sh_68 rfl (by decide) (by decide) <|
        cw_bipush (v := 100) (pc := 20) dX9_feed_20 (by decide) <|
        cw_icmp_ne_T (tgt := 28) (pc := 22) dX9_feed_22 (by decide) hf <|
        cw_aload_n (pc := 28) dX9_feed_28 rfl rfl <|
        cw_getR (q := 67) (t := 68) (pc := 29) dX9_feed_29 fX9_9 sh_67 (by decide) rfl <|
        cw_sipush (v := 138) (pc := 32) dX9_feed_32 (by decide) <|
        cw_aload_n (pc := 35) dX9_feed_35 rfl rfl <|
        cw_getR (q := 67) (t := 68) (pc := 36) dX9_feed_36 fX9_9 sh_67 (by decide) rfl <|
        cw_bipush (v := 37) (pc := 39) dX9_feed_39 (by decide) <|
        cw_ial (q := 68) (jn := 37) (pc := 41) dX9_feed_41 sh_68 rfl (by decide) (by decide) <|
        ?_
      rw [e37]
      refine cw_iadd (pc := 42) dX9_feed_42 <|
        cw_iload_n (pc := 43) dX9_feed_43 rfl rfl <|
        cw_ias (q := 68) (jn := (138 + k)) (pc := 44) dX9_feed_44 sh_68 (nx_add rfl rfl) (by omega) (by decide) <|
        cw_aload_n (pc := 45) dX9_feed_45 rfl rfl <|
        cw_getR (q := 67) (t := 68) (pc := 46) dX9_feed_46 fX9_9 sh_67 (by decide) rfl <|
        cw_bipush (v := 37) (pc := 49) dX9_feed_49 (by decide) <|
        cw_dup2 (pc := 51) dX9_feed_51 rfl rfl <|
        cw_ial (q := 68) (jn := 37) (pc := 52) dX9_feed_52 sh_68 rfl (by decide) (by decide) <|
        ?_
      rw [r37]
      refine cw_iconst (v := 1) (pc := 53) dX9_feed_53 (by decide) <|
        cw_iadd (pc := 54) dX9_feed_54 <|
        cw_ias (q := 68) (jn := 37) (pc := 55) dX9_feed_55 sh_68 rfl (by decide) (by decide) <|
        cw_aload_n (pc := 56) dX9_feed_56 rfl rfl <|
        cw_getR (q := 67) (t := 68) (pc := 57) dX9_feed_57 fX9_9 sh_67 (by decide) rfl <|
        cw_bipush (v := 37) (pc := 60) dX9_feed_60 (by decide) <|
        cw_ial (q := 68) (jn := 37) (pc := 62) dX9_feed_62 sh_68 rfl (by decide) (by decide) <|
        ?_
      rw [st_eq]
      refine cw_iret (pc := 63) dX9_feed_63 hR <|
        ⟨by rw [feedA, if_pos hx, if_neg hf, e37], by rw [feedR, if_pos ⟨hx, hf⟩, hnk, st_row, st_row, e37], by first | exact Same.rf | (repeat (refine Same.s1 ?_ (by unfold MM; omega))); exact Same.rf⟩
  · refine cw_iload_n (pc := 0) dX9_feed_0 rfl rfl <|
      cw_iconst (v := 0) (pc := 1) dX9_feed_1 (by decide) <|
      cw_bipush (v := 127) (pc := 2) dX9_feed_2 (by decide) <|
      cw_insI (pc := 4) dX9_feed_4 c_X9_in vX9_44 rfl rfl rfl (by decide) <|
      cw_if_ne_F (tgt := 13) (pc := 7) dX9_feed_7 (by decide) (bI_0.mpr hx) <|
      cw_bipush (v := -2) (pc := 10) dX9_feed_10 (by decide) <|
      cw_iret (pc := 12) dX9_feed_12 hR <|
      ⟨by rw [feedA, if_neg hx], by rw [feedR, if_neg (fun h => hx h.1)], Same.rf⟩
set_option maxHeartbeats 4000000 in
set_option maxRecDepth 100000 in
theorem c_X9_plead {E : Ev} {μ : Mem} {s : Row} (hs : μ 68 = s) {n mk : Nat} {code : PCo} (hI : Inv s n code mk) {a b : Int32} : AM E yX9_plead cX9_plead 3 (some .int) 2 [.ref 67, .int a, .int b] μ (fun r μ' => r = some (.int (pleadA s a b)) ∧ μ' 68 = pleadR s a b ∧ Same MM μ μ') := by
  refine am_of (own := RX9) (L := [.ref 67, .int a, .int b]) (by decide) rfl (Nat.le_of_ble_eq_true rfl) rfl (fun Γ hR => ?_)
  subst hs
  have hI0 := hI
  obtain ⟨hIL, hIP, hIC, hIS, hIW, hIB, hIT⟩ := hI
  have hn := hIL.1
  have h6 := hIL.2.1
  obtain ⟨k, hk, e33, -⟩ := hIC
  have hfl := full_iff (m := 5) e33 hk (by decide)
  have hnk : nN (μ 68 33) = k := by rw [e33]; exact nN_nI (by omega)
  by_cases ha : 0 ≤ a ∧ a < μ 68 31
  · by_cases hb : 0 ≤ b ∧ b < μ 68 31
    · by_cases hab : a = b
      · refine cw_aload_n (pc := 0) dX9_plead_0 rfl rfl <|
          cw_iload_n (pc := 1) dX9_plead_1 rfl rfl <|
          cw_invI (q := 67) (pc := 2) dX9_plead_2 (c_X9_isMan hn h6) rfl vX9_162 sh_67 (by decide) rfl rfl rfl (by decide) <|
          cw_if_eq_F (tgt := 16) (pc := 5) dX9_plead_5 (by decide) (bI_n0.mpr ha) <|
          cw_aload_n (pc := 8) dX9_plead_8 rfl rfl <|
          cw_iload_n (pc := 9) dX9_plead_9 rfl rfl <|
          cw_invI (q := 67) (pc := 10) dX9_plead_10 (c_X9_isMan hn h6) rfl vX9_162 sh_67 (by decide) rfl rfl rfl (by decide) <|
          cw_if_ne_T (tgt := 18) (pc := 13) dX9_plead_13 (by decide) (bI_n0.mpr hb) <|
          cw_iload_n (pc := 18) dX9_plead_18 rfl rfl <|
          cw_iload_n (pc := 19) dX9_plead_19 rfl rfl <|
          cw_icmp_ne_F (tgt := 26) (pc := 20) dX9_plead_20 (by decide) hab <|
          cw_bipush (v := -2) (pc := 23) dX9_plead_23 (by decide) <|
          cw_iret (pc := 25) dX9_plead_25 hR <|
          ⟨by rw [pleadA, if_pos ⟨ha, hb⟩, if_pos hab], by rw [pleadR, if_neg (fun h => h.2.1 hab)], Same.rf⟩
      · by_cases hf : μ 68 33 = 5
        · refine cw_aload_n (pc := 0) dX9_plead_0 rfl rfl <|
            cw_iload_n (pc := 1) dX9_plead_1 rfl rfl <|
            cw_invI (q := 67) (pc := 2) dX9_plead_2 (c_X9_isMan hn h6) rfl vX9_162 sh_67 (by decide) rfl rfl rfl (by decide) <|
            cw_if_eq_F (tgt := 16) (pc := 5) dX9_plead_5 (by decide) (bI_n0.mpr ha) <|
            cw_aload_n (pc := 8) dX9_plead_8 rfl rfl <|
            cw_iload_n (pc := 9) dX9_plead_9 rfl rfl <|
            cw_invI (q := 67) (pc := 10) dX9_plead_10 (c_X9_isMan hn h6) rfl vX9_162 sh_67 (by decide) rfl rfl rfl (by decide) <|
            cw_if_ne_T (tgt := 18) (pc := 13) dX9_plead_13 (by decide) (bI_n0.mpr hb) <|
            cw_iload_n (pc := 18) dX9_plead_18 rfl rfl <|
            cw_iload_n (pc := 19) dX9_plead_19 rfl rfl <|
            cw_icmp_ne_T (tgt := 26) (pc := 20) dX9_plead_20 (by decide) hab <|
            cw_aload_n (pc := 26) dX9_plead_26 rfl rfl <|
            cw_getR (q := 67) (t := 68) (pc := 27) dX9_plead_27 fX9_9 sh_67 (by decide) rfl <|
            cw_bipush (v := 33) (pc := 30) dX9_plead_30 (by decide) <|
            cw_ial (q := 68) (jn := 33) (pc := 32) dX9_plead_32 sh_68 rfl (by decide) (by decide) <|
            cw_iconst (v := 5) (pc := 33) dX9_plead_33 (by decide) <|
            cw_icmp_ne_F (tgt := 40) (pc := 34) dX9_plead_34 (by decide) hf <|
            cw_bipush (v := -4) (pc := 37) dX9_plead_37 (by decide) <|
            cw_iret (pc := 39) dX9_plead_39 hR <|
            ⟨by rw [pleadA, if_pos ⟨ha, hb⟩, if_neg hab, if_pos hf], by rw [pleadR, if_neg (fun h => h.2.2 hf)], Same.rf⟩
        · have hk2 := hfl.mp hf
          have r1 : (st μ 68 (81 + k) a) 68 33 = nI k := (st_at.trans (if_neg (by omega))).trans e33
          have r2 : (st (st μ 68 (81 + k) a) 68 (86 + k) b) 68 33 = nI k := (st_at.trans (if_neg (by omega))).trans r1
          refine cw_aload_n (pc := 0) dX9_plead_0 rfl rfl <|
            cw_iload_n (pc := 1) dX9_plead_1 rfl rfl <|
            cw_invI (q := 67) (pc := 2) dX9_plead_2 (c_X9_isMan hn h6) rfl vX9_162 sh_67 (by decide) rfl rfl rfl (by decide) <|
            cw_if_eq_F (tgt := 16) (pc := 5) dX9_plead_5 (by decide) (bI_n0.mpr ha) <|
            cw_aload_n (pc := 8) dX9_plead_8 rfl rfl <|
            cw_iload_n (pc := 9) dX9_plead_9 rfl rfl <|
            cw_invI (q := 67) (pc := 10) dX9_plead_10 (c_X9_isMan hn h6) rfl vX9_162 sh_67 (by decide) rfl rfl rfl (by decide) <|
            cw_if_ne_T (tgt := 18) (pc := 13) dX9_plead_13 (by decide) (bI_n0.mpr hb) <|
            cw_iload_n (pc := 18) dX9_plead_18 rfl rfl <|
            cw_iload_n (pc := 19) dX9_plead_19 rfl rfl <|
            cw_icmp_ne_T (tgt := 26) (pc := 20) dX9_plead_20 (by decide) hab <|
            cw_aload_n (pc := 26) dX9_plead_26 rfl rfl <|
            cw_getR (q := 67) (t := 68) (pc := 27) dX9_plead_27 fX9_9 sh_67 (by decide) rfl <|
            cw_bipush (v := 33) (pc := 30) dX9_plead_30 (by decide) <|
            cw_ial (q := 68) (jn := 33) (pc := 32) dX9_plead_32 sh_68 rfl (by decide) (by decide) <|
            cw_iconst (v := 5) (pc := 33) dX9_plead_33 (by decide) <|
            cw_icmp_ne_T (tgt := 40) (pc := 34) dX9_plead_34 (by decide) hf <|
            cw_aload_n (pc := 40) dX9_plead_40 rfl rfl <|
            cw_getR (q := 67) (t := 68) (pc := 41) dX9_plead_41 fX9_9 sh_67 (by decide) rfl <|
            cw_bipush (v := 81) (pc := 44) dX9_plead_44 (by decide) <|
            cw_aload_n (pc := 46) dX9_plead_46 rfl rfl <|
            cw_getR (q := 67) (t := 68) (pc := 47) dX9_plead_47 fX9_9 sh_67 (by decide) rfl <|
            cw_bipush (v := 33) (pc := 50) dX9_plead_50 (by decide) <|
            cw_ial (q := 68) (jn := 33) (pc := 52) dX9_plead_52 sh_68 rfl (by decide) (by decide) <|
            ?_
          rw [e33]
          refine cw_iadd (pc := 53) dX9_plead_53 <|
            cw_iload_n (pc := 54) dX9_plead_54 rfl rfl <|
            cw_ias (q := 68) (jn := (81 + k)) (pc := 55) dX9_plead_55 sh_68 (nx_add rfl rfl) (by omega) (by decide) <|
            cw_aload_n (pc := 56) dX9_plead_56 rfl rfl <|
            cw_getR (q := 67) (t := 68) (pc := 57) dX9_plead_57 fX9_9 sh_67 (by decide) rfl <|
            cw_bipush (v := 86) (pc := 60) dX9_plead_60 (by decide) <|
            cw_aload_n (pc := 62) dX9_plead_62 rfl rfl <|
            cw_getR (q := 67) (t := 68) (pc := 63) dX9_plead_63 fX9_9 sh_67 (by decide) rfl <|
            cw_bipush (v := 33) (pc := 66) dX9_plead_66 (by decide) <|
            cw_ial (q := 68) (jn := 33) (pc := 68) dX9_plead_68 sh_68 rfl (by decide) (by decide) <|
            ?_
          rw [r1]
          refine cw_iadd (pc := 69) dX9_plead_69 <|
            cw_iload_n (pc := 70) dX9_plead_70 rfl rfl <|
            cw_ias (q := 68) (jn := (86 + k)) (pc := 71) dX9_plead_71 sh_68 (nx_add rfl rfl) (by omega) (by decide) <|
            cw_aload_n (pc := 72) dX9_plead_72 rfl rfl <|
            cw_getR (q := 67) (t := 68) (pc := 73) dX9_plead_73 fX9_9 sh_67 (by decide) rfl <|
            cw_bipush (v := 33) (pc := 76) dX9_plead_76 (by decide) <|
            cw_dup2 (pc := 78) dX9_plead_78 rfl rfl <|
            cw_ial (q := 68) (jn := 33) (pc := 79) dX9_plead_79 sh_68 rfl (by decide) (by decide) <|
            ?_
          rw [r2]
          refine cw_iconst (v := 1) (pc := 80) dX9_plead_80 (by decide) <|
            cw_iadd (pc := 81) dX9_plead_81 <|
            cw_ias (q := 68) (jn := 33) (pc := 82) dX9_plead_82 sh_68 rfl (by decide) (by decide) <|
            cw_aload_n (pc := 83) dX9_plead_83 rfl rfl <|
            cw_getR (q := 67) (t := 68) (pc := 84) dX9_plead_84 fX9_9 sh_67 (by decide) rfl <|
            cw_bipush (v := 33) (pc := 87) dX9_plead_87 (by decide) <|
            cw_ial (q := 68) (jn := 33) (pc := 89) dX9_plead_89 sh_68 rfl (by decide) (by decide) <|
            ?_
          rw [st_eq]
          refine cw_iconst (v := 1) (pc := 90) dX9_plead_90 (by decide) <|
            cw_isub (pc := 91) dX9_plead_91 <|
            cw_iret (pc := 92) dX9_plead_92 hR <|
            ⟨by rw [pleadA, if_pos ⟨ha, hb⟩, if_neg hab, if_neg hf, e33, nI_1, nI_pred], by rw [pleadR, if_pos ⟨⟨ha, hb⟩, hab, hf⟩, hnk, st_row, st_row, st_row, e33], by first | exact Same.rf | (repeat (refine Same.s1 ?_ (by unfold MM; omega))); exact Same.rf⟩
    · refine cw_aload_n (pc := 0) dX9_plead_0 rfl rfl <|
        cw_iload_n (pc := 1) dX9_plead_1 rfl rfl <|
        cw_invI (q := 67) (pc := 2) dX9_plead_2 (c_X9_isMan hn h6) rfl vX9_162 sh_67 (by decide) rfl rfl rfl (by decide) <|
        cw_if_eq_F (tgt := 16) (pc := 5) dX9_plead_5 (by decide) (bI_n0.mpr ha) <|
        cw_aload_n (pc := 8) dX9_plead_8 rfl rfl <|
        cw_iload_n (pc := 9) dX9_plead_9 rfl rfl <|
        cw_invI (q := 67) (pc := 10) dX9_plead_10 (c_X9_isMan hn h6) rfl vX9_162 sh_67 (by decide) rfl rfl rfl (by decide) <|
        cw_if_ne_F (tgt := 18) (pc := 13) dX9_plead_13 (by decide) (bI_0.mpr hb) <|
        cw_iconst (v := -1) (pc := 16) dX9_plead_16 (by decide) <|
        cw_iret (pc := 17) dX9_plead_17 hR <|
        ⟨by rw [pleadA, if_neg (fun h => hb h.2)], by rw [pleadR, if_neg (fun h => hb h.1.2)], Same.rf⟩
  · refine cw_aload_n (pc := 0) dX9_plead_0 rfl rfl <|
      cw_iload_n (pc := 1) dX9_plead_1 rfl rfl <|
      cw_invI (q := 67) (pc := 2) dX9_plead_2 (c_X9_isMan hn h6) rfl vX9_162 sh_67 (by decide) rfl rfl rfl (by decide) <|
      cw_if_eq_T (tgt := 16) (pc := 5) dX9_plead_5 (by decide) (bI_0.mpr ha) <|
      cw_iconst (v := -1) (pc := 16) dX9_plead_16 (by decide) <|
      cw_iret (pc := 17) dX9_plead_17 hR <|
      ⟨by rw [pleadA, if_neg (fun h => ha h.1)], by rw [pleadR, if_neg (fun h => ha h.1.1)], Same.rf⟩
