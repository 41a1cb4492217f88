theorem uu {f : Row} {k : Nat} {x y : Int32} : upd (upd f k x) k y = upd f k y := by
  funext j
  by_cases e : j = k
  · subst e; rw [us, us]
  · rw [un e, un e, un e]
theorem uself {f : Row} {k : Nat} : upd f k (f k) = f := by
  funext j
  by_cases e : j = k
  · subst e; rw [us]
  · rw [un e]
theorem scS_cg {s t : Row} {code : PCo} {yr : Int32} {p l : Nat} (h : ∀ i, 19 ≤ i → t i = s i) : scS t code yr p l = scS s code yr p l := by
  unfold scS
  rw [show (fun p => t (39 + p)) = fun p => s (39 + p) from funext fun p => h _ (by omega), show (fun p => t (45 + p)) = fun p => s (45 + p) from funext fun p => h _ (by omega), show (fun j => t (57 + j)) = fun j => s (57 + j) from funext fun p => h _ (by omega), show (fun x => t (19 + x)) = fun x => s (19 + x) from funext fun p => h _ (by omega)]
theorem pgS_cg {s t : Row} {p : Nat} (h : ∀ i, 19 ≤ i → t i = s i) : pgS t p = pgS s p := by unfold pgS; rw [h _ (by omega)]
theorem evo_nN {s : Row} {code : PCo} {mk : Int32} {n k : Nat} (hb : nN (s 0) + k < 2 ^ 31) : nN (evo s code mk n k 0) = nN (s 0) + k := by rw [evo_y, nN_nI hb]
theorem bsY_evo {s : Row} {code : PCo} {mk : Int32} {n k j : Nat} (h6 : n ≤ 6) (hb : nN (s 0) + k < 2 ^ 31) : bsY (evo s code mk n k) code n j = bsY s code n (k + j) := by
  unfold bsY
  refine congrArg Prod.fst (bestF_congr (fun p hp => by unfold naS; rw [evo_o (by omega)]) (fun p hp _ => ?_))
  rw [evo_nN hb, scS_cg (fun i h => evo_o (by omega)), pgS_cg (fun i h => evo_o (by omega)), Nat.add_assoc]
theorem blY_evo {s : Row} {code : PCo} {mk mk' : Int32} {n k j p : Nat} (hp : p < 6) (hb : nN (s 0) + k < 2 ^ 31) : blY (evo s code mk n k) code mk' n j p = blY s code mk' n (k + j) p := by
  unfold blY
  rw [evo_nN hb, scS_cg (fun i h => evo_o (by omega)), pgS_cg (fun i h => evo_o (by omega)), Nat.add_assoc]
  unfold naS
  rw [evo_o (by omega)]
theorem evo_0 {s : Row} {code : PCo} {mk : Int32} {n Y M : Nat} (hi : InvL s n Y M) (hY : Y < 2 ^ 31) (hM : M < 2 ^ 31) : evo s code mk n 0 = s := by
  funext i
  obtain ⟨h1, h2, ⟨y, hy, ey⟩, h4, h5, h6, h7⟩ := hi
  by_cases e0 : i = 0
  · subst e0; rw [evo_y, ey, nN_nI (by omega)]; rfl
  · by_cases e1 : 1 ≤ i ∧ i ≤ 6
    · unfold evo; rw [if_neg e0, if_pos e1, if_pos rfl]
    · by_cases e2 : 13 ≤ i ∧ i ≤ 18
      · obtain ⟨w, hw, ew⟩ := h6 (i - 13) (by omega)
        rw [show 13 + (i - 13) = i by omega] at ew
        unfold evo; rw [if_neg e0, if_neg e1, if_pos e2, ew, nN_nI (by omega)]; rfl
      · unfold evo; rw [if_neg e0, if_neg e1, if_neg e2]
theorem evo_1 {s : Row} {code : PCo} {mk : Int32} {n Y M k : Nat} (hi : InvL s n Y M) (hY : Y + k < 2 ^ 30) (hM : M + k < 2 ^ 30) : evo (evo s code mk n k) code mk n 1 = evo s code mk n (k + 1) := by
  funext i
  obtain ⟨h1, h2, ⟨y, hy, ey⟩, h4, h5, h6, h7⟩ := hi
  have hb : nN (s 0) + k < 2 ^ 31 := by rw [ey, nN_nI (by omega)]; omega
  by_cases e0 : i = 0
  · subst e0; rw [evo_y, evo_nN hb, evo_y, Nat.add_assoc]
  · by_cases e1 : 1 ≤ i ∧ i ≤ 6
    · obtain ⟨p, hp, rfl⟩ : ∃ p, p < 6 ∧ i = 1 + p := ⟨i - 1, by omega, by omega⟩
      rw [evo_b hp, if_neg Nat.one_ne_zero, evo_b hp, if_neg (Nat.succ_ne_zero k), blY_evo hp hb]; rfl
    · by_cases e2 : 13 ≤ i ∧ i ≤ 18
      · obtain ⟨p, hp, rfl⟩ : ∃ p, p < 6 ∧ i = 13 + p := ⟨i - 13, by omega, by omega⟩
        obtain ⟨w, hw, ew⟩ := h6 p hp
        have := cnt_le (bsY s code n) p k
        rw [evo_w hp, evo_w hp, evo_w hp, nN_nI (by rw [ew, nN_nI (by omega)]; omega)]
        simp only [cntN]
        rw [bsY_evo h2 hb, Nat.add_zero]
        congr 1; omega
      · rw [evo_o (by omega), evo_o (by omega), evo_o (by omega)]
def whenF (s : Row) (code : PCo) (mk n c : Nat) : Nat → Bool := fun k => decide (decS (evo s code (nI mk) n k) c = s (81 + c))
def whenA (s : Row) (code : PCo) (mk n : Nat) (x : Int32) : Int32 := if 0 ≤ x ∧ x < s 33 then fstI (whenF s code mk n (nN x)) 0 11 else -1
set_option maxHeartbeats 4000000 in
set_option maxRecDepth 100000 in
theorem c_X8_when {E : Ev} {μ : Mem} {s : Row} {n mk : Nat} {code : PCo} (hI : Inv s n code mk) (hR1 : Rel μ 1 s code mk) {x : Int32} : AM E yX8_when cX8_when 4 (some .int) 6 [.ref 0, .int x] μ (fun r μ' => r = some (.int (whenA s code mk n x)) ∧ Same (fun q _ => 43 ≤ q ∧ q ≤ 64) μ μ') := by
  refine am_of (own := RX8) (L := [.ref 0, .int x, .null, .null]) (by decide) rfl (Nat.le_of_ble_eq_true rfl) rfl (fun Γ hR => ?_)
  have hR0 := hR1
  obtain ⟨hIL, hIP, hIC, hIS, hIW, hIB, hIT⟩ := hI
  obtain ⟨hL, ⟨hcd, hmk⟩, hT, hC, hS, hW, hB, hnp⟩ := hR1
  have hn := hIL.1
  have h6 := hIL.2.1
  have h31 : μ 2 1 = s 31 := hL.2.1
  obtain ⟨cs, hcs, e33, hcc⟩ := hIC
  have hc2 : μ 14 2 = s 33 := hC.2.1
  by_cases hx : 0 ≤ x ∧ x < s 33
  · obtain ⟨y, hyc, rfl⟩ := ix_of (n := cs) (by omega) (by rw [← e33]; exact hx)
    obtain ⟨⟨a, ha, ea⟩, b, hb, eb⟩ := hcc y hyc
    have r1 : μ 15 (y * 2 + 0) = nI a := (hC.2.2 y (by omega)).1.trans ea
    have r2 : μ 15 (y * 2 + 1) = nI b := (hC.2.2 y (by omega)).2.trans eb
    have eA : whenA s code mk n (nI y) = fstI (whenF s code mk n y) 0 11 := by rw [whenA, if_pos hx, nN_nI (by omega)]
    refine cw_iload_n (pc := 0) dX8_when_0 rfl rfl <|
      cw_if_lt_F (tgt := 18) (pc := 1) dX8_when_1 (by decide) (nI_pos (by omega)) <|
      cw_iload_n (pc := 4) dX8_when_4 rfl rfl <|
      cw_aload_n (pc := 5) dX8_when_5 rfl rfl <|
      cw_getR (q := 0) (t := 1) (pc := 6) dX8_when_6 fX8_12 sh_0 (by decide) rfl <|
      cw_getR (q := 1) (t := 14) (pc := 9) dX8_when_9 fX8_156 sh_1 (by decide) rfl <|
      cw_getI (q := 14) (pc := 12) dX8_when_12 fX8_159 sh_14 (by decide) rfl <|
      cw_icmp_lt_T (tgt := 20) (pc := 15) dX8_when_15 (by decide) (by rw [hc2]; exact hx.2) <|
      cw_aload_n (pc := 20) dX8_when_20 rfl rfl <|
      cw_getR (q := 0) (t := 1) (pc := 21) dX8_when_21 fX8_12 sh_0 (by decide) rfl <|
      cw_getR (q := 1) (t := 14) (pc := 24) dX8_when_24 fX8_156 sh_1 (by decide) rfl <|
      cw_iload_n (pc := 27) dX8_when_27 rfl rfl <|
      cw_iconst (v := 0) (pc := 28) dX8_when_28 (by decide) <|
      cw_invI (q := 14) (pc := 29) dX8_when_29 (c_X6_at row_14 (w := 2) (sz := cs) (row := y) (col := 0) hC.1 (by decide) (hc2.trans e33) (by omega) (by omega) hyc (by decide)) rfl vX8_206 sh_14 (by decide) rfl rfl rfl (by decide) <|
      ?_
    rw [r1]
    refine cw_istore_n (L' := [_, _, _, _]) (pc := 32) dX8_when_32 rfl (by decide) rfl rfl <|
      cw_aload_n (pc := 33) dX8_when_33 rfl rfl <|
      cw_getR (q := 0) (t := 43) (pc := 34) dX8_when_34 fX8_42 sh_0 (by decide) rfl <|
      cw_aload_n (pc := 37) dX8_when_37 rfl rfl <|
      cw_getR (q := 0) (t := 2) (pc := 38) dX8_when_38 fX8_25 sh_0 (by decide) rfl <|
      cw_invP (q := 43) (pc := 41) dX8_when_41 (c_copy hL) rfl vX8_202 sh_43 (by decide) rfl rfl rfl (by decide) <|
      ?_
    rintro _ m0 ⟨rfl, l0, s0⟩
    refine cw_iconst (v := 0) (pc := 44) dX8_when_44 (by decide) <|
      cw_istore_n (L' := [_, _, _, _]) (pc := 45) dX8_when_45 rfl (by decide) rfl rfl <|
      ?_
    refine cw_for (σ := Int32) 11 (fun i v m => v = nI i ∧ RelL m 43 (evo s code (nI mk) n i) ∧ Same (fun q _ => 43 ≤ q ∧ q ≤ 57) μ m ∧ fstI (whenF s code mk n y) 0 11 = fstI (whenF s code mk n y) i (11 - i)) (fun _ v => [.ref 0, .int (nI y), .int (nI a), .int v]) ?_ ?_ 0 0 m0 (Nat.zero_le _) ⟨rfl, by rw [evo_0 hIL (by decide) (by decide)]; exact l0, s0.mo (fun q i h => by omega), rfl⟩
    · rintro v m ⟨hv, l1, s1, hf⟩
      subst hv
      refine cw_iload_n (pc := 46) dX8_when_46 rfl rfl <|
        cw_bipush (v := 10) (pc := 47) dX8_when_47 (by decide) <|
        cw_icmp_gt_T (tgt := 86) (pc := 49) dX8_when_49 (by decide) (nI_lt (a := 10) (b := 11) (by decide) (by decide)) <|
        cw_bipush (v := -5) (pc := 86) dX8_when_86 (by decide) <|
        cw_iret (pc := 88) dX8_when_88 hR <|
        ⟨by rw [eA, hf]; rfl, s1.mo (fun q i h => by omega)⟩
    · rintro i v m hi ⟨hv, l1, s1, hf⟩ ih
      subst hv
      rw [fstI_s hi] at hf
      have iv := hIL.evo (code := code) (mk := nI mk) i (by omega) (by omega)
      have edc : decI (beS (evo s code (nI mk) n i)) a b = decS (evo s code (nI mk) n i) y := by rw [decS_evo, ea, eb, nN_nI (by omega), nN_nI (by omega)]
      have hcm := hcd.mo (μ' := m) (funext fun i => s1 _ _ (by omega)) (funext fun i => s1 _ _ (by omega)) (funext fun i => s1 _ _ (by omega))
      refine cw_iload_n (pc := 46) dX8_when_46 rfl rfl <|
        cw_bipush (v := 10) (pc := 47) dX8_when_47 (by decide) <|
        cw_icmp_gt_F (tgt := 86) (pc := 49) dX8_when_49 (by decide) (nI_nlt (a := 10) (b := i) (by omega) (by decide)) <|
        cw_aload_n (pc := 52) dX8_when_52 rfl rfl <|
        cw_iload_n (pc := 53) dX8_when_53 rfl rfl <|
        cw_aload_n (pc := 54) dX8_when_54 rfl rfl <|
        cw_getR (q := 0) (t := 43) (pc := 55) dX8_when_55 fX8_42 sh_0 (by decide) rfl <|
        cw_getI (q := 43) (pc := 58) dX8_when_58 fX8_136 sh_43 (by decide) rfl <|
        ?_
      rw [l1.2.2.2.1]
      refine cw_invI (q := 0) (pc := 61) dX8_when_61 (c_X8_decided (f := beS (evo s code (nI mk) n i)) ((s1 _ _ (by omega)).trans hC.1) ((s1 _ _ (by omega)).trans (hc2.trans e33)) hcs hyc ((s1 _ _ (by omega)).trans r1) ((s1 _ _ (by omega)).trans r2) (by omega) (by omega)) rfl vX8_162 sh_0 (by decide) rfl rfl rfl (by decide) <|
        ?_
      rw [edc]
      refine cw_iload_n (pc := 64) dX8_when_64 rfl rfl <|
        cw_icmp_ne (tgt := 70) (pc := 65) dX8_when_65 (by decide) (fun c65 => ?_) (fun c65 => ?_)
      · refine cw_aload_n (pc := 70) dX8_when_70 rfl rfl <|
          cw_getR (q := 0) (t := 54) (pc := 71) dX8_when_71 fX8_45 sh_0 (by decide) rfl <|
          cw_iconst (v := 1) (pc := 74) dX8_when_74 (by decide) <|
          cw_ldc (pc := 75) dX8_when_75 kX8_205 <|
          cw_invP (q := 54) (pc := 77) dX8_when_77 (c_ifsYears (k := 1) hcm hIP.2.2.2 l1 iv (by omega) (by omega) (by decide) ((s1 _ _ (by omega)).trans hmk)) rfl vX8_174 sh_54 (by decide) rfl rfl rfl (by decide) <|
          ?_
        rintro _ m1 ⟨rfl, l2, s2⟩
        rw [evo_1 hIL (by omega) (by omega)] at l2
        refine cw_iincL (L' := [_, _, _, _]) (c := 1) (pc := 80) dX8_when_80 rfl (by decide) (by decide) rfl rfl <|
          cw_goto (tgt := 46) (pc := 83) dX8_when_83 (by decide) <|
          ?_
        exact ih _ _ ⟨nI_1 i, l2, s1.tr s2, by rw [hf, if_neg (by unfold whenF; rw [ea]; simpa using c65)]⟩
      · refine cw_iload_n (pc := 68) dX8_when_68 rfl rfl <|
          cw_iret (pc := 69) dX8_when_69 hR <|
          ⟨by rw [eA, hf, if_pos (by unfold whenF; rw [ea]; exact decide_eq_true c65)], s1.mo (fun q i h => by omega)⟩
  · by_cases h0 : x < 0
    · refine cw_iload_n (pc := 0) dX8_when_0 rfl rfl <|
        cw_if_lt_T (tgt := 18) (pc := 1) dX8_when_1 (by decide) h0 <|
        cw_iconst (v := -1) (pc := 18) dX8_when_18 (by decide) <|
        cw_iret (pc := 19) dX8_when_19 hR <|
        ⟨by rw [whenA, if_neg hx], Same.rf⟩
    · refine cw_iload_n (pc := 0) dX8_when_0 rfl rfl <|
        cw_if_lt_F (tgt := 18) (pc := 1) dX8_when_1 (by decide) h0 <|
        cw_iload_n (pc := 4) dX8_when_4 rfl rfl <|
        cw_aload_n (pc := 5) dX8_when_5 rfl rfl <|
        cw_getR (q := 0) (t := 1) (pc := 6) dX8_when_6 fX8_12 sh_0 (by decide) rfl <|
        cw_getR (q := 1) (t := 14) (pc := 9) dX8_when_9 fX8_156 sh_1 (by decide) rfl <|
        cw_getI (q := 14) (pc := 12) dX8_when_12 fX8_159 sh_14 (by decide) rfl <|
        cw_icmp_lt_F (tgt := 20) (pc := 15) dX8_when_15 (by decide) (by rw [hc2]; exact fun z => hx ⟨Int32.not_lt.mp h0, z⟩) <|
        cw_iconst (v := -1) (pc := 18) dX8_when_18 (by decide) <|
        cw_iret (pc := 19) dX8_when_19 hR <|
        ⟨by rw [whenA, if_neg hx], Same.rf⟩
