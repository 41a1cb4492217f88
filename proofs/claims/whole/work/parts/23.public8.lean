def cntB (f : Nat → Bool) : Nat → Nat
  | 0 => 0
  | i + 1 => cntB f i + (f i).toNat
theorem cntB_le (f : Nat → Bool) (n : Nat) : cntB f n ≤ n := by
  induction n with
  | zero => exact Nat.le_refl _
  | succ n ih => simp only [cntB]; cases f n <;> simp <;> omega
theorem cntB_s (f : Nat → Bool) (n : Nat) : cntB f (n + 1) = cntB f n + (f n).toNat := rfl
def oddsB (s : Row) (code : PCo) (mk p : Nat) (v : Int32) : Nat → Bool := fun x => decide (nI mk ≤ laidP s code p x v)
def oddsA (s : Row) (code : PCo) (mk : Nat) (x v part : Int32) : Int64 := if (0 ≤ x ∧ x < s 31) ∧ (1 ≤ v ∧ v ≤ 9) ∧ (part = 0 ∨ part = 1) then partL (nI (cntB (oddsB s code mk (nN x) v) 12)) (cntB (oddsB s code mk (nN x) v) 12) 12 part else NOl
theorem abs_nI {a : Nat} (h : a < 2 ^ 31) : (if 0 ≤ nI a then nI a else -nI a) = nI a := if_pos (nI_pos' h)
set_option maxHeartbeats 4000000 in
set_option maxRecDepth 100000 in
theorem c_X8_odds {E : Ev} {μ : Mem} {s : Row} {n mk : Nat} {code : PCo} (hI : Inv s n code mk) (hR1 : Rel μ 1 s code mk) {x v part : Int32} : AM E yX8_odds cX8_odds 6 (some .long) 6 [.ref 0, .int x, .int v, .int part] μ (fun r μ' => r = some (.long (oddsA s code mk x v part)) ∧ Same (fun q _ => 43 ≤ q ∧ q ≤ 64) μ μ') := by
  refine am_of (own := RX8) (L := [.ref 0, .int x, .int v, .int part, .null, .null]) (by decide) rfl (Nat.le_of_ble_eq_true rfl) rfl (fun Γ hR => ?_)
  have hR0 := hR1
  obtain ⟨hIL, hIP, hIC, hIS, hIW, hIB, hIT⟩ := hI
  obtain ⟨hL, ⟨hcd, hmk⟩, hT, hC, hS, hW, hB, hnp⟩ := hR1
  have hn := hIL.1
  have h6 := hIL.2.1
  have h31 : μ 2 1 = s 31 := hL.2.1
  by_cases hx : 0 ≤ x ∧ x < s 31
  · by_cases hv : 1 ≤ v ∧ v ≤ 9
    · by_cases hp : part = 0 ∨ part = 1
      · obtain ⟨p, hp', rfl⟩ := isM_of hn h6 hx
        have hp6 : p < 6 := by omega
        refine cw_aload_n (pc := 0) dX8_odds_0 rfl rfl <|
          cw_getR (q := 0) (t := 2) (pc := 1) dX8_odds_1 fX8_25 sh_0 (by decide) rfl <|
          cw_iload_n (pc := 4) dX8_odds_4 rfl rfl <|
          cw_invI (q := 2) (pc := 5) dX8_odds_5 (c_has land_2 h31 hn h6) rfl vX8_112 sh_2 (by decide) rfl rfl rfl (by decide) <|
          cw_if_eq_F (tgt := 25) (pc := 8) dX8_odds_8 (by decide) (bI_n0.mpr hx) <|
          cw_iload_n (pc := 11) dX8_odds_11 rfl rfl <|
          cw_insI (pc := 12) dX8_odds_12 c_X8_isFind vX8_209 rfl rfl rfl (by decide) <|
          cw_if_eq_F (tgt := 25) (pc := 15) dX8_odds_15 (by decide) (bI_n0.mpr hv) <|
          cw_iload_n (pc := 18) dX8_odds_18 rfl rfl <|
          cw_insI (pc := 19) dX8_odds_19 c_X8_isPart vX8_243 rfl rfl rfl (by decide) <|
          cw_if_ne_T (tgt := 29) (pc := 22) dX8_odds_22 (by decide) (bI_n0.mpr hp) <|
          cw_iconst (v := 0) (pc := 29) dX8_odds_29 (by decide) <|
          cw_istore (L' := [_, _, _, _, _, _]) (pc := 30) dX8_odds_30 (by decide) rfl rfl <|
          cw_iconst (v := 0) (pc := 32) dX8_odds_32 (by decide) <|
          cw_istore (L' := [_, _, _, _, _, _]) (pc := 33) dX8_odds_33 (by decide) rfl rfl <|
          ?_
        refine cw_for (σ := Int32 × Int32) 12 (fun i a m => a.1 = nI (cntB (oddsB s code mk p v) i) ∧ a.2 = nI i ∧ Same (fun q _ => 43 ≤ q ∧ q ≤ 64) μ m) (fun _ a => [.ref 0, .int (nI p), .int v, .int part, .int a.1, .int a.2]) ?_ ?_ 0 (0, 0) μ (Nat.zero_le _) ⟨rfl, rfl, Same.rf⟩
        · rintro ⟨g, x⟩ m ⟨hg, hx1, hS1⟩
          dsimp only at hg hx1 ⊢
          subst hg; subst hx1
          have hle := cntB_le (oddsB s code mk p v) 12
          refine cw_iload (pc := 35) dX8_odds_35 rfl <|
            cw_bipush (v := 12) (pc := 37) dX8_odds_37 (by decide) <|
            cw_icmp_ge_T (tgt := 72) (pc := 39) dX8_odds_39 (by decide) (nI_le (a := 12) (Nat.le_refl _) (by decide)) <|
            cw_iload (pc := 72) dX8_odds_72 rfl <|
            cw_bipush (v := 12) (pc := 74) dX8_odds_74 (by decide) <|
            cw_iload_n (pc := 76) dX8_odds_76 rfl rfl <|
            cw_insL (pc := 77) dX8_odds_77 (c_X8_partOf (b := 12) (abs_nI (by omega)) (by omega) (by decide)) vX8_248 rfl rfl rfl (by decide) <|
            cw_lret (pc := 80) dX8_odds_80 hR <|
            ⟨by rw [oddsA, if_pos ⟨hx, hv, hp⟩, nN_nI (by omega)], hS1⟩
        · rintro i ⟨g, x⟩ m hi ⟨hg, hx1, hS1⟩ ih
          dsimp only at hg hx1 ⊢
          subst hg; subst hx1
          have f : ∀ q, q ≤ 21 → m q = μ q := fun q h => funext fun i => hS1 _ _ (by omega)
          have hcm := hcd.mo (f _ (by omega)) (f _ (by omega)) (f _ (by omega))
          have hLm : RelL m 2 s := hL.mo (fun q a b => f q (by omega))
          refine cw_iload (pc := 35) dX8_odds_35 rfl <|
            cw_bipush (v := 12) (pc := 37) dX8_odds_37 (by decide) <|
            cw_icmp_ge_F (tgt := 72) (pc := 39) dX8_odds_39 (by decide) (nI_ge (b := 12) hi (by decide)) <|
            cw_aload_n (pc := 42) dX8_odds_42 rfl rfl <|
            cw_iload_n (pc := 43) dX8_odds_43 rfl rfl <|
            cw_iload (pc := 44) dX8_odds_44 rfl <|
            cw_iload_n (pc := 46) dX8_odds_46 rfl rfl <|
            cw_invP (q := 0) (pc := 47) dX8_odds_47 (c_X8_scoreIfLaid hLm hIL hcm hIP.2.2.2 hp' hi) rfl vX8_212 sh_0 (by decide) rfl rfl rfl (by decide) <|
            ?_
          rintro _ m1 ⟨rfl, s1⟩
          have hS2 := hS1.tr s1
          have em : m1 9 3 = nI mk := (hS2 _ _ (by omega)).trans hmk
          refine cw_aload_n (pc := 50) dX8_odds_50 rfl rfl <|
            cw_getR (q := 0) (t := 1) (pc := 51) dX8_odds_51 fX8_12 sh_0 (by decide) rfl <|
            cw_getR (q := 1) (t := 9) (pc := 54) dX8_odds_54 fX8_28 sh_1 (by decide) rfl <|
            cw_getI (q := 9) (pc := 57) dX8_odds_57 fX8_168 sh_9 (by decide) rfl <|
            ?_
          rw [em]
          refine cw_icmp_lt (tgt := 66) (pc := 60) dX8_odds_60 (by decide) (fun c60 => ?_) (fun c60 => ?_)
          · refine cw_iincL (L' := [_, _, _, _, _, _]) (c := 1) (pc := 66) dX8_odds_66 rfl (by decide) (by decide) rfl rfl <|
              cw_goto (tgt := 35) (pc := 69) dX8_odds_69 (by decide) <|
              ?_
            exact ih (_, _) _ ⟨by rw [cntB_s, show oddsB s code mk p v i = false from decide_eq_false (Int32.not_le.mpr c60)]; rfl, nI_1 i, hS2⟩
          · refine cw_iincL (L' := [_, _, _, _, _, _]) (c := 1) (pc := 63) dX8_odds_63 rfl (by decide) (by decide) rfl rfl <|
              cw_iincL (L' := [_, _, _, _, _, _]) (c := 1) (pc := 66) dX8_odds_66 rfl (by decide) (by decide) rfl rfl <|
              cw_goto (tgt := 35) (pc := 69) dX8_odds_69 (by decide) <|
              ?_
            exact ih (_, _) _ ⟨by rw [cntB_s, show oddsB s code mk p v i = true from decide_eq_true (Int32.not_lt.mp c60)]; exact nI_1 _, nI_1 i, hS2⟩
      · refine cw_aload_n (pc := 0) dX8_odds_0 rfl rfl <|
          cw_getR (q := 0) (t := 2) (pc := 1) dX8_odds_1 fX8_25 sh_0 (by decide) rfl <|
          cw_iload_n (pc := 4) dX8_odds_4 rfl rfl <|
          cw_invI (q := 2) (pc := 5) dX8_odds_5 (c_has land_2 h31 hn h6) rfl vX8_112 sh_2 (by decide) rfl rfl rfl (by decide) <|
          cw_if_eq_F (tgt := 25) (pc := 8) dX8_odds_8 (by decide) (bI_n0.mpr hx) <|
          cw_iload_n (pc := 11) dX8_odds_11 rfl rfl <|
          cw_insI (pc := 12) dX8_odds_12 c_X8_isFind vX8_209 rfl rfl rfl (by decide) <|
          cw_if_eq_F (tgt := 25) (pc := 15) dX8_odds_15 (by decide) (bI_n0.mpr hv) <|
          cw_iload_n (pc := 18) dX8_odds_18 rfl rfl <|
          cw_insI (pc := 19) dX8_odds_19 c_X8_isPart vX8_243 rfl rfl rfl (by decide) <|
          cw_if_ne_F (tgt := 29) (pc := 22) dX8_odds_22 (by decide) (bI_0.mpr hp) <|
          cw_ldc2 (pc := 25) dX8_odds_25 kX8_246 <|
          cw_lret (pc := 28) dX8_odds_28 hR <|
          ⟨by rw [oddsA, if_neg (fun h => hp h.2.2)]; rfl, Same.rf⟩
    · refine cw_aload_n (pc := 0) dX8_odds_0 rfl rfl <|
        cw_getR (q := 0) (t := 2) (pc := 1) dX8_odds_1 fX8_25 sh_0 (by decide) rfl <|
        cw_iload_n (pc := 4) dX8_odds_4 rfl rfl <|
        cw_invI (q := 2) (pc := 5) dX8_odds_5 (c_has land_2 h31 hn h6) rfl vX8_112 sh_2 (by decide) rfl rfl rfl (by decide) <|
        cw_if_eq_F (tgt := 25) (pc := 8) dX8_odds_8 (by decide) (bI_n0.mpr hx) <|
        cw_iload_n (pc := 11) dX8_odds_11 rfl rfl <|
        cw_insI (pc := 12) dX8_odds_12 c_X8_isFind vX8_209 rfl rfl rfl (by decide) <|
        cw_if_eq_T (tgt := 25) (pc := 15) dX8_odds_15 (by decide) (bI_0.mpr hv) <|
        cw_ldc2 (pc := 25) dX8_odds_25 kX8_246 <|
        cw_lret (pc := 28) dX8_odds_28 hR <|
        ⟨by rw [oddsA, if_neg (fun h => hv h.2.1)]; rfl, Same.rf⟩
  · refine cw_aload_n (pc := 0) dX8_odds_0 rfl rfl <|
      cw_getR (q := 0) (t := 2) (pc := 1) dX8_odds_1 fX8_25 sh_0 (by decide) rfl <|
      cw_iload_n (pc := 4) dX8_odds_4 rfl rfl <|
      cw_invI (q := 2) (pc := 5) dX8_odds_5 (c_has land_2 h31 hn h6) rfl vX8_112 sh_2 (by decide) rfl rfl rfl (by decide) <|
      cw_if_eq_T (tgt := 25) (pc := 8) dX8_odds_8 (by decide) (bI_0.mpr hx) <|
      cw_ldc2 (pc := 25) dX8_odds_25 kX8_246 <|
      cw_lret (pc := 28) dX8_odds_28 hR <|
      ⟨by rw [oddsA, if_neg (fun h => hx h.1)]; rfl, Same.rf⟩
/-- how many of the first so many are not AWAY; their SCORES together -/
def manyS (s : Row) (n : Nat) : Nat := cntB (naS s) n
def meanS (s : Row) (code : PCo) : Nat → Int32
  | 0 => 0
  | p + 1 => if naS s p then meanS s code p + scP s code p else meanS s code p
def absN (x : Int32) : Nat := x.toInt.natAbs
def meanA (s : Row) (code : PCo) (n : Nat) (part : Int32) : Int64 := if part = 0 ∨ part = 1 then (if manyS s n = 0 then NOl else partL (meanS s code n) (absN (meanS s code n)) (manyS s n) part) else NOl
theorem scS_rng {s : Row} {code : PCo} {yr : Int32} {p l : Nat} (h : l ≤ 8) : ∃ c : Nat, c ≤ 48 ∧ scS s code yr p l = 40 - nI c := score_of _ (fun x => line_le h x)
theorem sc_toInt {c : Nat} (h : c ≤ 48) : (40 - nI c : Int32).toInt = 40 - (c : Int) := pk_sub_toInt (a := 40) (b := c) (by decide) (by omega)
theorem meanS_rng {s : Row} {code : PCo} {n Y M : Nat} (hi : InvL s n Y M) : ∀ p, p ≤ n → -8 * (p : Int) ≤ (meanS s code p).toInt ∧ (meanS s code p).toInt ≤ 40 * p := by
  intro p
  have h6 := hi.2.1
  induction p with
  | zero => intro _; have e : (meanS s code 0).toInt = 0 := rfl
            rw [e]; omega
  | succ p ih =>
    intro hp
    obtain ⟨i1, i2⟩ := ih (by omega)
    simp only [meanS]
    by_cases h : naS s p = true
    · rw [if_pos h]
      obtain ⟨l, hl, el⟩ := (hi.2.2.2.2.2.2 p (by omega)).1
      have hpg : pgS s p ≤ 8 := by unfold pgS; rw [el]; rw [nI_clamp (by omega)]; exact hl
      obtain ⟨c, hc, ec⟩ := scS_rng (s := s) (code := code) (yr := s 0) (p := p) hpg
      have es : (scP s code p).toInt = 40 - (c : Int) := by unfold scP; rw [ec, sc_toInt hc]
      rw [Int32.toInt_add, es]
      rw [Int.bmod_eq_of_le (by omega) (by omega)]
      omega
    · rw [if_neg h]; omega
theorem abs_of {x : Int32} (h : -1000 ≤ x.toInt) : (if 0 ≤ x then x else -x) = nI (absN x) := by
  have e0 : (0 : Int32).toInt = 0 := rfl
  apply Int32.toInt_inj.mp
  have h2 := Int32.toInt_lt x
  unfold absN
  rw [nI_toInt (by omega)]
  by_cases hx : 0 ≤ x
  · rw [if_pos hx]
    have := Int32.le_iff_toInt_le.mp hx
    omega
  · rw [if_neg hx, Int32.toInt_neg]
    have := mt Int32.le_iff_toInt_le.mpr hx
    rw [Int.bmod_eq_of_le (by omega) (by omega)]
    omega
set_option maxHeartbeats 4000000 in
set_option maxRecDepth 100000 in
theorem c_X8_mean {E : Ev} {μ : Mem} {s : Row} {n mk : Nat} {code : PCo} (hI : Inv s n code mk) (hR1 : Rel μ 1 s code mk) {part : Int32} : AM E yX8_mean cX8_mean 5 (some .long) 5 [.ref 0, .int part] μ (fun r μ' => r = some (.long (meanA s code n part)) ∧ Same (fun q _ => 43 ≤ q ∧ q ≤ 64) μ μ') := by
  refine am_of (own := RX8) (L := [.ref 0, .int part, .null, .null, .null]) (by decide) rfl (Nat.le_of_ble_eq_true rfl) rfl (fun Γ hR => ?_)
  have hR0 := hR1
  obtain ⟨hIL, hIP, hIC, hIS, hIW, hIB, hIT⟩ := hI
  obtain ⟨hL, ⟨hcd, hmk⟩, hT, hC, hS, hW, hB, hnp⟩ := hR1
  have hn := hIL.1
  have h6 := hIL.2.1
  have h31 : μ 2 1 = s 31 := hL.2.1
  have hMen := hL.men hIL
  by_cases hp : part = 0 ∨ part = 1
  · refine cw_iload_n (pc := 0) dX8_mean_0 rfl rfl <|
      cw_insI (pc := 1) dX8_mean_1 c_X8_isPart vX8_243 rfl rfl rfl (by decide) <|
      cw_if_ne_T (tgt := 11) (pc := 4) dX8_mean_4 (by decide) (bI_n0.mpr hp) <|
      cw_iconst (v := 0) (pc := 11) dX8_mean_11 (by decide) <|
      cw_istore_n (L' := [_, _, _, _, _]) (pc := 12) dX8_mean_12 rfl (by decide) rfl rfl <|
      cw_iconst (v := 0) (pc := 13) dX8_mean_13 (by decide) <|
      cw_istore_n (L' := [_, _, _, _, _]) (pc := 14) dX8_mean_14 rfl (by decide) rfl rfl <|
      cw_iconst (v := 0) (pc := 15) dX8_mean_15 (by decide) <|
      cw_istore (L' := [_, _, _, _, _]) (pc := 16) dX8_mean_16 (by decide) rfl rfl <|
      ?_
    refine cw_for (σ := Int32 × Int32 × Int32) n (fun i a m => a.1 = nI (manyS s i) ∧ a.2.1 = meanS s code i ∧ a.2.2 = nI i ∧ Same (fun q _ => 43 ≤ q ∧ q ≤ 64) μ m) (fun _ a => [.ref 0, .int part, .int a.1, .int a.2.1, .int a.2.2]) ?_ ?_ 0 (0, 0, 0) μ (Nat.zero_le _) ⟨rfl, rfl, rfl, Same.rf⟩
    · rintro ⟨a, b, x⟩ m ⟨ha, hb, hx1, hS1⟩
      dsimp only at ha hb hx1 ⊢
      subst ha; subst hb; subst hx1
      have hm2 : m 2 1 = nI n := ((hS1 _ _ (by omega)).trans h31).trans hn
      have hle := cntB_le (naS s) n
      have hmr := meanS_rng (code := code) hIL n (Nat.le_refl _)
      have hml : manyS s n ≤ 6 := by unfold manyS; omega
      by_cases h0 : manyS s n = 0
      · refine cw_iload (pc := 18) dX8_mean_18 rfl <|
          cw_aload_n (pc := 20) dX8_mean_20 rfl rfl <|
          cw_getR (q := 0) (t := 2) (pc := 21) dX8_mean_21 fX8_25 sh_0 (by decide) rfl <|
          cw_getI (q := 2) (pc := 24) dX8_mean_24 fX8_199 sh_2 (by decide) rfl <|
          cw_icmp_ge_T (tgt := 66) (pc := 27) dX8_mean_27 (by decide) (by rw [hm2]; exact nI_le (Nat.le_refl _) (by omega)) <|
          cw_iload_n (pc := 66) dX8_mean_66 rfl rfl <|
          cw_if_ne_F (tgt := 76) (pc := 67) dX8_mean_67 (by decide) (by rw [h0]; rfl) <|
          cw_ldc2 (pc := 70) dX8_mean_70 kX8_246 <|
          cw_goto (tgt := 82) (pc := 73) dX8_mean_73 (by decide) <|
          cw_lret (pc := 82) dX8_mean_82 hR <|
          ⟨by rw [meanA, if_pos hp, if_pos h0]; rfl, hS1⟩
      · refine cw_iload (pc := 18) dX8_mean_18 rfl <|
          cw_aload_n (pc := 20) dX8_mean_20 rfl rfl <|
          cw_getR (q := 0) (t := 2) (pc := 21) dX8_mean_21 fX8_25 sh_0 (by decide) rfl <|
          cw_getI (q := 2) (pc := 24) dX8_mean_24 fX8_199 sh_2 (by decide) rfl <|
          cw_icmp_ge_T (tgt := 66) (pc := 27) dX8_mean_27 (by decide) (by rw [hm2]; exact nI_le (Nat.le_refl _) (by omega)) <|
          cw_iload_n (pc := 66) dX8_mean_66 rfl rfl <|
          cw_if_ne_T (tgt := 76) (pc := 67) dX8_mean_67 (by decide) (nI_ne0 (by omega) (by omega)) <|
          cw_iload_n (pc := 76) dX8_mean_76 rfl rfl <|
          cw_iload_n (pc := 77) dX8_mean_77 rfl rfl <|
          cw_iload_n (pc := 78) dX8_mean_78 rfl rfl <|
          cw_insL (pc := 79) dX8_mean_79 (c_X8_partOf (b := manyS s n) (abs_of (by omega)) (by unfold absN; omega) (by omega)) vX8_248 rfl rfl rfl (by decide) <|
          cw_lret (pc := 82) dX8_mean_82 hR <|
          ⟨by rw [meanA, if_pos hp, if_neg h0], hS1⟩
    · rintro i ⟨a, b, x⟩ m hi ⟨ha, hb, hx1, hS1⟩ ih
      dsimp only at ha hb hx1 ⊢
      subst ha; subst hb; subst hx1
      have f : ∀ q, q ≤ 21 → m q = μ q := fun q h => funext fun i => hS1 _ _ (by omega)
      have hcm := hcd.mo (f _ (by omega)) (f _ (by omega)) (f _ (by omega))
      have hLm : RelL m 2 s := hL.mo (fun q a b => f q (by omega))
      have hm2 : m 2 1 = nI n := by rw [f _ (by omega)]; exact h31.trans hn
      have haw := hLm.bitaw hIL (show i < 6 by omega)
      refine cw_iload (pc := 18) dX8_mean_18 rfl <|
        cw_aload_n (pc := 20) dX8_mean_20 rfl rfl <|
        cw_getR (q := 0) (t := 2) (pc := 21) dX8_mean_21 fX8_25 sh_0 (by decide) rfl <|
        cw_getI (q := 2) (pc := 24) dX8_mean_24 fX8_199 sh_2 (by decide) rfl <|
        cw_icmp_ge_F (tgt := 66) (pc := 27) dX8_mean_27 (by decide) (by rw [hm2]; exact nI_ge hi (by omega)) <|
        cw_aload_n (pc := 30) dX8_mean_30 rfl rfl <|
        cw_getR (q := 0) (t := 2) (pc := 31) dX8_mean_31 fX8_25 sh_0 (by decide) rfl <|
        cw_getI (q := 2) (pc := 34) dX8_mean_34 fX8_126 sh_2 (by decide) rfl <|
        cw_iload (pc := 37) dX8_mean_37 rfl <|
        cw_insI (pc := 39) dX8_mean_39 c_X8_bit vX8_129 rfl rfl rfl (by decide) <|
        ?_
      rw [haw]
      refine cw_if_ne (tgt := 60) (pc := 42) dX8_mean_42 (by decide) (fun c42 => ?_) (fun c42 => ?_)
      · refine cw_iincL (L' := [_, _, _, _, _]) (c := 1) (pc := 60) dX8_mean_60 rfl (by decide) (by decide) rfl rfl <|
          cw_goto (tgt := 18) (pc := 63) dX8_mean_63 (by decide) <|
          ?_
        exact ih (_, _, _) _ ⟨by show _ = nI (cntB _ _); rw [cntB_s, show naS s i = false from decide_eq_false c42]; rfl, by simp only [meanS]; rw [if_neg (by unfold naS; simp [c42])], nI_1 i, hS1⟩
      · refine cw_iincL (L' := [_, _, _, _, _]) (c := 1) (pc := 45) dX8_mean_45 rfl (by decide) (by decide) rfl rfl <|
          cw_iload_n (pc := 48) dX8_mean_48 rfl rfl <|
          cw_aload_n (pc := 49) dX8_mean_49 rfl rfl <|
          cw_getR (q := 0) (t := 50) (pc := 50) dX8_mean_50 fX8_35 sh_0 (by decide) rfl <|
          cw_iload (pc := 53) dX8_mean_53 rfl <|
          cw_invP (q := 50) (pc := 55) dX8_mean_55 (c_X4_pegScore plo_50 land_2 par_9 hcm hIP.2.2.2 (hLm.men hIL) hi) rfl vX8_139 sh_50 (by decide) rfl rfl rfl (by decide) <|
          ?_
        rintro _ m1 ⟨rfl, s1⟩
        rw [hLm.sy code _ (by omega), hLm.1]
        have hS2 := hS1.tr (s1.mo (fun q i h => by unfold PH at h; omega) : Same (fun q _ => 43 ≤ q ∧ q ≤ 64) m m1)
        refine cw_iadd (pc := 58) dX8_mean_58 <|
          cw_istore_n (L' := [_, _, _, _, _]) (pc := 59) dX8_mean_59 rfl (by decide) rfl rfl <|
          cw_iincL (L' := [_, _, _, _, _]) (c := 1) (pc := 60) dX8_mean_60 rfl (by decide) (by decide) rfl rfl <|
          cw_goto (tgt := 18) (pc := 63) dX8_mean_63 (by decide) <|
          ?_
        exact ih (_, _, _) _ ⟨by show _ = nI (cntB _ _); rw [cntB_s, show naS s i = true from decide_eq_true c42]; exact nI_1 _, by simp only [meanS]; rw [if_pos (by unfold naS; simp [c42])]; rfl, nI_1 i, hS2⟩
  · refine cw_iload_n (pc := 0) dX8_mean_0 rfl rfl <|
      cw_insI (pc := 1) dX8_mean_1 c_X8_isPart vX8_243 rfl rfl rfl (by decide) <|
      cw_if_ne_F (tgt := 11) (pc := 4) dX8_mean_4 (by decide) (bI_0.mpr hp) <|
      cw_ldc2 (pc := 7) dX8_mean_7 kX8_246 <|
      cw_lret (pc := 10) dX8_mean_10 hR <|
      ⟨by rw [meanA, if_neg hp]; rfl, Same.rf⟩
