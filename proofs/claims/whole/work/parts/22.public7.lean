def allB (f : Nat → Bool) : Nat → Bool
  | 0 => true
  | i + 1 => allB f i && f i
theorem allB_f {f : Nat → Bool} {i n : Nat} (h : i < n) (hf : f i = false) : allB f n = false := by
  induction n with
  | zero => omega
  | succ n ih =>
    simp only [allB]
    by_cases e : i = n
    · subst e; simp [hf]
    · rw [ih (by omega)]; rfl
def seenB (s : Row) (p : Nat) (ln : Nat → Nat) : Bool := allB (fun i => !decide (s (91 + i) = nI p) || decide (nI (ln (nN (s (96 + i)))) = s (101 + i))) (nN (s 34))
set_option maxHeartbeats 4000000 in
set_option maxRecDepth 100000 in
theorem c_X8_isAsSeen {E : Ev} {μ : Mem} {P land par : Nat} (hP : PloAt P land par) {s : Row} {n p : Nat} (hS : RelS μ 1 s) (hIS : InvS s n) {ln : Nat → Nat} (hln : ∀ x, x ≤ 12 → μ (P + 3) x = nI (ln x)) : AM E yX8_isAsSeen cX8_isAsSeen 5 (some .boolean) 1 [.ref 0, .ref P, .int (nI p)] μ (fun r μ' => r = some (.int (if seenB s p ln then 1 else 0)) ∧ μ' = μ) := by
  refine am_of (own := RX8) (L := [.ref 0, .ref P, .int (nI p), .null, .null]) (by decide) rfl (Nat.le_of_ble_eq_true rfl) rfl (fun Γ hR => ?_)
  obtain ⟨k, hk, e34, hss⟩ := hIS
  have hs2 : μ 16 2 = nI k := hS.2.1.trans e34
  have esn : seenB s p ln = allB (fun i => !decide (s (91 + i) = nI p) || decide (nI (ln (nN (s (96 + i)))) = s (101 + i))) k := by unfold seenB; rw [e34, nN_nI (by omega)]
  refine cw_iconst (v := 0) (pc := 0) dX8_isAsSeen_0 (by decide) <|
    cw_istore_n (L' := [_, _, _, _, _]) (pc := 1) dX8_isAsSeen_1 rfl (by decide) rfl rfl <|
    ?_
  refine cw_for (σ := Int32 × Value) k (fun i a m => m = μ ∧ a.1 = nI i ∧ allB (fun i => !decide (s (91 + i) = nI p) || decide (nI (ln (nN (s (96 + i)))) = s (101 + i))) i = true) (fun _ a => [.ref 0, .ref P, .int (nI p), .int a.1, a.2]) ?_ ?_ 0 (0, .null) μ (Nat.zero_le _) ⟨rfl, rfl, rfl⟩
  · rintro ⟨x, z⟩ m ⟨hm, hx, ha⟩
    dsimp only at hx ⊢
    subst hm; subst hx
    refine cw_iload_n (pc := 2) dX8_isAsSeen_2 rfl rfl <|
      cw_aload_n (pc := 3) dX8_isAsSeen_3 rfl rfl <|
      cw_getR (q := 0) (t := 1) (pc := 4) dX8_isAsSeen_4 fX8_12 sh_0 (by decide) rfl <|
      cw_getR (q := 1) (t := 16) (pc := 7) dX8_isAsSeen_7 fX8_236 sh_1 (by decide) rfl <|
      cw_getI (q := 16) (pc := 10) dX8_isAsSeen_10 fX8_159 sh_16 (by decide) rfl <|
      cw_icmp_ge_T (tgt := 75) (pc := 13) dX8_isAsSeen_13 (by decide) (by rw [hs2]; exact nI_le (Nat.le_refl _) (by omega)) <|
      cw_iconst (v := 1) (pc := 75) dX8_isAsSeen_75 (by decide) <|
      cw_zret (pc := 76) dX8_isAsSeen_76 hR rfl <|
      ⟨by rw [esn, ha]; rfl, rfl⟩
  · rintro i ⟨x, z⟩ m hi ⟨hm, hx, ha⟩ ih
    dsimp only at hx ⊢
    subst hm; subst hx
    obtain ⟨⟨a, ha6, ea⟩, ⟨x, hx12, ex⟩, l, hl8, el⟩ := hss i hi
    have r0 : m 17 (i * 3 + 0) = s (91 + i) := (hS.2.2 i (by omega)).1
    have r1 : m 17 (i * 3 + 1) = nI x := (hS.2.2 i (by omega)).2.1.trans ex
    have r2 : m 17 (i * 3 + 2) = s (101 + i) := (hS.2.2 i (by omega)).2.2
    have rl := hln x hx12
    refine cw_iload_n (pc := 2) dX8_isAsSeen_2 rfl rfl <|
      cw_aload_n (pc := 3) dX8_isAsSeen_3 rfl rfl <|
      cw_getR (q := 0) (t := 1) (pc := 4) dX8_isAsSeen_4 fX8_12 sh_0 (by decide) rfl <|
      cw_getR (q := 1) (t := 16) (pc := 7) dX8_isAsSeen_7 fX8_236 sh_1 (by decide) rfl <|
      cw_getI (q := 16) (pc := 10) dX8_isAsSeen_10 fX8_159 sh_16 (by decide) rfl <|
      cw_icmp_ge_F (tgt := 75) (pc := 13) dX8_isAsSeen_13 (by decide) (by rw [hs2]; exact nI_ge hi (by omega)) <|
      cw_aload_n (pc := 16) dX8_isAsSeen_16 rfl rfl <|
      cw_getR (q := 0) (t := 1) (pc := 17) dX8_isAsSeen_17 fX8_12 sh_0 (by decide) rfl <|
      cw_getR (q := 1) (t := 16) (pc := 20) dX8_isAsSeen_20 fX8_236 sh_1 (by decide) rfl <|
      cw_iload_n (pc := 23) dX8_isAsSeen_23 rfl rfl <|
      cw_iconst (v := 1) (pc := 24) dX8_isAsSeen_24 (by decide) <|
      cw_invI (q := 16) (pc := 25) dX8_isAsSeen_25 (c_X6_at row_16 (w := 3) (sz := k) (row := i) (col := 1) hS.1 (by decide) hs2 (by omega) (by omega) hi (by decide)) rfl vX8_206 sh_16 (by decide) rfl rfl rfl (by decide) <|
      ?_
    rw [r1]
    refine cw_istore (L' := [_, _, _, _, _]) (pc := 28) dX8_isAsSeen_28 (by decide) rfl rfl <|
      cw_aload_n (pc := 30) dX8_isAsSeen_30 rfl rfl <|
      cw_getR (q := 0) (t := 1) (pc := 31) dX8_isAsSeen_31 fX8_12 sh_0 (by decide) rfl <|
      cw_getR (q := 1) (t := 16) (pc := 34) dX8_isAsSeen_34 fX8_236 sh_1 (by decide) rfl <|
      cw_iload_n (pc := 37) dX8_isAsSeen_37 rfl rfl <|
      cw_iconst (v := 0) (pc := 38) dX8_isAsSeen_38 (by decide) <|
      cw_invI (q := 16) (pc := 39) dX8_isAsSeen_39 (c_X6_at row_16 (w := 3) (sz := k) (row := i) (col := 0) hS.1 (by decide) hs2 (by omega) (by omega) hi (by decide)) rfl vX8_206 sh_16 (by decide) rfl rfl rfl (by decide) <|
      ?_
    rw [r0]
    refine cw_iload_n (pc := 42) dX8_isAsSeen_42 rfl rfl <|
      cw_icmp_ne (tgt := 69) (pc := 43) dX8_isAsSeen_43 (by decide) (fun c43 => ?_) (fun c43 => ?_)
    · refine cw_iincL (L' := [_, _, _, _, _]) (c := 1) (pc := 69) dX8_isAsSeen_69 rfl (by decide) (by decide) rfl rfl <|
        cw_goto (tgt := 2) (pc := 72) dX8_isAsSeen_72 (by decide) <|
        ?_
      exact ih (_, _) _ ⟨rfl, nI_1 i, by
        simp only [allB, ha, Bool.true_and]
        first
          | (simp [c43]; done)
          | (rw [ex, nN_nI (by omega)]; simp [c64])⟩
    · refine cw_aload_n (pc := 46) dX8_isAsSeen_46 rfl rfl <|
        cw_iload (pc := 47) dX8_isAsSeen_47 rfl <|
        cw_invI (q := P) (pc := 49) dX8_isAsSeen_49 (c_X4_laneAt hP hx12) rfl vX8_288 hP.1 (by decide) rfl rfl rfl (by decide) <|
        ?_
      rw [rl]
      refine cw_aload_n (pc := 52) dX8_isAsSeen_52 rfl rfl <|
        cw_getR (q := 0) (t := 1) (pc := 53) dX8_isAsSeen_53 fX8_12 sh_0 (by decide) rfl <|
        cw_getR (q := 1) (t := 16) (pc := 56) dX8_isAsSeen_56 fX8_236 sh_1 (by decide) rfl <|
        cw_iload_n (pc := 59) dX8_isAsSeen_59 rfl rfl <|
        cw_iconst (v := 2) (pc := 60) dX8_isAsSeen_60 (by decide) <|
        cw_invI (q := 16) (pc := 61) dX8_isAsSeen_61 (c_X6_at row_16 (w := 3) (sz := k) (row := i) (col := 2) hS.1 (by decide) hs2 (by omega) (by omega) hi (by decide)) rfl vX8_206 sh_16 (by decide) rfl rfl rfl (by decide) <|
        ?_
      rw [r2]
      refine cw_icmp_eq (tgt := 69) (pc := 64) dX8_isAsSeen_64 (by decide) (fun c64 => ?_) (fun c64 => ?_)
      · refine cw_iincL (L' := [_, _, _, _, _]) (c := 1) (pc := 69) dX8_isAsSeen_69 rfl (by decide) (by decide) rfl rfl <|
          cw_goto (tgt := 2) (pc := 72) dX8_isAsSeen_72 (by decide) <|
          ?_
        exact ih (_, _) _ ⟨rfl, nI_1 i, by
          simp only [allB, ha, Bool.true_and]
          first
            | (simp [c43]; done)
            | (rw [ex, nN_nI (by omega)]; simp [c64])⟩
      · refine cw_iconst (v := 0) (pc := 67) dX8_isAsSeen_67 (by decide) <|
          ?_
        refine cw_zret (pc := 68) dX8_isAsSeen_68 hR rfl ⟨?_, rfl⟩
        rw [esn, allB_f hi (by rw [ex, nN_nI (by omega)]; simp [c43, c64])]; rfl
theorem seenB_cg {s : Row} {p n : Nat} {ln ln' : Nat → Nat} (h : InvS s n) (e : ∀ x, x ≤ 12 → ln x = ln' x) : seenB s p ln = seenB s p ln' := by
  obtain ⟨k, hk, e34, hss⟩ := h
  unfold seenB
  rw [e34, nN_nI (by omega)]
  have : ∀ j, j ≤ k → allB (fun i => !decide (s (91 + i) = nI p) || decide (nI (ln (nN (s (96 + i)))) = s (101 + i))) j = allB (fun i => !decide (s (91 + i) = nI p) || decide (nI (ln' (nN (s (96 + i)))) = s (101 + i))) j := by
    intro j
    induction j with
    | zero => intro _; rfl
    | succ j ih =>
      intro hj
      obtain ⟨x, hx, ex⟩ := (hss j (by omega)).2.1
      simp only [allB]
      rw [ih (by omega), ex, nN_nI (by omega), e x hx]
  exact this k (Nat.le_refl _)
def fromA (s : Row) (code : PCo) (x : Int32) : Int32 := if 0 ≤ x ∧ x < s 31 then bitsI (fun l => seenB s (nN x) (lnS s code (nN x) l)) 9 else -1
theorem bitsI_s (f : Nat → Bool) (n : Nat) : bitsI f (n + 1) = if f n then bitsI f n ||| ((1 : Int32) <<< (nI n &&& 31)) else bitsI f n := rfl
set_option maxHeartbeats 4000000 in
set_option maxRecDepth 100000 in
theorem c_X8_from {E : Ev} {μ : Mem} {s : Row} {n mk : Nat} {code : PCo} (hI : Inv s n code mk) (hR1 : Rel μ 1 s code mk) {x : Int32} : AM E yX8_from cX8_from 4 (some .int) 4 [.ref 0, .int x] μ (fun r μ' => r = some (.int (fromA s code x)) ∧ Same (fun q _ => 43 ≤ q ∧ q ≤ 64) μ μ') := by
  refine am_of (own := RX8) (L := [.ref 0, .int x, .null, .null]) (by decide) rfl (Nat.le_of_ble_eq_true rfl) rfl (fun Γ hR => ?_)
  have hR0 := hR1
  obtain ⟨hIL, hIP, hIC, hIS, hIW, hIB, hIT⟩ := hI
  obtain ⟨hL, ⟨hcd, hmk⟩, hT, hC, hS, hW, hB, hnp⟩ := hR1
  have hn := hIL.1
  have h6 := hIL.2.1
  have h31 : μ 2 1 = s 31 := hL.2.1
  by_cases hx : 0 ≤ x ∧ x < s 31
  · obtain ⟨p, hp, rfl⟩ := isM_of hn h6 hx
    have hp6 : p < 6 := by omega
    refine cw_aload_n (pc := 0) dX8_from_0 rfl rfl <|
      cw_getR (q := 0) (t := 2) (pc := 1) dX8_from_1 fX8_25 sh_0 (by decide) rfl <|
      cw_iload_n (pc := 4) dX8_from_4 rfl rfl <|
      cw_invI (q := 2) (pc := 5) dX8_from_5 (c_has land_2 h31 hn h6) rfl vX8_112 sh_2 (by decide) rfl rfl rfl (by decide) <|
      cw_if_ne_T (tgt := 13) (pc := 8) dX8_from_8 (by decide) (bI_n0.mpr hx) <|
      cw_iconst (v := 0) (pc := 13) dX8_from_13 (by decide) <|
      cw_istore_n (L' := [_, _, _, _]) (pc := 14) dX8_from_14 rfl (by decide) rfl rfl <|
      cw_iconst (v := 0) (pc := 15) dX8_from_15 (by decide) <|
      cw_istore_n (L' := [_, _, _, _]) (pc := 16) dX8_from_16 rfl (by decide) rfl rfl <|
      ?_
    refine cw_for (σ := Int32 × Int32) 9 (fun i a m => a.1 = bitsI (fun l => seenB s p (lnS s code p l)) i ∧ a.2 = nI i ∧ Same (PH 50) μ m) (fun _ a => [.ref 0, .int (nI p), .int a.1, .int a.2]) ?_ ?_ 0 (0, 0) μ (Nat.zero_le _) ⟨rfl, rfl, Same.rf⟩
    · rintro ⟨b, x⟩ m ⟨hb, hx1, hS1⟩
      dsimp only at hb hx1 ⊢
      subst hx1
      refine cw_iload_n (pc := 17) dX8_from_17 rfl rfl <|
        cw_bipush (v := 9) (pc := 18) dX8_from_18 (by decide) <|
        cw_icmp_ge_T (tgt := 57) (pc := 20) dX8_from_20 (by decide) (nI_le (a := 9) (Nat.le_refl _) (by decide)) <|
        cw_iload_n (pc := 57) dX8_from_57 rfl rfl <|
        cw_iret (pc := 58) dX8_from_58 hR <|
        ⟨by rw [fromA, if_pos hx, nN_nI (by omega), hb], hS1.mo (fun q i h => by unfold PH at h; omega)⟩
    · rintro i ⟨b, x⟩ m hi ⟨hb, hx1, hS1⟩ ih
      dsimp only at hb hx1 ⊢
      subst hx1
      have f : ∀ q, q ≤ 21 → m q = μ q := fun q h => funext fun i => hS1 _ _ (by unfold PH; omega)
      have hcm := hcd.mo (f _ (by omega)) (f _ (by omega)) (f _ (by omega))
      have hLm : RelL m 2 s := hL.mo (fun q a b => f q (by omega))
      have hmm : nI p < m 2 1 := by rw [f _ (by omega), h31]; exact hx.2
      refine cw_iload_n (pc := 17) dX8_from_17 rfl rfl <|
        cw_bipush (v := 9) (pc := 18) dX8_from_18 (by decide) <|
        cw_icmp_ge_F (tgt := 57) (pc := 20) dX8_from_20 (by decide) (nI_ge (b := 9) hi (by decide)) <|
        cw_aload_n (pc := 23) dX8_from_23 rfl rfl <|
        cw_getR (q := 0) (t := 50) (pc := 24) dX8_from_24 fX8_35 sh_0 (by decide) rfl <|
        cw_iload_n (pc := 27) dX8_from_27 rfl rfl <|
        cw_iload_n (pc := 28) dX8_from_28 rfl rfl <|
        cw_invP (q := 50) (pc := 29) dX8_from_29 (c_X4_goes plo_50 land_2 par_9 hcm hIP.2.2.2 hp6 hmm (l := i) (by omega)) rfl vX8_178 sh_50 (by decide) rfl rfl rfl (by decide) <|
        ?_
      rintro _ m1 ⟨rfl, s1, sl, -, -⟩
      have hS2 := hS1.tr s1
      have g : ∀ q, q ≤ 21 → m1 q = μ q := fun q h => funext fun i => hS2 _ _ (by unfold PH; omega)
      have hSm : RelS m1 1 s := by unfold RelS; rw [g _ (by omega), g _ (by omega)]; exact hS
      have hlx : ∀ x, x ≤ 12 → m1 53 x = nI (lnS s code p i x) := fun x hx => (sl x hx).trans (by rw [hLm.line code i hp6 x hx])
      refine cw_pop (pc := 32) dX8_from_32 rfl <|
        cw_aload_n (pc := 33) dX8_from_33 rfl rfl <|
        cw_aload_n (pc := 34) dX8_from_34 rfl rfl <|
        cw_getR (q := 0) (t := 50) (pc := 35) dX8_from_35 fX8_35 sh_0 (by decide) rfl <|
        cw_iload_n (pc := 38) dX8_from_38 rfl rfl <|
        cw_invI (q := 0) (pc := 39) dX8_from_39 (c_X8_isAsSeen plo_50 (p := p) hSm hIS hlx) rfl vX8_239 sh_0 (by decide) rfl rfl rfl (by decide) <|
        cw_if_eq (tgt := 51) (pc := 42) dX8_from_42 (by decide) (fun c42 => ?_) (fun c42 => ?_)
      · refine cw_iincL (L' := [_, _, _, _]) (c := 1) (pc := 51) dX8_from_51 rfl (by decide) (by decide) rfl rfl <|
          cw_goto (tgt := 17) (pc := 54) dX8_from_54 (by decide) <|
          ?_
        exact ih (_, _) _ ⟨by rw [bitsI_s, hb, if_neg (by revert c42; cases seenB s p (lnS s code p i) <;> simp)], nI_1 i, hS2⟩
      · refine cw_iload_n (pc := 45) dX8_from_45 rfl rfl <|
          cw_iconst (v := 1) (pc := 46) dX8_from_46 (by decide) <|
          cw_iload_n (pc := 47) dX8_from_47 rfl rfl <|
          cw_ishl (pc := 48) dX8_from_48 <|
          cw_ior (pc := 49) dX8_from_49 <|
          cw_istore_n (L' := [_, _, _, _]) (pc := 50) dX8_from_50 rfl (by decide) rfl rfl <|
          cw_iincL (L' := [_, _, _, _]) (c := 1) (pc := 51) dX8_from_51 rfl (by decide) (by decide) rfl rfl <|
          cw_goto (tgt := 17) (pc := 54) dX8_from_54 (by decide) <|
          ?_
        exact ih (_, _) _ ⟨by rw [bitsI_s, hb, if_pos (by revert c42; cases seenB s p (lnS s code p i) <;> simp)], nI_1 i, hS2⟩
  · refine cw_aload_n (pc := 0) dX8_from_0 rfl rfl <|
      cw_getR (q := 0) (t := 2) (pc := 1) dX8_from_1 fX8_25 sh_0 (by decide) rfl <|
      cw_iload_n (pc := 4) dX8_from_4 rfl rfl <|
      cw_invI (q := 2) (pc := 5) dX8_from_5 (c_has land_2 h31 hn h6) rfl vX8_112 sh_2 (by decide) rfl rfl rfl (by decide) <|
      cw_if_ne_F (tgt := 13) (pc := 8) dX8_from_8 (by decide) (bI_0.mpr hx) <|
      cw_iconst (v := -1) (pc := 11) dX8_from_11 (by decide) <|
      cw_iret (pc := 12) dX8_from_12 hR <|
      ⟨by rw [fromA, if_neg hx], Same.rf⟩
def NOl : Int64 := -9223372036854775808
def partL (top : Int32) (a b : Nat) (part : Int32) : Int64 := if gcdF 64 a b = 0 then NOl else if part = 0 then (top / nI (gcdF 64 a b)).toInt64 else (nI b / nI (gcdF 64 a b)).toInt64
theorem gcdF_le : ∀ f a b, gcdF f a b ≤ max a b := by
  intro f
  induction f with
  | zero => intro a b; rw [gcdF_0]; exact Nat.le_max_left _ _
  | succ f ih =>
    intro a b
    rw [gcdF_s]
    by_cases h : b = 0
    · rw [if_pos h]; exact Nat.le_max_left _ _
    · rw [if_neg h]
      have := ih b (a % b)
      have := Nat.mod_lt a (show 0 < b by omega)
      omega
set_option maxHeartbeats 4000000 in
set_option maxRecDepth 100000 in
theorem c_X8_partOf {E : Ev} {μ : Mem} {top part : Int32} {a b : Nat} (habs : (if 0 ≤ top then top else -top) = nI a) (ha : a < 2 ^ 31) (hb : b < 2 ^ 31) : AM E yX8_partOf cX8_partOf 4 (some .long) 1 [.int top, .int (nI b), .int part] μ (fun r μ' => r = some (.long (partL top a b part)) ∧ μ' = μ) := by
  refine am_of (own := RX8) (L := [.int top, .int (nI b), .int part, .null]) (by decide) rfl (Nat.le_of_ble_eq_true rfl) rfl (fun Γ hR => ?_)
  have hg := gcdF_le 64 a b
  have hg2 : gcdF 64 a b < 2 ^ 31 := by omega
  have ePL : partL top a b part = if gcdF 64 a b = 0 then NOl else if part = 0 then (top / nI (gcdF 64 a b)).toInt64 else (nI b / nI (gcdF 64 a b)).toInt64 := rfl
  generalize hG : gcdF 64 a b = G at hg hg2 ePL
  refine cw_iload_n (pc := 0) dX8_partOf_0 rfl rfl <|
    cw_insI (pc := 1) dX8_partOf_1 c_J9_abs_0f7a4 vX8_294 rfl rfl rfl (by decide) <|
    ?_
  rw [habs]
  refine cw_iload_n (pc := 4) dX8_partOf_4 rfl rfl <|
    cw_insI (pc := 5) dX8_partOf_5 (c_X8_commonOf (a := a) (b := b) ha hb) vX8_299 rfl rfl rfl (by decide) <|
    ?_
  rw [hG]
  refine cw_istore_n (L' := [_, _, _, _]) (pc := 8) dX8_partOf_8 rfl (by decide) rfl rfl <|
    ?_
  by_cases h0 : G = 0
  · refine cw_iload_n (pc := 9) dX8_partOf_9 rfl rfl <|
      cw_if_ne_F (tgt := 17) (pc := 10) dX8_partOf_10 (by decide) (by rw [h0]; rfl) <|
      cw_ldc2 (pc := 13) dX8_partOf_13 kX8_246 <|
      cw_lret (pc := 16) dX8_partOf_16 hR <|
      ⟨by rw [ePL, if_pos h0]; rfl, rfl⟩
  · by_cases hp : part = 0
    · refine cw_iload_n (pc := 9) dX8_partOf_9 rfl rfl <|
        cw_if_ne_T (tgt := 17) (pc := 10) dX8_partOf_10 (by decide) (nI_ne0 (by omega) hg2) <|
        cw_iload_n (pc := 17) dX8_partOf_17 rfl rfl <|
        cw_if_ne_F (tgt := 28) (pc := 18) dX8_partOf_18 (by decide) hp <|
        cw_iload_n (pc := 21) dX8_partOf_21 rfl rfl <|
        cw_iload_n (pc := 22) dX8_partOf_22 rfl rfl <|
        cw_idiv (pc := 23) dX8_partOf_23 (nI_ne0 (by omega) hg2) <|
        cw_i2l (pc := 24) dX8_partOf_24 <|
        cw_goto (tgt := 32) (pc := 25) dX8_partOf_25 (by decide) <|
        cw_lret (pc := 32) dX8_partOf_32 hR <|
        ⟨by rw [ePL, if_neg h0, if_pos hp], rfl⟩
    · refine cw_iload_n (pc := 9) dX8_partOf_9 rfl rfl <|
        cw_if_ne_T (tgt := 17) (pc := 10) dX8_partOf_10 (by decide) (nI_ne0 (by omega) hg2) <|
        cw_iload_n (pc := 17) dX8_partOf_17 rfl rfl <|
        cw_if_ne_T (tgt := 28) (pc := 18) dX8_partOf_18 (by decide) hp <|
        cw_iload_n (pc := 28) dX8_partOf_28 rfl rfl <|
        cw_iload_n (pc := 29) dX8_partOf_29 rfl rfl <|
        cw_idiv (pc := 30) dX8_partOf_30 (nI_ne0 (by omega) hg2) <|
        cw_i2l (pc := 31) dX8_partOf_31 <|
        cw_lret (pc := 32) dX8_partOf_32 hR <|
        ⟨by rw [ePL, if_neg h0, if_neg hp], rfl⟩
