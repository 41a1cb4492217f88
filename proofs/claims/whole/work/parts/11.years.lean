def PS (P : Nat) : Nat → Nat → Prop := fun q _ => P ≤ q ∧ q ≤ P + 3
def pgN (μ : Mem) (land p : Nat) : Nat := (μ (land + 4) p).toNatClampNeg
/-- n MEN, their PEGS are LANES -/
def MenAt (μ : Mem) (land n : Nat) : Prop := μ land 1 = nI n ∧ n ≤ 6 ∧ ∀ p, p < n → ∃ l, l ≤ 8 ∧ μ (land + 4) p = nI l
theorem MenAt.pg {μ : Mem} {land n p : Nat} (h : MenAt μ land n) (hp : p < n) : μ (land + 4) p = nI (pgN μ land p) ∧ pgN μ land p ≤ 8 := by
  obtain ⟨l, hl, e⟩ := h.2.2 p hp
  unfold pgN
  rw [e, nI_clamp (by omega)]
  exact ⟨rfl, hl⟩
theorem MenAt.lt {μ : Mem} {land n p : Nat} (h : MenAt μ land n) (hp : p < n) : nI p < μ land 1 := by rw [h.1]; exact nI_lt hp (by have := h.2.1; omega)
theorem MenAt.mo {μ μ' : Mem} {land n : Nat} (h : MenAt μ land n) (h0 : μ' land 1 = μ land 1) (h4 : μ' (land + 4) = μ (land + 4)) : MenAt μ' land n := ⟨by rw [h0]; exact h.1, h.2.1, fun p hp => by rw [h4]; exact h.2.2 p hp⟩
/-- the SCORE of one from its PEG, in a YEAR -/
def scY (μ : Mem) (land : Nat) (code : PCo) (yr : Int32) (p : Nat) : Int32 := scV code (μ (land + 2)) (μ (land + 3)) (μ (land + 6)) (μ (land + 1)) yr p (pgN μ land p)
def naB (μ : Mem) (land p : Nat) : Bool := decide ((μ land 2 >>> (nI p &&& 31)) &&& 1 = 0)
theorem scY_rng {μ : Mem} {land n : Nat} (h : MenAt μ land n) (code : PCo) (yr : Int32) {p : Nat} (hp : p < n) : ∃ c : Nat, c ≤ 48 ∧ scY μ land code yr p = 40 - nI c := score_of _ (fun x => line_le (h.pg hp).2 x)
set_option maxHeartbeats 4000000 in
set_option maxRecDepth 100000 in
theorem c_X4_pegScore {E : Ev} {P land par : Nat} (hP : PloAt P land par) (hk : LandAt land) (hq : ParAt par) {μ : Mem} {code : PCo} (hc : CodeAt μ par code) (hw : WFc 0 code) {n : Nat} (hn : MenAt μ land n) {p : Nat} (hp : p < n) : AM E yX4_pegScore cX4_pegScore 2 (some .int) 4 [.ref P, .int (nI p)] μ (fun r μ' => r = some (.int (scY μ land code (μ land 0) p)) ∧ Same (PH P) μ μ') := by
  refine am_of (own := RX4) (L := [.ref P, .int (nI p)]) (by decide) rfl (Nat.le_of_ble_eq_true rfl) rfl (fun Γ hR => ?_)
  have hp6 : p < 6 := Nat.lt_of_lt_of_le hp hn.2.1
  refine cw_aload_n (pc := 0) dX4_pegScore_0 rfl rfl <|
    cw_getR (q := P) (t := land) (pc := 1) dX4_pegScore_1 fX4_23 hP.1 (by decide) rfl <|
    cw_iload_n (pc := 4) dX4_pegScore_4 rfl rfl <|
    cw_invI (q := land) (pc := 5) dX4_pegScore_5 (c_X2_has hk) rfl vX4_31 hk.1 (by decide) rfl rfl rfl (by decide) <|
    cw_if_eq_F (tgt := 28) (pc := 8) dX4_pegScore_8 (by decide) (by rw [bI_t ⟨nI_pos' (by omega), hn.lt hp, nI_lt (b := 6) (by omega) (by decide)⟩]; decide) <|
    cw_aload_n (pc := 11) dX4_pegScore_11 rfl rfl <|
    cw_iload_n (pc := 12) dX4_pegScore_12 rfl rfl <|
    cw_aload_n (pc := 13) dX4_pegScore_13 rfl rfl <|
    cw_getR (q := P) (t := land) (pc := 14) dX4_pegScore_14 fX4_23 hP.1 (by decide) rfl <|
    cw_getR (q := land) (t := land + 4) (pc := 17) dX4_pegScore_17 fX4_89 hk.1 (by decide) rfl <|
    cw_iload_n (pc := 20) dX4_pegScore_20 rfl rfl <|
    cw_ial (q := land + 4) (jn := p) (pc := 21) dX4_pegScore_21 hk.2.2.2.2.1 rfl (by omega) (by decide) <|
    ?_
  rw [(hn.pg hp).1]
  refine cw_invP (q := P) (pc := 22) dX4_pegScore_22 (c_X4_goes hP hk hq hc hw hp6 (hn.lt hp) (hn.pg hp).2) rfl vX4_92 hP.1 (by decide) rfl rfl rfl (by decide) <|
    ?_
  rintro _ m ⟨rfl, hS, -, -, -⟩
  refine cw_goto (tgt := 29) (pc := 25) dX4_pegScore_25 (by decide) <|
    cw_iret (pc := 29) dX4_pegScore_29 hR <|
    ⟨rfl, hS⟩
set_option maxHeartbeats 4000000 in
set_option maxRecDepth 100000 in
theorem c_X4_scoresAll {E : Ev} {P land par : Nat} (hP : PloAt P land par) (hk : LandAt land) (hq : ParAt par) {μ : Mem} {code : PCo} (hc : CodeAt μ par code) (hw : WFc 0 code) {n : Nat} (hn : MenAt μ land n) : AM E yX4_scoresAll cX4_scoresAll 2 none 4 [.ref P] μ (fun r μ' => r = none ∧ (∀ p, p < n → naB μ land p = true → μ' (P + 2) p = scY μ land code (μ land 0) p) ∧ Same (PS P) μ μ') := by
  refine am_of (own := RX4) (L := [.ref P, .null]) (by decide) rfl (Nat.le_of_ble_eq_true rfl) rfl (fun Γ hR => ?_)
  have hn6 := hn.2.1
  refine cw_iconst (v := 0) (pc := 0) dX4_scoresAll_0 (by decide) <|
    cw_istore_n (L' := [_, _]) (pc := 1) dX4_scoresAll_1 rfl (by decide) rfl rfl <|
    ?_
  refine cw_for (σ := Int32) n (fun i a m => a = nI i ∧ Same (PS P) μ m ∧ ∀ p, p < i → naB μ land p = true → m (P + 2) p = scY μ land code (μ land 0) p) (fun _ a => [.ref P, .int a]) ?_ ?_ 0 0 μ (Nat.zero_le _) ⟨rfl, Same.rf, fun p hp => by omega⟩
  · rintro a m ⟨rfl, hS, hsc⟩
    have b1 := hP.2.2.2.2.1
    have b2 := hP.2.2.2.2.2
    have n0 : m land = μ land := funext fun i => hS _ _ (by unfold PS; omega)
    have n1 : m (land + 1) = μ (land + 1) := funext fun i => hS _ _ (by unfold PS; omega)
    have n2 : m (land + 2) = μ (land + 2) := funext fun i => hS _ _ (by unfold PS; omega)
    have n3 : m (land + 3) = μ (land + 3) := funext fun i => hS _ _ (by unfold PS; omega)
    have n4 : m (land + 4) = μ (land + 4) := funext fun i => hS _ _ (by unfold PS; omega)
    have n5 : m (land + 5) = μ (land + 5) := funext fun i => hS _ _ (by unfold PS; omega)
    have n6 : m (land + 6) = μ (land + 6) := funext fun i => hS _ _ (by unfold PS; omega)
    have hcm : CodeAt m par code := hc.mo (funext fun i => hS _ _ (by unfold PS; omega)) (funext fun i => hS _ _ (by unfold PS; omega)) (funext fun i => hS _ _ (by unfold PS; omega))
    refine cw_iload_n (pc := 2) dX4_scoresAll_2 rfl rfl <|
      cw_aload_n (pc := 3) dX4_scoresAll_3 rfl rfl <|
      cw_getR (q := P) (t := land) (pc := 4) dX4_scoresAll_4 fX4_23 hP.1 (by decide) rfl <|
      cw_getI (q := land) (pc := 7) dX4_scoresAll_7 fX4_96 hk.1 (by decide) rfl <|
      cw_icmp_ge_T (tgt := 59) (pc := 10) dX4_scoresAll_10 (by decide) (by rw [n0, hn.1]; exact nI_le (Nat.le_refl _) (by omega)) <|
      cw_vret (pc := 59) dX4_scoresAll_59 hR <|
      ⟨rfl, hsc, hS⟩
  · rintro i a m hi ⟨rfl, hS, hsc⟩ ih
    have b1 := hP.2.2.2.2.1
    have b2 := hP.2.2.2.2.2
    have n0 : m land = μ land := funext fun i => hS _ _ (by unfold PS; omega)
    have n1 : m (land + 1) = μ (land + 1) := funext fun i => hS _ _ (by unfold PS; omega)
    have n2 : m (land + 2) = μ (land + 2) := funext fun i => hS _ _ (by unfold PS; omega)
    have n3 : m (land + 3) = μ (land + 3) := funext fun i => hS _ _ (by unfold PS; omega)
    have n4 : m (land + 4) = μ (land + 4) := funext fun i => hS _ _ (by unfold PS; omega)
    have n5 : m (land + 5) = μ (land + 5) := funext fun i => hS _ _ (by unfold PS; omega)
    have n6 : m (land + 6) = μ (land + 6) := funext fun i => hS _ _ (by unfold PS; omega)
    have hcm : CodeAt m par code := hc.mo (funext fun i => hS _ _ (by unfold PS; omega)) (funext fun i => hS _ _ (by unfold PS; omega)) (funext fun i => hS _ _ (by unfold PS; omega))
    have hmm : nI i < m land 1 := by rw [n0]; exact hn.lt hi
    have hpm : m (land + 4) i = nI (pgN μ land i) := by rw [n4]; exact (hn.pg hi).1
    have esc : scoreN (lnC m land code i (pgN μ land i)) = scY μ land code (μ land 0) i := by rw [scC_eq, n0, n1, n2, n3, n6]; rfl
    refine cw_iload_n (pc := 2) dX4_scoresAll_2 rfl rfl <|
      cw_aload_n (pc := 3) dX4_scoresAll_3 rfl rfl <|
      cw_getR (q := P) (t := land) (pc := 4) dX4_scoresAll_4 fX4_23 hP.1 (by decide) rfl <|
      cw_getI (q := land) (pc := 7) dX4_scoresAll_7 fX4_96 hk.1 (by decide) rfl <|
      cw_icmp_ge_F (tgt := 59) (pc := 10) dX4_scoresAll_10 (by decide) (by rw [n0, hn.1]; exact nI_ge hi (by omega)) <|
      cw_iload_n (pc := 13) dX4_scoresAll_13 rfl rfl <|
      cw_bipush (v := 6) (pc := 14) dX4_scoresAll_14 (by decide) <|
      cw_icmp_ge_F (tgt := 59) (pc := 16) dX4_scoresAll_16 (by decide) (nI_ge (b := 6) (by omega) (by decide)) <|
      cw_aload_n (pc := 19) dX4_scoresAll_19 rfl rfl <|
      cw_getR (q := P) (t := land) (pc := 20) dX4_scoresAll_20 fX4_23 hP.1 (by decide) rfl <|
      cw_getI (q := land) (pc := 23) dX4_scoresAll_23 fX4_99 hk.1 (by decide) rfl <|
      cw_iload_n (pc := 26) dX4_scoresAll_26 rfl rfl <|
      cw_insNI (pc := 27) dX4_scoresAll_27 c_X8_bit vX4_102 rfl rfl rfl (by decide) <|
      cw_if_ne (tgt := 53) (pc := 30) dX4_scoresAll_30 (by decide) (fun c30 => ?_) (fun c30 => ?_)
    · refine cw_iincL (L' := [_, _]) (c := 1) (pc := 53) dX4_scoresAll_53 rfl (by decide) (by decide) rfl rfl <|
        cw_goto (tgt := 2) (pc := 56) dX4_scoresAll_56 (by decide) <|
        ?_
      first
        | exact ih _ _ ⟨nI_1 i, (hS.tr (hS1.mo (fun q j h => by unfold PH at h; unfold PS; omega))).s1 (by unfold PS; omega), fun p hp hna => by
            by_cases e : p = i
            · subst e; rw [st_eq]
            · rw [st_at, if_neg (by omega), hS1 _ _ (by unfold PH; omega)]; exact hsc p (by omega) hna⟩
        | exact ih _ _ ⟨nI_1 i, hS, fun p hp hna => by
            by_cases e : p = i
            · subst e; exfalso; rw [n0] at c30; unfold naB at hna; exact c30 (by simpa using hna)
            · exact hsc p (by omega) hna⟩
    · refine cw_aload_n (pc := 33) dX4_scoresAll_33 rfl rfl <|
        cw_getR (q := P) (t := P + 2) (pc := 34) dX4_scoresAll_34 fX4_17 hP.1 (by decide) rfl <|
        cw_iload_n (pc := 37) dX4_scoresAll_37 rfl rfl <|
        cw_aload_n (pc := 38) dX4_scoresAll_38 rfl rfl <|
        cw_iload_n (pc := 39) dX4_scoresAll_39 rfl rfl <|
        cw_aload_n (pc := 40) dX4_scoresAll_40 rfl rfl <|
        cw_getR (q := P) (t := land) (pc := 41) dX4_scoresAll_41 fX4_23 hP.1 (by decide) rfl <|
        cw_getR (q := land) (t := land + 4) (pc := 44) dX4_scoresAll_44 fX4_89 hk.1 (by decide) rfl <|
        cw_iload_n (pc := 47) dX4_scoresAll_47 rfl rfl <|
        cw_ial (q := land + 4) (jn := i) (pc := 48) dX4_scoresAll_48 hk.2.2.2.2.1 rfl (by omega) (by decide) <|
        ?_
      rw [hpm]
      refine cw_invP (q := P) (pc := 49) dX4_scoresAll_49 (c_X4_goes hP hk hq hcm hw (by omega) hmm (hn.pg hi).2) rfl vX4_92 hP.1 (by decide) rfl rfl rfl (by decide) <|
        ?_
      rintro _ m1 ⟨rfl, hS1, -, -, -⟩
      rw [esc]
      refine cw_ias (q := P + 2) (jn := i) (pc := 52) dX4_scoresAll_52 hP.2.2.1 rfl (by omega) (by decide) <|
        cw_iincL (L' := [_, _]) (c := 1) (pc := 53) dX4_scoresAll_53 rfl (by decide) (by decide) rfl rfl <|
        cw_goto (tgt := 2) (pc := 56) dX4_scoresAll_56 (by decide) <|
        ?_
      first
        | exact ih _ _ ⟨nI_1 i, (hS.tr (hS1.mo (fun q j h => by unfold PH at h; unfold PS; omega))).s1 (by unfold PS; omega), fun p hp hna => by
            by_cases e : p = i
            · subst e; rw [st_eq]
            · rw [st_at, if_neg (by omega), hS1 _ _ (by unfold PH; omega)]; exact hsc p (by omega) hna⟩
        | exact ih _ _ ⟨nI_1 i, hS, fun p hp hna => by
            by_cases e : p = i
            · subst e; exfalso; rw [n0] at c30; unfold naB at hna; exact c30 (by simpa using hna)
            · exact hsc p (by omega) hna⟩
set_option maxHeartbeats 4000000 in
set_option maxRecDepth 100000 in
theorem c_X4_whoHas {E : Ev} {P land par : Nat} (hP : PloAt P land par) (hk : LandAt land) {μ : Mem} {n : Nat} (hn : MenAt μ land n) {mk : Int32} : AM E yX4_whoHas cX4_whoHas 4 (some .int) 1 [.ref P, .int mk] μ (fun r μ' => r = some (.int (bitsI (fun p => naB μ land p && decide (mk ≤ μ (P + 2) p)) n)) ∧ μ' = μ) := by
  refine am_of (own := RX4) (L := [.ref P, .int mk, .null, .null]) (by decide) rfl (Nat.le_of_ble_eq_true rfl) rfl (fun Γ hR => ?_)
  have hn6 := hn.2.1
  refine cw_iconst (v := 0) (pc := 0) dX4_whoHas_0 (by decide) <|
    cw_istore_n (L' := [_, _, _, _]) (pc := 1) dX4_whoHas_1 rfl (by decide) rfl rfl <|
    cw_iconst (v := 0) (pc := 2) dX4_whoHas_2 (by decide) <|
    cw_istore_n (L' := [_, _, _, _]) (pc := 3) dX4_whoHas_3 rfl (by decide) rfl rfl <|
    ?_
  refine cw_for (σ := Int32 × Int32) n (fun i a m => m = μ ∧ a.2 = nI i ∧ a.1 = bitsI (fun p => naB μ land p && decide (mk ≤ μ (P + 2) p)) i) (fun _ a => [.ref P, .int mk, .int a.1, .int a.2]) ?_ ?_ 0 (0, 0) μ (Nat.zero_le _) ⟨rfl, rfl, rfl⟩
  · rintro ⟨b, x⟩ m ⟨hm, hx, hb⟩
    dsimp only at hx hb ⊢
    subst hm; subst hx
    refine cw_iload_n (pc := 4) dX4_whoHas_4 rfl rfl <|
      cw_aload_n (pc := 5) dX4_whoHas_5 rfl rfl <|
      cw_getR (q := P) (t := land) (pc := 6) dX4_whoHas_6 fX4_23 hP.1 (by decide) rfl <|
      cw_getI (q := land) (pc := 9) dX4_whoHas_9 fX4_96 hk.1 (by decide) rfl <|
      cw_icmp_ge_T (tgt := 57) (pc := 12) dX4_whoHas_12 (by decide) (by rw [hn.1]; exact nI_le (Nat.le_refl _) (by omega)) <|
      cw_iload_n (pc := 57) dX4_whoHas_57 rfl rfl <|
      cw_iret (pc := 58) dX4_whoHas_58 hR <|
      ⟨by rw [hb], rfl⟩
  · rintro i ⟨b, x⟩ m hi ⟨hm, hx, hb⟩ ih
    dsimp only at hx hb ⊢
    subst hm; subst hx
    have b1 := hP.2.2.2.2.1
    refine cw_iload_n (pc := 4) dX4_whoHas_4 rfl rfl <|
      cw_aload_n (pc := 5) dX4_whoHas_5 rfl rfl <|
      cw_getR (q := P) (t := land) (pc := 6) dX4_whoHas_6 fX4_23 hP.1 (by decide) rfl <|
      cw_getI (q := land) (pc := 9) dX4_whoHas_9 fX4_96 hk.1 (by decide) rfl <|
      cw_icmp_ge_F (tgt := 57) (pc := 12) dX4_whoHas_12 (by decide) (by rw [hn.1]; exact nI_ge hi (by omega)) <|
      cw_iload_n (pc := 15) dX4_whoHas_15 rfl rfl <|
      cw_bipush (v := 6) (pc := 16) dX4_whoHas_16 (by decide) <|
      cw_icmp_ge_F (tgt := 57) (pc := 18) dX4_whoHas_18 (by decide) (nI_ge (b := 6) (by omega) (by decide)) <|
      cw_aload_n (pc := 21) dX4_whoHas_21 rfl rfl <|
      cw_getR (q := P) (t := land) (pc := 22) dX4_whoHas_22 fX4_23 hP.1 (by decide) rfl <|
      cw_getI (q := land) (pc := 25) dX4_whoHas_25 fX4_99 hk.1 (by decide) rfl <|
      cw_iload_n (pc := 28) dX4_whoHas_28 rfl rfl <|
      cw_insNI (pc := 29) dX4_whoHas_29 c_X8_bit vX4_102 rfl rfl rfl (by decide) <|
      cw_if_ne (tgt := 51) (pc := 32) dX4_whoHas_32 (by decide) (fun c32 => ?_) (fun c32 => ?_)
    · refine cw_iincL (L' := [_, _, _, _]) (c := 1) (pc := 51) dX4_whoHas_51 rfl (by decide) (by decide) rfl rfl <|
        cw_goto (tgt := 4) (pc := 54) dX4_whoHas_54 (by decide) <|
        ?_
      exact ih (_, _) _ ⟨rfl, nI_1 i, by
        simp only [bitsI]
        rw [← hb]
        first
          | (rw [if_pos (by simp [naB, c32]; exact Int32.not_lt.mp c42)])
          | (rw [if_neg (by simp [naB, c32]; exact c42)])
          | (rw [if_neg (by simp [naB, c32])])⟩
    · refine cw_aload_n (pc := 35) dX4_whoHas_35 rfl rfl <|
        cw_getR (q := P) (t := P + 2) (pc := 36) dX4_whoHas_36 fX4_17 hP.1 (by decide) rfl <|
        cw_iload_n (pc := 39) dX4_whoHas_39 rfl rfl <|
        cw_ial (q := P + 2) (jn := i) (pc := 40) dX4_whoHas_40 hP.2.2.1 rfl (by omega) (by decide) <|
        cw_iload_n (pc := 41) dX4_whoHas_41 rfl rfl <|
        cw_icmp_lt (tgt := 51) (pc := 42) dX4_whoHas_42 (by decide) (fun c42 => ?_) (fun c42 => ?_)
      · refine cw_iincL (L' := [_, _, _, _]) (c := 1) (pc := 51) dX4_whoHas_51 rfl (by decide) (by decide) rfl rfl <|
          cw_goto (tgt := 4) (pc := 54) dX4_whoHas_54 (by decide) <|
          ?_
        exact ih (_, _) _ ⟨rfl, nI_1 i, by
          simp only [bitsI]
          rw [← hb]
          first
            | (rw [if_pos (by simp [naB, c32]; exact Int32.not_lt.mp c42)])
            | (rw [if_neg (by simp [naB, c32]; exact c42)])
            | (rw [if_neg (by simp [naB, c32])])⟩
      · refine cw_iload_n (pc := 45) dX4_whoHas_45 rfl rfl <|
          cw_iconst (v := 1) (pc := 46) dX4_whoHas_46 (by decide) <|
          cw_iload_n (pc := 47) dX4_whoHas_47 rfl rfl <|
          cw_ishl (pc := 48) dX4_whoHas_48 <|
          cw_ior (pc := 49) dX4_whoHas_49 <|
          cw_istore_n (L' := [_, _, _, _]) (pc := 50) dX4_whoHas_50 rfl (by decide) rfl rfl <|
          cw_iincL (L' := [_, _, _, _]) (c := 1) (pc := 51) dX4_whoHas_51 rfl (by decide) (by decide) rfl rfl <|
          cw_goto (tgt := 4) (pc := 54) dX4_whoHas_54 (by decide) <|
          ?_
        exact ih (_, _) _ ⟨rfl, nI_1 i, by
          simp only [bitsI]
          rw [← hb]
          first
            | (rw [if_pos (by simp [naB, c32]; exact Int32.not_lt.mp c42)])
            | (rw [if_neg (by simp [naB, c32]; exact c42)])
            | (rw [if_neg (by simp [naB, c32])])⟩
set_option maxHeartbeats 4000000 in
set_option maxRecDepth 100000 in
theorem c_X4_bestOfAll {E : Ev} {P land par : Nat} (hP : PloAt P land par) (hk : LandAt land) {μ : Mem} {n : Nat} (hn : MenAt μ land n) : AM E yX4_bestOfAll cX4_bestOfAll 4 (some .int) 1 [.ref P] μ (fun r μ' => r = some (.int (bestF (naB μ land) (μ (P + 2)) (-999999) n).1) ∧ μ' = μ) := by
  refine am_of (own := RX4) (L := [.ref P, .null, .null, .null]) (by decide) rfl (Nat.le_of_ble_eq_true rfl) rfl (fun Γ hR => ?_)
  have hn6 := hn.2.1
  refine cw_bipush (v := -5) (pc := 0) dX4_bestOfAll_0 (by decide) <|
    cw_istore_n (L' := [_, _, _, _]) (pc := 2) dX4_bestOfAll_2 rfl (by decide) rfl rfl <|
    cw_ldc (pc := 3) dX4_bestOfAll_3 kX4_105 <|
    cw_istore_n (L' := [_, _, _, _]) (pc := 5) dX4_bestOfAll_5 rfl (by decide) rfl rfl <|
    cw_iconst (v := 0) (pc := 6) dX4_bestOfAll_6 (by decide) <|
    cw_istore_n (L' := [_, _, _, _]) (pc := 7) dX4_bestOfAll_7 rfl (by decide) rfl rfl <|
    ?_
  refine cw_for (σ := Int32 × Int32 × Int32) n (fun i a m => m = μ ∧ a.2.2 = nI i ∧ (a.1, a.2.1) = bestF (naB μ land) (μ (P + 2)) (-999999) i) (fun _ a => [.ref P, .int a.1, .int a.2.1, .int a.2.2]) ?_ ?_ 0 (-5, -999999, 0) μ (Nat.zero_le _) ⟨rfl, rfl, rfl⟩
  · rintro ⟨b, mo, x⟩ m ⟨hm, hx, hb⟩
    dsimp only at hx hb ⊢
    subst hm; subst hx
    refine cw_iload_n (pc := 8) dX4_bestOfAll_8 rfl rfl <|
      cw_aload_n (pc := 9) dX4_bestOfAll_9 rfl rfl <|
      cw_getR (q := P) (t := land) (pc := 10) dX4_bestOfAll_10 fX4_23 hP.1 (by decide) rfl <|
      cw_getI (q := land) (pc := 13) dX4_bestOfAll_13 fX4_96 hk.1 (by decide) rfl <|
      cw_icmp_ge_T (tgt := 64) (pc := 16) dX4_bestOfAll_16 (by decide) (by rw [hn.1]; exact nI_le (Nat.le_refl _) (by omega)) <|
      cw_iload_n (pc := 64) dX4_bestOfAll_64 rfl rfl <|
      cw_iret (pc := 65) dX4_bestOfAll_65 hR <|
      ⟨by rw [← hb], rfl⟩
  · rintro i ⟨b, mo, x⟩ m hi ⟨hm, hx, hb⟩ ih
    dsimp only at hx hb ⊢
    subst hm; subst hx
    have b1 := hP.2.2.2.2.1
    refine cw_iload_n (pc := 8) dX4_bestOfAll_8 rfl rfl <|
      cw_aload_n (pc := 9) dX4_bestOfAll_9 rfl rfl <|
      cw_getR (q := P) (t := land) (pc := 10) dX4_bestOfAll_10 fX4_23 hP.1 (by decide) rfl <|
      cw_getI (q := land) (pc := 13) dX4_bestOfAll_13 fX4_96 hk.1 (by decide) rfl <|
      cw_icmp_ge_F (tgt := 64) (pc := 16) dX4_bestOfAll_16 (by decide) (by rw [hn.1]; exact nI_ge hi (by omega)) <|
      cw_iload_n (pc := 19) dX4_bestOfAll_19 rfl rfl <|
      cw_bipush (v := 6) (pc := 20) dX4_bestOfAll_20 (by decide) <|
      cw_icmp_ge_F (tgt := 64) (pc := 22) dX4_bestOfAll_22 (by decide) (nI_ge (b := 6) (by omega) (by decide)) <|
      cw_aload_n (pc := 25) dX4_bestOfAll_25 rfl rfl <|
      cw_getR (q := P) (t := land) (pc := 26) dX4_bestOfAll_26 fX4_23 hP.1 (by decide) rfl <|
      cw_getI (q := land) (pc := 29) dX4_bestOfAll_29 fX4_99 hk.1 (by decide) rfl <|
      cw_iload_n (pc := 32) dX4_bestOfAll_32 rfl rfl <|
      cw_insNI (pc := 33) dX4_bestOfAll_33 c_X8_bit vX4_102 rfl rfl rfl (by decide) <|
      cw_if_ne (tgt := 58) (pc := 36) dX4_bestOfAll_36 (by decide) (fun c36 => ?_) (fun c36 => ?_)
    · refine cw_iincL (L' := [_, _, _, _]) (c := 1) (pc := 58) dX4_bestOfAll_58 rfl (by decide) (by decide) rfl rfl <|
        cw_goto (tgt := 8) (pc := 61) dX4_bestOfAll_61 (by decide) <|
        ?_
      refine ih (_, _, _) _ ⟨rfl, nI_1 i, ?_⟩
      simp only [bestF]
      rw [← hb, if_neg (by
        rintro ⟨h1, h2⟩
        simp only [naB, decide_eq_true_eq] at h1
        first | exact c36 h1 | exact absurd h2 (Int32.not_lt.mpr c46))]
    · refine cw_aload_n (pc := 39) dX4_bestOfAll_39 rfl rfl <|
        cw_getR (q := P) (t := P + 2) (pc := 40) dX4_bestOfAll_40 fX4_17 hP.1 (by decide) rfl <|
        cw_iload_n (pc := 43) dX4_bestOfAll_43 rfl rfl <|
        cw_ial (q := P + 2) (jn := i) (pc := 44) dX4_bestOfAll_44 hP.2.2.1 rfl (by omega) (by decide) <|
        cw_iload_n (pc := 45) dX4_bestOfAll_45 rfl rfl <|
        cw_icmp_le (tgt := 58) (pc := 46) dX4_bestOfAll_46 (by decide) (fun c46 => ?_) (fun c46 => ?_)
      · refine cw_iincL (L' := [_, _, _, _]) (c := 1) (pc := 58) dX4_bestOfAll_58 rfl (by decide) (by decide) rfl rfl <|
          cw_goto (tgt := 8) (pc := 61) dX4_bestOfAll_61 (by decide) <|
          ?_
        refine ih (_, _, _) _ ⟨rfl, nI_1 i, ?_⟩
        simp only [bestF]
        rw [← hb, if_neg (by
          rintro ⟨h1, h2⟩
          simp only [naB, decide_eq_true_eq] at h1
          first | exact c36 h1 | exact absurd h2 (Int32.not_lt.mpr c46))]
      · refine cw_aload_n (pc := 49) dX4_bestOfAll_49 rfl rfl <|
          cw_getR (q := P) (t := P + 2) (pc := 50) dX4_bestOfAll_50 fX4_17 hP.1 (by decide) rfl <|
          cw_iload_n (pc := 53) dX4_bestOfAll_53 rfl rfl <|
          cw_ial (q := P + 2) (jn := i) (pc := 54) dX4_bestOfAll_54 hP.2.2.1 rfl (by omega) (by decide) <|
          cw_istore_n (L' := [_, _, _, _]) (pc := 55) dX4_bestOfAll_55 rfl (by decide) rfl rfl <|
          cw_iload_n (pc := 56) dX4_bestOfAll_56 rfl rfl <|
          cw_istore_n (L' := [_, _, _, _]) (pc := 57) dX4_bestOfAll_57 rfl (by decide) rfl rfl <|
          cw_iincL (L' := [_, _, _, _]) (c := 1) (pc := 58) dX4_bestOfAll_58 rfl (by decide) (by decide) rfl rfl <|
          cw_goto (tgt := 8) (pc := 61) dX4_bestOfAll_61 (by decide) <|
          ?_
        refine ih (_, _, _) _ ⟨rfl, nI_1 i, ?_⟩
        simp only [bestF]
        rw [← hb, if_pos ⟨by simp [naB, c36], Int32.not_le.mp c46⟩]; rfl
